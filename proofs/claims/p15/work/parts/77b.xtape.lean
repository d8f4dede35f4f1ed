theorem up_n {M : Mx} {a b n : Nat} {x : Int32} (hb : b < 2 ^ 31) (hn : n < 2 ^ 31) : (up M a (nI b) x).1 a (nI n) = if n = b then x else M.1 a (nI n) := by
  simp only [up, true_and]
  by_cases h : n = b
  · rw [if_pos h, if_pos (by rw [h])]
  · rw [if_neg h, if_neg (fun z => h ((nI_eq hn hb).mp z))]
theorem upo {M : Mx} {a b : Nat} {j i x : Int32} (h : b ≠ a) : (up M a j x).1 b i = M.1 b i := by simp [up, h]
theorem upf {M : Mx} {a : Nat} {j i x : Int32} (h : ¬ i = j) : (up M a j x).1 a i = M.1 a i := by simp [up, h]
theorem upa {M : Mx} {a : Nat} {j x : Int32} : (up M a j x).1 a j = x := by simp [up]
/-- the class's text -/
abbrev tb (M : Mx) (i : Nat) : Int32 := M.1 159 (nI i)
def sa (M : Mx) (i : Int32) : Int32 := if 0 ≤ i ∧ i < M.1 158 0 then M.1 159 i else 0
theorem sa_n {M : Mx} {i n : Nat} (en : M.1 158 0 = nI n) (hn : n ≤ 400) (hi : i < n) : sa M (nI i) = tb M i := by
  unfold sa
  rw [if_pos ⟨(nI_leI (a := 0) (by omega) (by omega)).mpr (by omega), by rw [en]; exact (nI_ltI (by omega) (by omega)).mpr hi⟩]
theorem sa_e {M N : Mx} {i : Int32} (e0 : N.1 158 0 = M.1 158 0) (e : ∀ j, N.1 159 j = M.1 159 j) : sa N i = sa M i := by
  unfold sa
  rw [e0, e]
theorem nI_sb {a b : Nat} : nI (a + b) - nI a = nI b := by
  show Int32.ofNat (a + b) - Int32.ofNat a = Int32.ofNat b
  rw [Int32.ofNat_add, Int32.add_comm, Int32.add_sub_cancel]
theorem ix2 {x : Int32} {m : Nat} {mm : Int32} (hM : mm.toInt = m) (h0 : 0 ≤ x) (h1 : x ≤ mm) : ∃ n : Nat, n ≤ m ∧ x = nI n := nI_of2 hM (Int32.not_lt.mpr h0) h1
theorem sn_1 {b : Nat → Int32} {s k : Nat} {x r : Int32} (hv : (k ≤ 4 ∧ x = nv b s k) ∨ (4 < k ∧ x = -1)) (er : r = b (s + k)) (c : k < 4) : (k + 1 ≤ 4 ∧ x * 10 + r - 48 = nv b s (k + 1)) ∨ (4 < k + 1 ∧ x * 10 + r - 48 = -1) := by
  rcases hv with ⟨-, hv⟩ | ⟨hv, -⟩
  · refine Or.inl ⟨by omega, ?_⟩
    show _ = nv b s k * 10 + (b (s + k) - 48)
    rw [hv, er, Int32.sub_eq_add_neg, Int32.add_assoc, ← Int32.sub_eq_add_neg]
  · omega
theorem run_i {q : Int32 → Prop} {b : Nat → Int32} {n s k : Nat} (hk : s + k ≤ n) (h : ∀ j, s ≤ j → j < s + k → q (b j)) (hx : ¬ (s + k < n ∧ q (b (s + k)))) : Run q b n s (s + k) := ⟨by omega, fun j h1 h2 => ⟨by omega, h j h1 h2⟩, hx⟩
theorem all_s {q : Int32 → Prop} {b : Nat → Int32} {s k : Nat} (h : ∀ j, s ≤ j → j < s + k → q (b j)) (hq : q (b (s + k))) : ∀ j, s ≤ j → j < s + (k + 1) → q (b j) := fun j h1 h2 => by
  by_cases z : j = s + k
  · rw [z]; exact hq
  · exact h j h1 (by omega)

set_option maxHeartbeats 400000 in
set_option maxRecDepth 100000 in
theorem t_X8_isLetter {gk : Gk} {ad : Nat → Nat} (c : Int32) (M : Mx) (hT : TX M) : Ct (gk, (ad, shX)) yX8_isLetter cX8_isLetter 1 (some .boolean) 2 0 0 [.int c] M (Rs (gk, (ad, shX)) (RI (fun r M' => M' = M ∧ ((r = 1 ∧ (isL c)) ∨ (r = 0 ∧ ¬ (isL c)))))) := by
  refine Ct.of (by decide) (Nat.le_of_ble_eq_true rfl) ?_
  intro G hgk hQ hmc hms hZ hnm K
  have hgk : gk = xk G := hgk.symm
  subst hgk
  have hq : ∀ (r : Int32) (M' : Mx), (M' = M ∧ ((r = 1 ∧ (isL c)) ∨ (r = 0 ∧ ¬ (isL c)))) → xQ G (xk G, (ad, shX)) (some (.int r)) M' := fun r M' h => by rw [hQ]; exact ⟨rfl, r, rfl, h⟩
  show AW G 1 (ad, shX) 0 0 M 0 [(0, .int c)] []
  refine aw_iload_n K dX8_isLetter_0 0 rfl rfl ?_
  refine aw_bipush (v := 97) K dX8_isLetter_1 (by decide) ?_
  refine aw_bipush (v := 122) K dX8_isLetter_3 (by decide) ?_
  refine aw_cNi (As := [.int c, .int 97, .int 122]) (rest := []) K lnX8_29 dX8_isLetter_5 (c_X11_isWithin c 97 122 M ) rfl rfl (Nat.le_of_ble_eq_true rfl) (by decide) (by decide) (Nat.zero_le _) (Nat.zero_le _) (fun r_1 M_3 h_2 => ?_)
  obtain ⟨eM, h_2⟩ := h_2
  replace eM := eM.symm
  subst eM
  have J_10 : ∀ (v_9 : Int32), (((¬ r_1 = 0) ∧ v_9 = 1) ∨ ((r_1 = 0) ∧ (∃ (r_5 : Int32), ((r_5 = 1 ∧ (65 ≤ c ∧ c ≤ 90)) ∨ (r_5 = 0 ∧ ¬ (65 ≤ c ∧ c ≤ 90))) ∧ (r_5 = 0) ∧ v_9 = 0)) ∨ ((r_1 = 0) ∧ (∃ (r_5 : Int32), ((r_5 = 1 ∧ (65 ≤ c ∧ c ≤ 90)) ∨ (r_5 = 0 ∧ ¬ (65 ≤ c ∧ c ≤ 90))) ∧ (¬ (r_5 = 0)) ∧ v_9 = 1))) → AW G 1 (ad, shX) 0 0 M 27 [(0, .int c)] [.int v_9] := by
    intro v_9  h_11
    refine aw_zret (v := v_9) K dX8_isLetter_27 (nar_b (by clear hgk hq hQ hmc hms hZ hnm K G; grind (splits := 30))) (hq v_9 M ?_) hZ hmc.symm hms.symm
    refine ⟨rfl, ?_⟩
    clear hgk hq hQ hmc hms hZ hnm K G
    grind (splits := 30)
  refine aw_if_ne (tgt := 22) K dX8_isLetter_8 (by decide) (fun c_4 => ?_) (fun c_4 => ?_)
  · refine aw_iconst (v := 1) K dX8_isLetter_22 (by decide) ?_
    refine aw_goto (tgt := 27) K dX8_isLetter_23 (by decide) ?_
    exact J_10 _  (Or.inl ⟨c_4, rfl⟩)
  · refine aw_iload_n K dX8_isLetter_11 0 rfl rfl ?_
    refine aw_bipush (v := 65) K dX8_isLetter_12 (by decide) ?_
    refine aw_bipush (v := 90) K dX8_isLetter_14 (by decide) ?_
    refine aw_cNi (As := [.int c, .int 65, .int 90]) (rest := []) K lnX8_29 dX8_isLetter_16 (c_X11_isWithin c 65 90 M ) rfl rfl (Nat.le_of_ble_eq_true rfl) (by decide) (by decide) (Nat.zero_le _) (Nat.zero_le _) (fun r_14 M_16 h_15 => ?_)
    obtain ⟨eM, h_15⟩ := h_15
    replace eM := eM.symm
    subst eM
    refine aw_if_eq (tgt := 26) K dX8_isLetter_19 (by decide) (fun c_17 => ?_) (fun c_17 => ?_)
    · refine aw_iconst (v := 0) K dX8_isLetter_26 (by decide) ?_
      exact J_10 _  (Or.inr (Or.inl ⟨c_4, r_14, h_15, c_17, rfl⟩))
    · refine aw_iconst (v := 1) K dX8_isLetter_22 (by decide) ?_
      refine aw_goto (tgt := 27) K dX8_isLetter_23 (by decide) ?_
      exact J_10 _  (Or.inr (Or.inr (⟨c_4, r_14, h_15, c_17, rfl⟩)))

set_option maxHeartbeats 400000 in
set_option maxRecDepth 100000 in
theorem t_X8_isDigit {gk : Gk} {ad : Nat → Nat} (c : Int32) (M : Mx) (hT : TX M) : Ct (gk, (ad, shX)) yX8_isDigit cX8_isDigit 1 (some .boolean) 2 0 0 [.int c] M (Rs (gk, (ad, shX)) (RI (fun r M' => M' = M ∧ ((r = 1 ∧ (isD c)) ∨ (r = 0 ∧ ¬ (isD c)))))) := by
  refine Ct.of (by decide) (Nat.le_of_ble_eq_true rfl) ?_
  intro G hgk hQ hmc hms hZ hnm K
  have hgk : gk = xk G := hgk.symm
  subst hgk
  have hq : ∀ (r : Int32) (M' : Mx), (M' = M ∧ ((r = 1 ∧ (isD c)) ∨ (r = 0 ∧ ¬ (isD c)))) → xQ G (xk G, (ad, shX)) (some (.int r)) M' := fun r M' h => by rw [hQ]; exact ⟨rfl, r, rfl, h⟩
  show AW G 1 (ad, shX) 0 0 M 0 [(0, .int c)] []
  refine aw_iload_n K dX8_isDigit_0 0 rfl rfl ?_
  refine aw_bipush (v := 48) K dX8_isDigit_1 (by decide) ?_
  refine aw_bipush (v := 57) K dX8_isDigit_3 (by decide) ?_
  refine aw_cNi (As := [.int c, .int 48, .int 57]) (rest := []) K lnX8_29 dX8_isDigit_5 (c_X11_isWithin c 48 57 M ) rfl rfl (Nat.le_of_ble_eq_true rfl) (by decide) (by decide) (Nat.zero_le _) (Nat.zero_le _) (fun r_1 M_3 h_2 => ?_)
  obtain ⟨eM, h_2⟩ := h_2
  replace eM := eM.symm
  subst eM
  refine aw_zret (v := r_1) K dX8_isDigit_8 (nar_b (by clear hgk hq hQ hmc hms hZ hnm K G; grind (splits := 30))) (hq r_1 M ?_) hZ hmc.symm hms.symm
  refine ⟨rfl, ?_⟩
  clear hgk hq hQ hmc hms hZ hnm K G
  grind (splits := 30)

set_option maxHeartbeats 400000 in
set_option maxRecDepth 100000 in
theorem t_X8_signAt {gk : Gk} {ad : Nat → Nat} (i : Int32) (M : Mx) (hT : TX M) : Ct (gk, (ad, shX)) yX8_signAt cX8_signAt 2 (some .int) 2 0 0 [.ref 158, .int i] M (Rs (gk, (ad, shX)) (RI (fun r M' => M' = M ∧ (r = sa M i ∧ 0 ≤ r ∧ r ≤ 255)))) := by
  refine Ct.of (by decide) (Nat.le_of_ble_eq_true rfl) ?_
  intro G hgk hQ hmc hms hZ hnm K
  have hgk : gk = xk G := hgk.symm
  subst hgk
  have hq : ∀ (r : Int32) (M' : Mx), (M' = M ∧ (r = sa M i ∧ 0 ≤ r ∧ r ≤ 255)) → xQ G (xk G, (ad, shX)) (some (.int r)) M' := fun r M' h => by rw [hQ]; exact ⟨rfl, r, rfl, h⟩
  show AW G 2 (ad, shX) 0 0 M 0 [(0, .ref 158), (1, .int i)] []
  refine aw_iload_n K dX8_signAt_0 1 rfl rfl ?_
  refine aw_iconst (v := 0) K dX8_signAt_1 (by decide) ?_
  refine aw_aload_n K dX8_signAt_2 0 rfl rfl ?_
  refine aw_geti (j := 0) (i := 0) K cf8 flX8_19 dX8_signAt_3 s158 (by decide) rfl rfl ?_
  refine aw_topi (fun v_1 ev_1 => ?_)
  have bv_1 : 0 ≤ v_1 ∧ v_1 ≤ 400 := by rw [ev_1]; exact tX_158_0 hT
  refine aw_sipush (v := 400) K dX8_signAt_6 (by decide) ?_
  refine aw_min K mlX8_23 dX8_signAt_9 (by decide) (Nat.le_of_ble_eq_true rfl) (Nat.zero_le _) (Nat.zero_le _) sta_min ini_math cd_min ?_
  refine aw_topi (fun v_2 ev_2 => ?_)
  refine aw_iconst (v := 1) K dX8_signAt_12 (by decide) ?_
  refine aw_isub K dX8_signAt_13 ?_
  refine aw_cNi (As := [.int i, .int 0, .int (v_2 - 1)]) (rest := []) K lnX8_29 dX8_signAt_14 (c_X11_isWithin i 0 (v_2 - 1) M ) rfl rfl (Nat.le_of_ble_eq_true rfl) (by decide) (by decide) (Nat.zero_le _) (Nat.zero_le _) (fun r_3 M_5 h_4 => ?_)
  obtain ⟨eM, h_4⟩ := h_4
  replace eM := eM.symm
  subst eM
  refine aw_if_eq (tgt := 29) K dX8_signAt_17 (by decide) (fun c_6 => ?_) (fun c_6 => ?_)
  · refine aw_iconst (v := 0) K dX8_signAt_29 (by decide) ?_
    refine aw_iret (v := 0) K dX8_signAt_30 (hq 0 M ?_) hZ hmc.symm hms.symm
    refine ⟨rfl, ?_⟩
    clear hgk hq hQ hmc hms hZ hnm K G
    refine ⟨?_, by grind (splits := 30), by grind (splits := 30)⟩
    unfold sa
    grind (splits := 30)
  · refine aw_aload_n K dX8_signAt_20 0 rfl rfl ?_
    refine aw_getr (j := 1) K cf8 flX8_9 dX8_signAt_21 s158 (by decide) rfl ?_
    refine aw_iload_n K dX8_signAt_24 1 rfl rfl ?_
    refine aw_iald (nv := 400) K dX8_signAt_25 s159 (by decide) (by decide) (by clear hgk hq hQ hmc hms hZ hnm K G; grind (splits := 30)) (by clear hgk hq hQ hmc hms hZ hnm K G; grind (splits := 30)) ?_
    refine aw_topi (fun v_7 ev_7 => ?_)
    have bv_7 : 0 ≤ v_7 ∧ v_7 ≤ 255 := by rw [ev_7]; exact tX_159 hT
    refine aw_goto (tgt := 30) K dX8_signAt_26 (by decide) ?_
    refine aw_iret (v := v_7) K dX8_signAt_30 (hq v_7 M ?_) hZ hmc.symm hms.symm
    refine ⟨rfl, ?_⟩
    clear hgk hq hQ hmc hms hZ hnm K G
    refine ⟨?_, by grind (splits := 30), by grind (splits := 30)⟩
    unfold sa
    grind (splits := 30)

theorem nc_i {b : Nat → Int32} {s k : Nat} {x : Int32} (hv : (k ≤ 4 ∧ x = nv b s k) ∨ (4 < k ∧ x = -1)) : Nc b s (s + k) x := by
  rcases hv with ⟨h1, h2⟩ | ⟨h1, h2⟩
  · exact Or.inl ⟨by omega, by rw [Nat.add_sub_cancel_left]; exact h2⟩
  · exact Or.inr ⟨by omega, h2⟩

set_option maxHeartbeats 400000 in
set_option maxRecDepth 100000 in
theorem t_X8_scanNumber {gk : Gk} {ad : Nat → Nat} {s n : Nat} (M : Mx) (hT : TX M) (h0 : M.1 158 5 = nI s) (h1 : M.1 158 0 = nI n) (h2 : s ≤ n) (h3 : n ≤ 400) : Ct (gk, (ad, shX)) yX8_scanNumber cX8_scanNumber 3 (some .int) 3 0 0 [.ref 158] M (Rs (gk, (ad, shX)) (RI (fun r M' => TX M' ∧ SX M M' ∧ (∃ e, Run isD (tb M) n s e ∧ M'.1 158 5 = nI e ∧ Nc (tb M) s e r)))) := by
  refine Ct.of (by decide) (Nat.le_of_ble_eq_true rfl) ?_
  intro G hgk hQ hmc hms hZ hnm K
  have hgk : gk = xk G := hgk.symm
  subst hgk
  have hq : ∀ (r : Int32) (M' : Mx), (TX M' ∧ SX M M' ∧ (∃ e, Run isD (tb M) n s e ∧ M'.1 158 5 = nI e ∧ Nc (tb M) s e r)) → xQ G (xk G, (ad, shX)) (some (.int r)) M' := fun r M' h => by rw [hQ]; exact ⟨rfl, r, rfl, h⟩
  show AW G 3 (ad, shX) 0 0 M 0 [(0, .ref 158)] []
  have hS0 : SX M M := Sx.rf
  refine aw_aload_n K dX8_scanNumber_0 0 rfl rfl ?_
  refine aw_geti (j := 5) (i := 5) K cf8 flX8_38 dX8_scanNumber_1 s158 (by decide) rfl rfl ?_
  refine aw_topi (fun v_1 ev_1 => ?_)
  have bv_1 : 0 ≤ v_1 ∧ v_1 ≤ 400 := by rw [ev_1]; exact tX_158_5 hT
  refine aw_istore_n (lv' := [(0, .ref 158), (1, .int v_1)]) K dX8_scanNumber_4 [1, 0] rfl rfl (by decide) ?_
  refine aw_iconst (v := 0) K dX8_scanNumber_5 (by decide) ?_
  refine aw_istore_n (lv' := [(0, .ref 158), (1, .int v_1), (2, .int 0)]) K dX8_scanNumber_6 [1, 2, 0] rfl rfl (by decide) ?_
  have L7 : ∀ (k7 : Int32), 0 ≤ k7 → k7 ≤ 2147483647 → ∀ (x7_2 : Int32), ∀ (M7 : Mx), TX M7 → SX M M7 → (M7.1 158 5 = k7 ∧ (∃ k : Nat, s + k ≤ n ∧ M7.1 158 5 = nI (s + k) ∧ (∀ j, s ≤ j → j < s + k → isD (tb M j)) ∧ ((k ≤ 4 ∧ x7_2 = nv (tb M) s k) ∨ (4 < k ∧ x7_2 = -1)))) → AW G 3 (ad, shX) 0 0 M7 7 [(0, .ref 158), (1, .int v_1), (2, .int x7_2)] [] := by
    refine for_up 2147483647 ?_
    intro k7 hk70 hk71 ih7 x7_2 M7 hT7 hS7 hI7
    obtain ⟨ekk, k, kn, ek, hd, hv⟩ := hI7
    have e4 := nI_sb (a := s) (b := k)
    rw [← ek, ← h0] at e4
    refine aw_aload_n K dX8_scanNumber_7 0 rfl rfl ?_
    refine aw_geti (j := 5) (i := 5) K cf8 flX8_38 dX8_scanNumber_8 s158 (by decide) rfl rfl ?_
    refine aw_topi (fun v_2 ev_2 => ?_)
    have bv_2 : 0 ≤ v_2 ∧ v_2 ≤ 400 := by rw [ev_2]; exact tX_158_5 hT7
    refine aw_aload_n K dX8_scanNumber_11 0 rfl rfl ?_
    refine aw_geti (j := 0) (i := 0) K cf8 flX8_19 dX8_scanNumber_12 s158 (by decide) rfl rfl ?_
    refine aw_topi (fun v_3 ev_3 => ?_)
    have bv_3 : 0 ≤ v_3 ∧ v_3 ≤ 400 := by rw [ev_3]; exact tX_158_0 hT7
    refine aw_icmp_ge (tgt := 76) K dX8_scanNumber_15 (by decide) (fun c_4 => ?_) (fun c_4 => ?_)
    · refine aw_iload_n K dX8_scanNumber_76 2 rfl rfl ?_
      refine aw_iret (v := x7_2) K dX8_scanNumber_77 (hq x7_2 M7 ?_) hZ hmc.symm hms.symm
      refine ⟨hT7, hS7, ?_⟩
      clear hgk hq hQ hmc hms hZ hnm K ih7 G
      refine ⟨s + k, run_i kn hd ?_, ek, nc_i hv⟩
      rintro ⟨z1, z2⟩
      first
      | exact absurd ((nI_ltI (by omega) (by omega)).mpr z1) (by rw [← ek, ← h1, ← hS7 158 0 (by decide)]; clear hd hv; grind (splits := 30))
      | (rw [← hr] at z2; clear hd hv; grind (splits := 30))
    · have hlt : s + k < n := (nI_ltI (by omega) (by omega)).mp (by rw [← ek, ← h1, ← hS7 158 0 (by decide)]; clear hd hv; grind)
      refine aw_aload_n K dX8_scanNumber_18 0 rfl rfl ?_
      refine aw_aload_n K dX8_scanNumber_19 0 rfl rfl ?_
      refine aw_geti (j := 5) (i := 5) K cf8 flX8_38 dX8_scanNumber_20 s158 (by decide) rfl rfl ?_
      refine aw_topi (fun v_5 ev_5 => ?_)
      have bv_5 : 0 ≤ v_5 ∧ v_5 ≤ 400 := by rw [ev_5]; exact tX_158_5 hT7
      refine aw_cVi (k := 158) (As := [.int v_5]) (rest := []) K cf8 lnX8_41 dX8_scanNumber_23 s158 (t_X8_signAt v_5 M7 hT7 ) rfl rfl (Nat.le_of_ble_eq_true rfl) (by decide) (by decide) (Nat.zero_le _) (Nat.zero_le _) (fun r_6 M_8 h_7 => ?_)
      obtain ⟨eM, h_7⟩ := h_7
      replace eM := eM.symm
      subst eM
      have hr : r_6 = tb M (s + k) := by rw [h_7.1, show v_5 = nI (s + k) from (show v_5 = M7.1 158 5 by assumption).trans ek, sa_e (hS7 158 0 (by decide)) (fun j => hS7 159 j (by simp [aX])), sa_n h1 h3 hlt]
      refine aw_cSi (As := [.int r_6]) (rest := []) K lnX8_56 dX8_scanNumber_26 (t_X8_isDigit r_6 M7 hT7 ) rfl rfl (Nat.le_of_ble_eq_true rfl) (by decide) (by decide) (Nat.zero_le _) (Nat.zero_le _) (fun r_9 M_11 h_10 => ?_)
      obtain ⟨eM, h_10⟩ := h_10
      replace eM := eM.symm
      subst eM
      refine aw_if_eq (tgt := 76) K dX8_scanNumber_29 (by decide) (fun c_12 => ?_) (fun c_12 => ?_)
      · refine aw_iload_n K dX8_scanNumber_76 2 rfl rfl ?_
        refine aw_iret (v := x7_2) K dX8_scanNumber_77 (hq x7_2 M7 ?_) hZ hmc.symm hms.symm
        refine ⟨hT7, hS7, ?_⟩
        clear hgk hq hQ hmc hms hZ hnm K ih7 G
        refine ⟨s + k, run_i kn hd ?_, ek, nc_i hv⟩
        rintro ⟨z1, z2⟩
        first
        | exact absurd ((nI_ltI (by omega) (by omega)).mpr z1) (by rw [← ek, ← h1, ← hS7 158 0 (by decide)]; clear hd hv; grind (splits := 30))
        | (rw [← hr] at z2; clear hd hv; grind (splits := 30))
      · have hdg : isD (tb M (s + k)) := by rw [← hr]; clear hd hv; grind
        refine aw_aload_n K dX8_scanNumber_32 0 rfl rfl ?_
        refine aw_geti (j := 5) (i := 5) K cf8 flX8_38 dX8_scanNumber_33 s158 (by decide) rfl rfl ?_
        refine aw_topi (fun v_13 ev_13 => ?_)
        have bv_13 : 0 ≤ v_13 ∧ v_13 ≤ 400 := by rw [ev_13]; exact tX_158_5 hT7
        refine aw_iload_n K dX8_scanNumber_36 1 rfl rfl ?_
        refine aw_isub K dX8_scanNumber_37 ?_
        refine aw_iconst (v := 4) K dX8_scanNumber_38 (by decide) ?_
        refine aw_icmp_ge (tgt := 61) K dX8_scanNumber_39 (by decide) (fun c_14 => ?_) (fun c_14 => ?_)
        · have k4 : 4 ≤ k := (nI_leI (a := 4) (by decide) (by omega)).mp (by rw [← e4]; show 4 ≤ M7.1 158 5 - M.1 158 5; clear hd hv; grind)
          refine aw_iconst (v := (-1)) K dX8_scanNumber_61 (by decide) ?_
          refine aw_istore_n (lv' := [(0, .ref 158), (1, .int v_1), (2, .int (-1))]) K dX8_scanNumber_62 [1, 2, 0] rfl rfl (by decide) ?_
          refine aw_aload_n K dX8_scanNumber_63 0 rfl rfl ?_
          refine aw_dup K dX8_scanNumber_64 rfl ?_
          refine aw_geti (j := 5) (i := 5) K cf8 flX8_38 dX8_scanNumber_65 s158 (by decide) rfl rfl ?_
          refine aw_topi (fun v_15 ev_15 => ?_)
          have bv_15 : 0 ≤ v_15 ∧ v_15 ≤ 400 := by rw [ev_15]; exact tX_158_5 hT7
          refine aw_iconst (v := 1) K dX8_scanNumber_68 (by decide) ?_
          refine aw_iadd K dX8_scanNumber_69 ?_
          refine aw_puti (j := 5) (i := 5) (ty := .int) K cf8 flX8_38 dX8_scanNumber_70 s158 (by decide) rfl rfl rfl (by decide +kernel) rfl rfl (ln_ok rfl) ?_
          have hT_16 : TX (up M7 158 5 (v_15 + 1)) := uX_158_5 hT7 (by clear hgk hq hQ hmc hms hZ hnm K ih7 G; grind (splits := 30)) (by clear hgk hq hQ hmc hms hZ hnm K ih7 G; grind (splits := 30))
          have hS_17 : SX M (up M7 158 5 (v_15 + 1)) := nX_158_5 hS7
          refine aw_goto (tgt := 7) K dX8_scanNumber_73 (by decide) ?_
          exact ih7 (by clear hgk hq hQ hmc hms hZ hnm K ih7 G; grind (splits := 30)) _ _ hT_16 hS_17 ⟨(by clear hgk hq hQ hmc hms hZ hnm K ih7 G; clear hd hv; simp [up]; grind (splits := 30)), k + 1, by omega, (by rw [upa, show s + (k + 1) = s + k + 1 by omega, ← nI_1, ← ek]; congr 1), all_s hd hdg, (by first | exact sn_1 hv hr2 k4 | exact Or.inr ⟨by omega, rfl⟩)⟩
        · have k4 : k < 4 := (nI_ltI (b := 4) (by omega) (by decide)).mp (by rw [← e4]; show M7.1 158 5 - M.1 158 5 < 4; clear hd hv; grind)
          refine aw_iload_n K dX8_scanNumber_42 2 rfl rfl ?_
          refine aw_bipush (v := 10) K dX8_scanNumber_43 (by decide) ?_
          refine aw_imul K dX8_scanNumber_45 ?_
          refine aw_aload_n K dX8_scanNumber_46 0 rfl rfl ?_
          refine aw_aload_n K dX8_scanNumber_47 0 rfl rfl ?_
          refine aw_geti (j := 5) (i := 5) K cf8 flX8_38 dX8_scanNumber_48 s158 (by decide) rfl rfl ?_
          refine aw_topi (fun v_18 ev_18 => ?_)
          have bv_18 : 0 ≤ v_18 ∧ v_18 ≤ 400 := by rw [ev_18]; exact tX_158_5 hT7
          refine aw_cVi (k := 158) (As := [.int v_18]) (rest := [.int (x7_2 * 10)]) K cf8 lnX8_41 dX8_scanNumber_51 s158 (t_X8_signAt v_18 M7 hT7 ) rfl rfl (Nat.le_of_ble_eq_true rfl) (by decide) (by decide) (Nat.zero_le _) (Nat.zero_le _) (fun r_19 M_21 h_20 => ?_)
          obtain ⟨eM, h_20⟩ := h_20
          replace eM := eM.symm
          subst eM
          have hr2 : r_19 = tb M (s + k) := by rw [h_20.1, show v_18 = nI (s + k) from (show v_18 = M7.1 158 5 by assumption).trans ek, sa_e (hS7 158 0 (by decide)) (fun j => hS7 159 j (by simp [aX])), sa_n h1 h3 hlt]
          refine aw_iadd K dX8_scanNumber_54 ?_
          refine aw_bipush (v := 48) K dX8_scanNumber_55 (by decide) ?_
          refine aw_isub K dX8_scanNumber_57 ?_
          refine aw_goto (tgt := 62) K dX8_scanNumber_58 (by decide) ?_
          refine aw_istore_n (lv' := [(0, .ref 158), (1, .int v_1), (2, .int (((x7_2 * 10) + r_19) - 48))]) K dX8_scanNumber_62 [1, 2, 0] rfl rfl (by decide) ?_
          refine aw_aload_n K dX8_scanNumber_63 0 rfl rfl ?_
          refine aw_dup K dX8_scanNumber_64 rfl ?_
          refine aw_geti (j := 5) (i := 5) K cf8 flX8_38 dX8_scanNumber_65 s158 (by decide) rfl rfl ?_
          refine aw_topi (fun v_22 ev_22 => ?_)
          have bv_22 : 0 ≤ v_22 ∧ v_22 ≤ 400 := by rw [ev_22]; exact tX_158_5 hT7
          refine aw_iconst (v := 1) K dX8_scanNumber_68 (by decide) ?_
          refine aw_iadd K dX8_scanNumber_69 ?_
          refine aw_puti (j := 5) (i := 5) (ty := .int) K cf8 flX8_38 dX8_scanNumber_70 s158 (by decide) rfl rfl rfl (by decide +kernel) rfl rfl (ln_ok rfl) ?_
          have hT_23 : TX (up M7 158 5 (v_22 + 1)) := uX_158_5 hT7 (by clear hgk hq hQ hmc hms hZ hnm K ih7 G; grind (splits := 30)) (by clear hgk hq hQ hmc hms hZ hnm K ih7 G; grind (splits := 30))
          have hS_24 : SX M (up M7 158 5 (v_22 + 1)) := nX_158_5 hS7
          refine aw_goto (tgt := 7) K dX8_scanNumber_73 (by decide) ?_
          exact ih7 (by clear hgk hq hQ hmc hms hZ hnm K ih7 G; grind (splits := 30)) _ _ hT_23 hS_24 ⟨(by clear hgk hq hQ hmc hms hZ hnm K ih7 G; clear hd hv; simp [up]; grind (splits := 30)), k + 1, by omega, (by rw [upa, show s + (k + 1) = s + k + 1 by omega, ← nI_1, ← ek]; congr 1), all_s hd hdg, (by first | exact sn_1 hv hr2 k4 | exact Or.inr ⟨by omega, rfl⟩)⟩
  exact L7 (M.1 158 5) (tX_158_5 hT).1 (mx_le _) _ _ hT hS0 ⟨rfl, 0, by omega, (by rw [Nat.add_zero]; exact h0), (fun j q1 q2 => absurd q2 (by omega)), Or.inl ⟨by omega, rfl⟩⟩

/-- where the w-th word begins among the words -/
def wof (w : Nat) : Nat := [0, 6, 11, 14, 18, 22, 27, 34, 39, 45, 50, 56, 60, 64, 69, 73].getD w 73
theorem wof_k : ∀ w : Fin 15, wof (w.val + 1) = wof w.val + (wd w.val).length + 1 ∧ wof w.val + (wd w.val).length < 73 ∧ wb0 (nI (wof w.val + (wd w.val).length)) &&& 255 = 32 ∧ ∀ t : Fin 6, t.val < (wd w.val).length → wb0 (nI (wof w.val + t.val)) &&& 255 = (wd w.val).getD t.val 0 ∧ ¬ (wd w.val).getD t.val 0 = 32 := by decide +kernel
theorem wof_e {w : Nat} (hw : w < 15) : wof (w + 1) = wof w + (wd w).length + 1 ∧ wof w + (wd w).length < 73 ∧ wb0 (nI (wof w + (wd w).length)) &&& 255 = 32 := ⟨(wof_k ⟨w, hw⟩).1, (wof_k ⟨w, hw⟩).2.1, (wof_k ⟨w, hw⟩).2.2.1⟩
theorem wof_t {w t : Nat} (hw : w < 15) (ht : t < (wd w).length) : wb0 (nI (wof w + t)) &&& 255 = (wd w).getD t 0 ∧ ¬ (wd w).getD t 0 = 32 := by
  have := wd_6 ⟨w, hw⟩
  have l : (wd w).length ≤ 6 := this
  exact (wof_k ⟨w, hw⟩).2.2.2 ⟨t, by omega⟩ ht

set_option maxHeartbeats 400000 in
set_option maxRecDepth 100000 in
theorem t_X8_isWordAt {gk : Gk} {ad : Nat → Nat} (b e f : Int32) (M : Mx) (hT : TX M) (h0 : 0 ≤ b) (h1 : e ≤ 73) (h2 : b ≤ e) : Ct (gk, (ad, shX)) yX8_isWordAt cX8_isWordAt 5 (some .boolean) 5 0 0 [.ref 158, .int b, .int e, .int f] M (Rs (gk, (ad, shX)) (RI (fun r M' => M' = M ∧ ((r = 1 ∧ ∀ i, b ≤ i → i < e → wb0 i &&& 255 = sa M (f + i - b)) ∨ (r = 0 ∧ ∃ i, b ≤ i ∧ i < e ∧ ¬ wb0 i &&& 255 = sa M (f + i - b)))))) := by
  refine Ct.of (by decide) (Nat.le_of_ble_eq_true rfl) ?_
  intro G hgk hQ hmc hms hZ hnm K
  have hgk : gk = xk G := hgk.symm
  subst hgk
  have hq : ∀ (r : Int32) (M' : Mx), (M' = M ∧ ((r = 1 ∧ ∀ i, b ≤ i → i < e → wb0 i &&& 255 = sa M (f + i - b)) ∨ (r = 0 ∧ ∃ i, b ≤ i ∧ i < e ∧ ¬ wb0 i &&& 255 = sa M (f + i - b)))) → xQ G (xk G, (ad, shX)) (some (.int r)) M' := fun r M' h => by rw [hQ]; exact ⟨rfl, r, rfl, h⟩
  show AW G 5 (ad, shX) 0 0 M 0 [(0, .ref 158), (1, .int b), (2, .int e), (3, .int f)] []
  refine aw_iload_n K dX8_isWordAt_0 1 rfl rfl ?_
  refine aw_istore (lv' := [(0, .ref 158), (1, .int b), (2, .int e), (3, .int f), (4, .int b)]) K dX8_isWordAt_1 [1, 2, 3, 4, 0] rfl (by decide) ?_
  have L3 : ∀ (k3 : Int32), 0 ≤ k3 → k3 ≤ 73 → (b ≤ k3 ∧ ∀ i, b ≤ i → i < k3 → wb0 i &&& 255 = sa M (f + i - b)) → AW G 5 (ad, shX) 0 0 M 3 [(0, .ref 158), (1, .int b), (2, .int e), (3, .int f), (4, .int k3)] [] := by
    refine for_up 73 ?_
    intro k3 hk30 hk31 ih3   hI3
    obtain ⟨hbk, hall⟩ := hI3
    refine aw_iload K dX8_isWordAt_3 4 rfl ?_
    refine aw_iload_n K dX8_isWordAt_5 2 rfl rfl ?_
    refine aw_icmp_ge (tgt := 37) K dX8_isWordAt_6 (by decide) (fun c_1 => ?_) (fun c_1 => ?_)
    · refine aw_iconst (v := 1) K dX8_isWordAt_37 (by decide) ?_
      refine aw_zret (v := 1) K dX8_isWordAt_38 rfl (hq 1 M ?_) hZ hmc.symm hms.symm
      refine ⟨rfl, ?_⟩
      clear hgk hq hQ hmc hms hZ hnm K ih3 G
      exact Or.inl ⟨rfl, fun i q1 q2 => hall i q1 (Int32.lt_of_lt_of_le q2 (by assumption))⟩
    · refine aw_ldW K dX8_isWordAt_9 ?_
      refine aw_iload K dX8_isWordAt_11 4 rfl ?_
      refine aw_cVSi (i := 0) (As := [.int k3]) (rest := []) K (by decide) lnX8_73 dX8_isWordAt_13 (t_J0_charAt_5068e k3 M (by clear hgk hq hQ hmc hms hZ hnm K ih3 G; grind (splits := 30)) (by clear hgk hq hQ hmc hms hZ hnm K ih3 G; grind (splits := 30))) rfl rfl (Nat.le_of_ble_eq_true rfl) (by decide) (by decide) (Nat.zero_le _) (Nat.zero_le _) (fun r_2 M_4 h_3 => ?_)
      obtain ⟨eM, h_3⟩ := h_3
      replace eM := eM.symm
      subst eM
      have qc := h_3
      refine aw_aload_n K dX8_isWordAt_16 0 rfl rfl ?_
      refine aw_iload_n K dX8_isWordAt_17 3 rfl rfl ?_
      refine aw_iload K dX8_isWordAt_18 4 rfl ?_
      refine aw_iadd K dX8_isWordAt_20 ?_
      refine aw_iload_n K dX8_isWordAt_21 1 rfl rfl ?_
      refine aw_isub K dX8_isWordAt_22 ?_
      refine aw_cVi (k := 158) (As := [.int ((f + k3) - b)]) (rest := [.int r_2]) K cf8 lnX8_41 dX8_isWordAt_23 s158 (t_X8_signAt ((f + k3) - b) M hT ) rfl rfl (Nat.le_of_ble_eq_true rfl) (by decide) (by decide) (Nat.zero_le _) (Nat.zero_le _) (fun r_5 M_7 h_6 => ?_)
      obtain ⟨eM, h_6⟩ := h_6
      replace eM := eM.symm
      subst eM
      have qs := h_6.1
      refine aw_icmp_eq (tgt := 31) K dX8_isWordAt_26 (by decide) (fun c_8 => ?_) (fun c_8 => ?_)
      · refine aw_iinc (v := (k3 + 1)) (lv' := [(0, .ref 158), (1, .int b), (2, .int e), (3, .int f), (4, .int (k3 + 1))]) K dX8_isWordAt_31 4 rfl rfl [1, 2, 3, 4, 0] rfl (by decide) ?_
        refine aw_goto (tgt := 3) K dX8_isWordAt_34 (by decide) ?_
        exact ih3 (by clear hgk hq hQ hmc hms hZ hnm K ih3 G; grind (splits := 30))   ⟨(by clear hgk hq hQ hmc hms hZ hnm K ih3 G; clear hall; grind), fun i q1 q2 => by rcases lt_k2 (by clear hgk hq hQ hmc hms hZ hnm K ih3 G; clear hall; grind) q2 with z | z; exact hall i q1 z; (rw [z, ← qc, ← qs]; assumption)⟩
      · refine aw_iconst (v := 0) K dX8_isWordAt_29 (by decide) ?_
        refine aw_zret (v := 0) K dX8_isWordAt_30 rfl (hq 0 M ?_) hZ hmc.symm hms.symm
        refine ⟨rfl, ?_⟩
        clear hgk hq hQ hmc hms hZ hnm K ih3 G
        exact Or.inr ⟨rfl, k3, hbk, by clear hall; grind (splits := 30), by rw [← qc, ← qs]; assumption⟩
  exact L3 b h0 (by clear hgk hq hQ hmc hms hZ hnm K L3 G; grind)   ⟨Int32.le_refl _, fun i q1 q2 => (Int32.lt_irrefl (Int32.lt_of_le_of_lt q1 q2)).elim⟩

theorem ww_i {s a t : Nat} : nI s + nI (a + t) - nI a = nI (s + t) := by
  have e : nI s + nI (a + t) = nI (a + (s + t)) := by
    rw [show a + (s + t) = s + (a + t) by omega]
    exact (Int32.ofNat_add s (a + t)).symm
  rw [e, nI_sb]
theorem ww_y {M : Mx} {s n w k : Nat} {b e f : Int32} (h1 : M.1 158 0 = nI n) (h3 : n ≤ 400) (hk : s + k ≤ n) (hw : w < 15) (el : (wd w).length = k) (eb : b = nI (wof w)) (ee : e = nI (wof w + (wd w).length)) (ef : f = nI s) (h : ∀ i, b ≤ i → i < e → wb0 i &&& 255 = sa M (f + i - b)) : WA (tb M) s (s + k) w := ⟨by omega, fun t ht => by
  have l := (wof_e hw).2.1
  have z := h (nI (wof w + t)) (by rw [eb]; exact (nI_leI (by omega) (by omega)).mpr (by omega)) (by rw [ee]; exact (nI_ltI (by omega) (by omega)).mpr (by omega))
  rw [(wof_t hw ht).1, ef, eb, ww_i, sa_n h1 h3 (by omega)] at z
  exact z.symm⟩
theorem ww_n {M : Mx} {s n w k : Nat} {b e f : Int32} (h1 : M.1 158 0 = nI n) (h3 : n ≤ 400) (hk : s + k ≤ n) (hw : w < 15) (el : (wd w).length = k) (eb : b = nI (wof w)) (ee : e = nI (wof w + (wd w).length)) (ef : f = nI s) (h : ∃ i, b ≤ i ∧ i < e ∧ ¬ wb0 i &&& 255 = sa M (f + i - b)) : ¬ WA (tb M) s (s + k) w := fun wa => by
  have l := (wof_e hw).2.1
  obtain ⟨i, i1, i2, i3⟩ := h
  have b0 : 0 ≤ i := Int32.le_trans (by rw [eb]; exact (nI_leI (a := 0) (by omega) (by omega)).mpr (by omega)) i1
  obtain ⟨j, hj, ej⟩ := ix2 (m := 73) (mm := 73) rfl b0 (by
    have z := Int32.le_of_lt i2
    rw [ee] at z
    exact Int32.le_trans z ((nI_leI (b := 73) (by omega) (by omega)).mpr (by omega)))
  subst ej
  rw [eb] at i1
  rw [ee] at i2
  have j1 := (nI_leI (by omega) (by omega)).mp i1
  have j2 := (nI_ltI (by omega) (by omega)).mp i2
  obtain ⟨t, rfl⟩ : ∃ t, j = wof w + t := ⟨j - wof w, by omega⟩
  rw [(wof_t hw (by omega)).1, ef, eb, ww_i, sa_n h1 h3 (by omega)] at i3
  exact i3 (wa.2 t (by omega)).symm
theorem ww_l {b : Nat → Int32} {s k w : Nat} (h : ¬ (wd w).length = k) : ¬ WA b s (s + k) w := fun wa => h (by have := wa.1; omega)
/-- where a blank stands among the words -/
theorem ww_b {w : Nat} {i : Int32} (hw : w < 15) (h0 : nI (wof w) ≤ i) (h1 : i ≤ nI (wof w + (wd w).length)) : (wb0 i &&& 255 = 32 → i = nI (wof w + (wd w).length)) ∧ (¬ wb0 i &&& 255 = 32 → i < nI (wof w + (wd w).length)) := by
  have l := (wof_e hw).2.1
  have b0 : 0 ≤ i := Int32.le_trans ((nI_leI (a := 0) (by omega) (by omega)).mpr (by omega)) h0
  obtain ⟨j, hj, ej⟩ := ix2 (m := 73) (mm := 73) rfl b0 (Int32.le_trans h1 ((nI_leI (b := 73) (by omega) (by omega)).mpr (by omega)))
  subst ej
  have j1 := (nI_leI (by omega) (by omega)).mp h0
  have j2 := (nI_leI (by omega) (by omega)).mp h1
  obtain ⟨t, rfl⟩ : ∃ t, j = wof w + t := ⟨j - wof w, by omega⟩
  by_cases z : t = (wd w).length
  · subst z
    exact ⟨fun _ => rfl, fun q => absurd (wof_e hw).2.2 q⟩
  · have q := wof_t hw (t := t) (by omega)
    refine ⟨fun c => absurd (q.1.symm.trans c) q.2, fun _ => (nI_ltI (by omega) (by omega)).mpr (by omega)⟩
theorem ww_s {w : Nat} {x : Int32} (h : x = -300 - nI w) : x + -1 = -300 - nI (w + 1) := by
  rw [h, ← nI_1]
  generalize nI w = y
  grind

set_option maxHeartbeats 1000000 in
set_option maxRecDepth 100000 in
theorem t_X8_scanWord {gk : Gk} {ad : Nat → Nat} {s n : Nat} (M : Mx) (hT : TX M) (h0 : M.1 158 5 = nI s) (h1 : M.1 158 0 = nI n) (h2 : s ≤ n) (h3 : n ≤ 400) : Ct (gk, (ad, shX)) yX8_scanWord cX8_scanWord 5 (some .int) 6 0 0 [.ref 158] M (Rs (gk, (ad, shX)) (RI (fun r M' => TX M' ∧ SX M M' ∧ (∃ e, Run isL (tb M) n s e ∧ M'.1 158 5 = nI e ∧ Wc (tb M) s e r)))) := by
  refine Ct.of (by decide) (Nat.le_of_ble_eq_true rfl) ?_
  intro G hgk hQ hmc hms hZ hnm K
  have hgk : gk = xk G := hgk.symm
  subst hgk
  have hq : ∀ (r : Int32) (M' : Mx), (TX M' ∧ SX M M' ∧ (∃ e, Run isL (tb M) n s e ∧ M'.1 158 5 = nI e ∧ Wc (tb M) s e r)) → xQ G (xk G, (ad, shX)) (some (.int r)) M' := fun r M' h => by rw [hQ]; exact ⟨rfl, r, rfl, h⟩
  show AW G 5 (ad, shX) 0 0 M 0 [(0, .ref 158)] []
  have hS0 : SX M M := Sx.rf
  refine aw_aload_n K dX8_scanWord_0 0 rfl rfl ?_
  refine aw_geti (j := 5) (i := 5) K cf8 flX8_38 dX8_scanWord_1 s158 (by decide) rfl rfl ?_
  refine aw_topi (fun v_1 ev_1 => ?_)
  have bv_1 : 0 ≤ v_1 ∧ v_1 ≤ 400 := by rw [ev_1]; exact tX_158_5 hT
  refine aw_istore_n (lv' := [(0, .ref 158), (1, .int v_1)]) K dX8_scanWord_4 [1, 0] rfl rfl (by decide) ?_
  have L5 : ∀ (k5 : Int32), 0 ≤ k5 → k5 ≤ 2147483647 → ∀ (M5 : Mx), TX M5 → SX M M5 → (M5.1 158 5 = k5 ∧ (∃ k : Nat, s + k ≤ n ∧ M5.1 158 5 = nI (s + k) ∧ (∀ j, s ≤ j → j < s + k → isL (tb M j)))) → AW G 5 (ad, shX) 0 0 M5 5 [(0, .ref 158), (1, .int v_1)] [] := by
    refine for_up 2147483647 ?_
    intro k5 hk50 hk51 ih5  M5 hT5 hS5 hI5
    obtain ⟨ekk, k, kn, ek, hd⟩ := hI5
    have e4 := nI_sb (a := s) (b := k)
    rw [← ek, ← h0] at e4
    refine aw_aload_n K dX8_scanWord_5 0 rfl rfl ?_
    refine aw_geti (j := 5) (i := 5) K cf8 flX8_38 dX8_scanWord_6 s158 (by decide) rfl rfl ?_
    refine aw_topi (fun v_2 ev_2 => ?_)
    have bv_2 : 0 ≤ v_2 ∧ v_2 ≤ 400 := by rw [ev_2]; exact tX_158_5 hT5
    refine aw_aload_n K dX8_scanWord_9 0 rfl rfl ?_
    refine aw_geti (j := 0) (i := 0) K cf8 flX8_19 dX8_scanWord_10 s158 (by decide) rfl rfl ?_
    refine aw_topi (fun v_3 ev_3 => ?_)
    have bv_3 : 0 ≤ v_3 ∧ v_3 ≤ 400 := by rw [ev_3]; exact tX_158_0 hT5
    refine aw_icmp_ge (tgt := 43) K dX8_scanWord_13 (by decide) (fun c_4 => ?_) (fun c_4 => ?_)
    · have etb : tb M5 = tb M := funext (fun i => hS5 159 _ (by simp [aX]))
      have h15 : M5.1 158 0 = nI n := (hS5 158 0 (by decide)).trans h1
      have hR : Run isL (tb M) n s (s + k) := run_i kn hd (by
        rintro ⟨z1, z2⟩
        first
        | exact absurd ((nI_ltI (by omega) (by omega)).mpr z1) (by rw [← ek, ← h1, ← hS5 158 0 (by decide)]; clear hd; grind)
        | (rw [← hr] at z2; clear hd; grind))
      refine aw_sipush (v := (-300)) K dX8_scanWord_43 (by decide) ?_
      refine aw_istore_n (lv' := [(0, .ref 158), (1, .int v_1), (2, .int (-300))]) K dX8_scanWord_46 [1, 2, 0] rfl rfl (by decide) ?_
      refine aw_iconst (v := 0) K dX8_scanWord_47 (by decide) ?_
      refine aw_istore_n (lv' := [(0, .ref 158), (1, .int v_1), (2, .int (-300)), (3, .int 0)]) K dX8_scanWord_48 [1, 2, 3, 0] rfl rfl (by decide) ?_
      refine aw_iconst (v := 0) K dX8_scanWord_49 (by decide) ?_
      refine aw_istore (lv' := [(0, .ref 158), (1, .int v_1), (2, .int (-300)), (3, .int 0), (4, .int 0)]) K dX8_scanWord_50 [1, 2, 3, 4, 0] rfl (by decide) ?_
      have L52 : ∀ (k52 : Int32), 0 ≤ k52 → k52 ≤ 73 → ∀ (x52_2 : Int32), ∀ (x52_3 : Int32), (∃ w : Nat, w ≤ 15 ∧ x52_2 = -300 - nI w ∧ x52_3 = nI (wof w) ∧ nI (wof w) ≤ k52 ∧ (w < 15 → k52 ≤ nI (wof w + (wd w).length)) ∧ ∀ v, v < w → ¬ WA (tb M) s (s + k) v) → AW G 5 (ad, shX) 0 0 M5 52 [(0, .ref 158), (1, .int v_1), (2, .int x52_2), (3, .int x52_3), (4, .int k52)] [] := by
        refine for_up 73 ?_
        intro k52 hk520 hk521 ih52 x52_2 x52_3  hI52
        obtain ⟨w, w15, ew, ebg, wb, wl, hno⟩ := hI52
        refine aw_iload K dX8_scanWord_52 4 rfl ?_
        refine aw_ldW K dX8_scanWord_54 ?_
        refine aw_cVSi (i := 0) (As := []) (rest := [.int k52]) K (by decide) lnX8_71 dX8_scanWord_56 (t_J0_length_8abf5 M5 ) rfl rfl (Nat.le_of_ble_eq_true rfl) (by decide) (by decide) (Nat.zero_le _) (Nat.zero_le _) (fun r_5 M_7 h_6 => ?_)
        obtain ⟨eM, h_6⟩ := h_6
        replace eM := eM.symm
        subst eM
        refine aw_icmp_ge (tgt := 114) K dX8_scanWord_59 (by decide) (fun c_8 => ?_) (fun c_8 => ?_)
        · refine aw_iconst (v := (-1)) K dX8_scanWord_114 (by decide) ?_
          refine aw_iret (v := (-1)) K dX8_scanWord_115 (hq (-1) M5 ?_) hZ hmc.symm hms.symm
          refine ⟨hT5, hS5, ?_⟩
          clear hgk hq hQ hmc hms hZ hnm K ih5 ih52 G
          refine ⟨s + k, hR, ek, Or.inr ⟨fun v hv => ?_, rfl⟩⟩
          rcases Nat.lt_or_ge w 15 with z | z
          · exfalso
            have q := wl z
            have l := (wof_e z).2.1
            have q2 : k52 < 73 := Int32.lt_of_le_of_lt q ((nI_ltI (b := 73) (by omega) (by omega)).mpr l)
            clear hd hno
            grind (splits := 30)
          · exact hno v (by omega)
        · have hw : w < 15 := by
            rcases Nat.lt_or_ge w 15 with z | z
            · exact z
            · exfalso
              have e15 : w = 15 := by omega
              subst e15
              clear hd hno
              have q : (73 : Int32) ≤ k52 := wb
              grind
          have wl := wl hw
          have wo := wof_e hw
          have k9 := nI_sb (a := wof w) (b := (wd w).length)
          refine aw_ldW K dX8_scanWord_62 ?_
          refine aw_iload K dX8_scanWord_64 4 rfl ?_
          refine aw_cVSi (i := 0) (As := [.int k52]) (rest := []) K (by decide) lnX8_73 dX8_scanWord_66 (t_J0_charAt_5068e k52 M5 (by clear hgk hq hQ hmc hms hZ hnm K ih5 ih52 G; grind (splits := 30)) (by clear hgk hq hQ hmc hms hZ hnm K ih5 ih52 G; grind (splits := 30))) rfl rfl (Nat.le_of_ble_eq_true rfl) (by decide) (by decide) (Nat.zero_le _) (Nat.zero_le _) (fun r_9 M_11 h_10 => ?_)
          obtain ⟨eM, h_10⟩ := h_10
          replace eM := eM.symm
          subst eM
          have qc := h_10
          refine aw_bipush (v := 32) K dX8_scanWord_69 (by decide) ?_
          refine aw_icmp_ne (tgt := 108) K dX8_scanWord_71 (by decide) (fun c_12 => ?_) (fun c_12 => ?_)
          · refine aw_iinc (v := (k52 + 1)) (lv' := [(0, .ref 158), (1, .int v_1), (2, .int x52_2), (3, .int x52_3), (4, .int (k52 + 1))]) K dX8_scanWord_108 4 rfl rfl [1, 2, 3, 4, 0] rfl (by decide) ?_
            refine aw_goto (tgt := 52) K dX8_scanWord_111 (by decide) ?_
            exact ih52 (by clear hgk hq hQ hmc hms hZ hnm K ih5 ih52 G; grind (splits := 30)) _ _  (by first | (have e9 := (ww_b hw wb wl).2 (by rw [← qc]; assumption); exact ⟨w, w15, ew, ebg, (by clear hgk hq hQ hmc hms hZ hnm K ih5 ih52 G; clear hd hno; grind), fun _ => (by clear hgk hq hQ hmc hms hZ hnm K ih5 ih52 G; clear hd hno; grind), hno⟩) | (exact ⟨w + 1, by omega, ww_s ew, (by rw [wo.1, ← nI_1, ← e9]), (by rw [wo.1, ← nI_1, ← e9]; exact Int32.le_refl _), fun q => (by rw [e9, nI_1, ← wo.1]; exact (nI_leI (by have := (wof_e q).2.1; omega) (by have := (wof_e q).2.1; omega)).mpr (by omega)), fun v hv => by (by_cases z : v = w; (subst z; first | (rw [← etb]; exact ww_n (M := M5) h15 h3 kn hw el ebg e9 (ev_1.trans h0) (qw.elim (fun y => absurd (y.1.symm.trans (by assumption)) (by decide)) (fun y => y.2))) | exact ww_l (fun el => absurd (congrArg nI el) (by rw [← k9, ← e4, ← e9, ← ebg]; clear hd hno; grind))); exact hno v (by omega))⟩))
          · have e9 := (ww_b hw wb wl).1 (by rw [← qc]; clear hd hno; grind)
            refine aw_iload K dX8_scanWord_74 4 rfl ?_
            refine aw_iload_n K dX8_scanWord_76 3 rfl rfl ?_
            refine aw_isub K dX8_scanWord_77 ?_
            refine aw_aload_n K dX8_scanWord_78 0 rfl rfl ?_
            refine aw_geti (j := 5) (i := 5) K cf8 flX8_38 dX8_scanWord_79 s158 (by decide) rfl rfl ?_
            refine aw_topi (fun v_13 ev_13 => ?_)
            have bv_13 : 0 ≤ v_13 ∧ v_13 ≤ 400 := by rw [ev_13]; exact tX_158_5 hT5
            refine aw_iload_n K dX8_scanWord_82 1 rfl rfl ?_
            refine aw_isub K dX8_scanWord_83 ?_
            refine aw_icmp_ne (tgt := 100) K dX8_scanWord_84 (by decide) (fun c_14 => ?_) (fun c_14 => ?_)
            · refine aw_iinc (v := (x52_2 + (-1))) (lv' := [(0, .ref 158), (1, .int v_1), (2, .int (x52_2 + (-1))), (3, .int x52_3), (4, .int k52)]) K dX8_scanWord_100 2 rfl rfl [1, 2, 0, 3, 4] rfl (by decide) ?_
              refine aw_iload K dX8_scanWord_103 4 rfl ?_
              refine aw_iconst (v := 1) K dX8_scanWord_105 (by decide) ?_
              refine aw_iadd K dX8_scanWord_106 ?_
              refine aw_istore_n (lv' := [(0, .ref 158), (1, .int v_1), (2, .int (x52_2 + (-1))), (3, .int (k52 + 1)), (4, .int k52)]) K dX8_scanWord_107 [1, 2, 3, 0, 4] rfl rfl (by decide) ?_
              refine aw_iinc (v := (k52 + 1)) (lv' := [(0, .ref 158), (1, .int v_1), (2, .int (x52_2 + (-1))), (3, .int (k52 + 1)), (4, .int (k52 + 1))]) K dX8_scanWord_108 4 rfl rfl [1, 2, 3, 4, 0] rfl (by decide) ?_
              refine aw_goto (tgt := 52) K dX8_scanWord_111 (by decide) ?_
              exact ih52 (by clear hgk hq hQ hmc hms hZ hnm K ih5 ih52 G; grind (splits := 30)) _ _  (by first | (have e9 := (ww_b hw wb wl).2 (by rw [← qc]; assumption); exact ⟨w, w15, ew, ebg, (by clear hgk hq hQ hmc hms hZ hnm K ih5 ih52 G; clear hd hno; grind), fun _ => (by clear hgk hq hQ hmc hms hZ hnm K ih5 ih52 G; clear hd hno; grind), hno⟩) | (exact ⟨w + 1, by omega, ww_s ew, (by rw [wo.1, ← nI_1, ← e9]), (by rw [wo.1, ← nI_1, ← e9]; exact Int32.le_refl _), fun q => (by rw [e9, nI_1, ← wo.1]; exact (nI_leI (by have := (wof_e q).2.1; omega) (by have := (wof_e q).2.1; omega)).mpr (by omega)), fun v hv => by (by_cases z : v = w; (subst z; first | (rw [← etb]; exact ww_n (M := M5) h15 h3 kn hw el ebg e9 (ev_1.trans h0) (qw.elim (fun y => absurd (y.1.symm.trans (by assumption)) (by decide)) (fun y => y.2))) | exact ww_l (fun el => absurd (congrArg nI el) (by rw [← k9, ← e4, ← e9, ← ebg]; clear hd hno; grind))); exact hno v (by omega))⟩))
            · have el : (wd w).length = k := (nI_eq (by omega) (by omega)).mp (by rw [← k9, ← e4, ← e9, ← ebg]; clear hd hno; grind)
              refine aw_aload_n K dX8_scanWord_87 0 rfl rfl ?_
              refine aw_iload_n K dX8_scanWord_88 3 rfl rfl ?_
              refine aw_iload K dX8_scanWord_89 4 rfl ?_
              refine aw_iload_n K dX8_scanWord_91 1 rfl rfl ?_
              refine aw_cVi (k := 158) (As := [.int x52_3, .int k52, .int v_1]) (rest := []) K cf8 lnX8_77 dX8_scanWord_92 s158 (t_X8_isWordAt x52_3 k52 v_1 M5 hT5 (by rw [ebg]; exact (nI_leI (a := 0) (by omega) (by omega)).mpr (by omega)) (by rw [e9]; exact (nI_leI (b := 73) (by omega) (by omega)).mpr (by omega)) (by rw [ebg]; exact wb)) rfl rfl (Nat.le_of_ble_eq_true rfl) (by decide) (by decide) (Nat.zero_le _) (Nat.zero_le _) (fun r_15 M_17 h_16 => ?_)
              obtain ⟨eM, h_16⟩ := h_16
              replace eM := eM.symm
              subst eM
              have qw := h_16
              refine aw_if_eq (tgt := 100) K dX8_scanWord_95 (by decide) (fun c_18 => ?_) (fun c_18 => ?_)
              · refine aw_iinc (v := (x52_2 + (-1))) (lv' := [(0, .ref 158), (1, .int v_1), (2, .int (x52_2 + (-1))), (3, .int x52_3), (4, .int k52)]) K dX8_scanWord_100 2 rfl rfl [1, 2, 0, 3, 4] rfl (by decide) ?_
                refine aw_iload K dX8_scanWord_103 4 rfl ?_
                refine aw_iconst (v := 1) K dX8_scanWord_105 (by decide) ?_
                refine aw_iadd K dX8_scanWord_106 ?_
                refine aw_istore_n (lv' := [(0, .ref 158), (1, .int v_1), (2, .int (x52_2 + (-1))), (3, .int (k52 + 1)), (4, .int k52)]) K dX8_scanWord_107 [1, 2, 3, 0, 4] rfl rfl (by decide) ?_
                refine aw_iinc (v := (k52 + 1)) (lv' := [(0, .ref 158), (1, .int v_1), (2, .int (x52_2 + (-1))), (3, .int (k52 + 1)), (4, .int (k52 + 1))]) K dX8_scanWord_108 4 rfl rfl [1, 2, 3, 4, 0] rfl (by decide) ?_
                refine aw_goto (tgt := 52) K dX8_scanWord_111 (by decide) ?_
                exact ih52 (by clear hgk hq hQ hmc hms hZ hnm K ih5 ih52 G; grind (splits := 30)) _ _  (by first | (have e9 := (ww_b hw wb wl).2 (by rw [← qc]; assumption); exact ⟨w, w15, ew, ebg, (by clear hgk hq hQ hmc hms hZ hnm K ih5 ih52 G; clear hd hno; grind), fun _ => (by clear hgk hq hQ hmc hms hZ hnm K ih5 ih52 G; clear hd hno; grind), hno⟩) | (exact ⟨w + 1, by omega, ww_s ew, (by rw [wo.1, ← nI_1, ← e9]), (by rw [wo.1, ← nI_1, ← e9]; exact Int32.le_refl _), fun q => (by rw [e9, nI_1, ← wo.1]; exact (nI_leI (by have := (wof_e q).2.1; omega) (by have := (wof_e q).2.1; omega)).mpr (by omega)), fun v hv => by (by_cases z : v = w; (subst z; first | (rw [← etb]; exact ww_n (M := M5) h15 h3 kn hw el ebg e9 (ev_1.trans h0) (qw.elim (fun y => absurd (y.1.symm.trans (by assumption)) (by decide)) (fun y => y.2))) | exact ww_l (fun el => absurd (congrArg nI el) (by rw [← k9, ← e4, ← e9, ← ebg]; clear hd hno; grind))); exact hno v (by omega))⟩))
              · refine aw_iload_n K dX8_scanWord_98 2 rfl rfl ?_
                refine aw_iret (v := x52_2) K dX8_scanWord_99 (hq x52_2 M5 ?_) hZ hmc.symm hms.symm
                refine ⟨hT5, hS5, ?_⟩
                clear hgk hq hQ hmc hms hZ hnm K ih5 ih52 G
                refine ⟨s + k, hR, ek, Or.inl ⟨w, hw, ?_, ew⟩⟩
                rw [← etb]
                exact ww_y (M := M5) h15 h3 kn hw el ebg e9 (ev_1.trans h0) (qw.elim (fun y => y.2) (fun y => absurd y.1 (by assumption)))
      exact L52 0 (by decide) (by clear hgk hq hQ hmc hms hZ hnm K ih5 L52 G; grind (splits := 30)) _ _  ⟨0, by omega, by decide, rfl, by decide, fun _ => by decide, fun v hv => absurd hv (by omega)⟩
    · have hlt : s + k < n := (nI_ltI (by omega) (by omega)).mp (by rw [← ek, ← h1, ← hS5 158 0 (by decide)]; clear hd; grind)
      refine aw_aload_n K dX8_scanWord_16 0 rfl rfl ?_
      refine aw_aload_n K dX8_scanWord_17 0 rfl rfl ?_
      refine aw_geti (j := 5) (i := 5) K cf8 flX8_38 dX8_scanWord_18 s158 (by decide) rfl rfl ?_
      refine aw_topi (fun v_19 ev_19 => ?_)
      have bv_19 : 0 ≤ v_19 ∧ v_19 ≤ 400 := by rw [ev_19]; exact tX_158_5 hT5
      refine aw_cVi (k := 158) (As := [.int v_19]) (rest := []) K cf8 lnX8_41 dX8_scanWord_21 s158 (t_X8_signAt v_19 M5 hT5 ) rfl rfl (Nat.le_of_ble_eq_true rfl) (by decide) (by decide) (Nat.zero_le _) (Nat.zero_le _) (fun r_20 M_22 h_21 => ?_)
      obtain ⟨eM, h_21⟩ := h_21
      replace eM := eM.symm
      subst eM
      have hr : r_20 = tb M (s + k) := by rw [h_21.1, show v_19 = nI (s + k) from (show v_19 = M5.1 158 5 by assumption).trans ek, sa_e (hS5 158 0 (by decide)) (fun j => hS5 159 j (by simp [aX])), sa_n h1 h3 hlt]
      refine aw_cSi (As := [.int r_20]) (rest := []) K lnX8_48 dX8_scanWord_24 (t_X8_isLetter r_20 M5 hT5 ) rfl rfl (Nat.le_of_ble_eq_true rfl) (by decide) (by decide) (Nat.zero_le _) (Nat.zero_le _) (fun r_23 M_25 h_24 => ?_)
      obtain ⟨eM, h_24⟩ := h_24
      replace eM := eM.symm
      subst eM
      refine aw_if_eq (tgt := 43) K dX8_scanWord_27 (by decide) (fun c_26 => ?_) (fun c_26 => ?_)
      · have etb : tb M5 = tb M := funext (fun i => hS5 159 _ (by simp [aX]))
        have h15 : M5.1 158 0 = nI n := (hS5 158 0 (by decide)).trans h1
        have hR : Run isL (tb M) n s (s + k) := run_i kn hd (by
          rintro ⟨z1, z2⟩
          first
          | exact absurd ((nI_ltI (by omega) (by omega)).mpr z1) (by rw [← ek, ← h1, ← hS5 158 0 (by decide)]; clear hd; grind)
          | (rw [← hr] at z2; clear hd; grind))
        refine aw_sipush (v := (-300)) K dX8_scanWord_43 (by decide) ?_
        refine aw_istore_n (lv' := [(0, .ref 158), (1, .int v_1), (2, .int (-300))]) K dX8_scanWord_46 [1, 2, 0] rfl rfl (by decide) ?_
        refine aw_iconst (v := 0) K dX8_scanWord_47 (by decide) ?_
        refine aw_istore_n (lv' := [(0, .ref 158), (1, .int v_1), (2, .int (-300)), (3, .int 0)]) K dX8_scanWord_48 [1, 2, 3, 0] rfl rfl (by decide) ?_
        refine aw_iconst (v := 0) K dX8_scanWord_49 (by decide) ?_
        refine aw_istore (lv' := [(0, .ref 158), (1, .int v_1), (2, .int (-300)), (3, .int 0), (4, .int 0)]) K dX8_scanWord_50 [1, 2, 3, 4, 0] rfl (by decide) ?_
        have L52 : ∀ (k52 : Int32), 0 ≤ k52 → k52 ≤ 73 → ∀ (x52_2 : Int32), ∀ (x52_3 : Int32), (∃ w : Nat, w ≤ 15 ∧ x52_2 = -300 - nI w ∧ x52_3 = nI (wof w) ∧ nI (wof w) ≤ k52 ∧ (w < 15 → k52 ≤ nI (wof w + (wd w).length)) ∧ ∀ v, v < w → ¬ WA (tb M) s (s + k) v) → AW G 5 (ad, shX) 0 0 M5 52 [(0, .ref 158), (1, .int v_1), (2, .int x52_2), (3, .int x52_3), (4, .int k52)] [] := by
          refine for_up 73 ?_
          intro k52 hk520 hk521 ih52 x52_2 x52_3  hI52
          obtain ⟨w, w15, ew, ebg, wb, wl, hno⟩ := hI52
          refine aw_iload K dX8_scanWord_52 4 rfl ?_
          refine aw_ldW K dX8_scanWord_54 ?_
          refine aw_cVSi (i := 0) (As := []) (rest := [.int k52]) K (by decide) lnX8_71 dX8_scanWord_56 (t_J0_length_8abf5 M5 ) rfl rfl (Nat.le_of_ble_eq_true rfl) (by decide) (by decide) (Nat.zero_le _) (Nat.zero_le _) (fun r_27 M_29 h_28 => ?_)
          obtain ⟨eM, h_28⟩ := h_28
          replace eM := eM.symm
          subst eM
          refine aw_icmp_ge (tgt := 114) K dX8_scanWord_59 (by decide) (fun c_30 => ?_) (fun c_30 => ?_)
          · refine aw_iconst (v := (-1)) K dX8_scanWord_114 (by decide) ?_
            refine aw_iret (v := (-1)) K dX8_scanWord_115 (hq (-1) M5 ?_) hZ hmc.symm hms.symm
            refine ⟨hT5, hS5, ?_⟩
            clear hgk hq hQ hmc hms hZ hnm K ih5 ih52 G
            refine ⟨s + k, hR, ek, Or.inr ⟨fun v hv => ?_, rfl⟩⟩
            rcases Nat.lt_or_ge w 15 with z | z
            · exfalso
              have q := wl z
              have l := (wof_e z).2.1
              have q2 : k52 < 73 := Int32.lt_of_le_of_lt q ((nI_ltI (b := 73) (by omega) (by omega)).mpr l)
              clear hd hno
              grind (splits := 30)
            · exact hno v (by omega)
          · have hw : w < 15 := by
              rcases Nat.lt_or_ge w 15 with z | z
              · exact z
              · exfalso
                have e15 : w = 15 := by omega
                subst e15
                clear hd hno
                have q : (73 : Int32) ≤ k52 := wb
                grind
            have wl := wl hw
            have wo := wof_e hw
            have k9 := nI_sb (a := wof w) (b := (wd w).length)
            refine aw_ldW K dX8_scanWord_62 ?_
            refine aw_iload K dX8_scanWord_64 4 rfl ?_
            refine aw_cVSi (i := 0) (As := [.int k52]) (rest := []) K (by decide) lnX8_73 dX8_scanWord_66 (t_J0_charAt_5068e k52 M5 (by clear hgk hq hQ hmc hms hZ hnm K ih5 ih52 G; grind (splits := 30)) (by clear hgk hq hQ hmc hms hZ hnm K ih5 ih52 G; grind (splits := 30))) rfl rfl (Nat.le_of_ble_eq_true rfl) (by decide) (by decide) (Nat.zero_le _) (Nat.zero_le _) (fun r_31 M_33 h_32 => ?_)
            obtain ⟨eM, h_32⟩ := h_32
            replace eM := eM.symm
            subst eM
            have qc := h_32
            refine aw_bipush (v := 32) K dX8_scanWord_69 (by decide) ?_
            refine aw_icmp_ne (tgt := 108) K dX8_scanWord_71 (by decide) (fun c_34 => ?_) (fun c_34 => ?_)
            · refine aw_iinc (v := (k52 + 1)) (lv' := [(0, .ref 158), (1, .int v_1), (2, .int x52_2), (3, .int x52_3), (4, .int (k52 + 1))]) K dX8_scanWord_108 4 rfl rfl [1, 2, 3, 4, 0] rfl (by decide) ?_
              refine aw_goto (tgt := 52) K dX8_scanWord_111 (by decide) ?_
              exact ih52 (by clear hgk hq hQ hmc hms hZ hnm K ih5 ih52 G; grind (splits := 30)) _ _  (by first | (have e9 := (ww_b hw wb wl).2 (by rw [← qc]; assumption); exact ⟨w, w15, ew, ebg, (by clear hgk hq hQ hmc hms hZ hnm K ih5 ih52 G; clear hd hno; grind), fun _ => (by clear hgk hq hQ hmc hms hZ hnm K ih5 ih52 G; clear hd hno; grind), hno⟩) | (exact ⟨w + 1, by omega, ww_s ew, (by rw [wo.1, ← nI_1, ← e9]), (by rw [wo.1, ← nI_1, ← e9]; exact Int32.le_refl _), fun q => (by rw [e9, nI_1, ← wo.1]; exact (nI_leI (by have := (wof_e q).2.1; omega) (by have := (wof_e q).2.1; omega)).mpr (by omega)), fun v hv => by (by_cases z : v = w; (subst z; first | (rw [← etb]; exact ww_n (M := M5) h15 h3 kn hw el ebg e9 (ev_1.trans h0) (qw.elim (fun y => absurd (y.1.symm.trans (by assumption)) (by decide)) (fun y => y.2))) | exact ww_l (fun el => absurd (congrArg nI el) (by rw [← k9, ← e4, ← e9, ← ebg]; clear hd hno; grind))); exact hno v (by omega))⟩))
            · have e9 := (ww_b hw wb wl).1 (by rw [← qc]; clear hd hno; grind)
              refine aw_iload K dX8_scanWord_74 4 rfl ?_
              refine aw_iload_n K dX8_scanWord_76 3 rfl rfl ?_
              refine aw_isub K dX8_scanWord_77 ?_
              refine aw_aload_n K dX8_scanWord_78 0 rfl rfl ?_
              refine aw_geti (j := 5) (i := 5) K cf8 flX8_38 dX8_scanWord_79 s158 (by decide) rfl rfl ?_
              refine aw_topi (fun v_35 ev_35 => ?_)
              have bv_35 : 0 ≤ v_35 ∧ v_35 ≤ 400 := by rw [ev_35]; exact tX_158_5 hT5
              refine aw_iload_n K dX8_scanWord_82 1 rfl rfl ?_
              refine aw_isub K dX8_scanWord_83 ?_
              refine aw_icmp_ne (tgt := 100) K dX8_scanWord_84 (by decide) (fun c_36 => ?_) (fun c_36 => ?_)
              · refine aw_iinc (v := (x52_2 + (-1))) (lv' := [(0, .ref 158), (1, .int v_1), (2, .int (x52_2 + (-1))), (3, .int x52_3), (4, .int k52)]) K dX8_scanWord_100 2 rfl rfl [1, 2, 0, 3, 4] rfl (by decide) ?_
                refine aw_iload K dX8_scanWord_103 4 rfl ?_
                refine aw_iconst (v := 1) K dX8_scanWord_105 (by decide) ?_
                refine aw_iadd K dX8_scanWord_106 ?_
                refine aw_istore_n (lv' := [(0, .ref 158), (1, .int v_1), (2, .int (x52_2 + (-1))), (3, .int (k52 + 1)), (4, .int k52)]) K dX8_scanWord_107 [1, 2, 3, 0, 4] rfl rfl (by decide) ?_
                refine aw_iinc (v := (k52 + 1)) (lv' := [(0, .ref 158), (1, .int v_1), (2, .int (x52_2 + (-1))), (3, .int (k52 + 1)), (4, .int (k52 + 1))]) K dX8_scanWord_108 4 rfl rfl [1, 2, 3, 4, 0] rfl (by decide) ?_
                refine aw_goto (tgt := 52) K dX8_scanWord_111 (by decide) ?_
                exact ih52 (by clear hgk hq hQ hmc hms hZ hnm K ih5 ih52 G; grind (splits := 30)) _ _  (by first | (have e9 := (ww_b hw wb wl).2 (by rw [← qc]; assumption); exact ⟨w, w15, ew, ebg, (by clear hgk hq hQ hmc hms hZ hnm K ih5 ih52 G; clear hd hno; grind), fun _ => (by clear hgk hq hQ hmc hms hZ hnm K ih5 ih52 G; clear hd hno; grind), hno⟩) | (exact ⟨w + 1, by omega, ww_s ew, (by rw [wo.1, ← nI_1, ← e9]), (by rw [wo.1, ← nI_1, ← e9]; exact Int32.le_refl _), fun q => (by rw [e9, nI_1, ← wo.1]; exact (nI_leI (by have := (wof_e q).2.1; omega) (by have := (wof_e q).2.1; omega)).mpr (by omega)), fun v hv => by (by_cases z : v = w; (subst z; first | (rw [← etb]; exact ww_n (M := M5) h15 h3 kn hw el ebg e9 (ev_1.trans h0) (qw.elim (fun y => absurd (y.1.symm.trans (by assumption)) (by decide)) (fun y => y.2))) | exact ww_l (fun el => absurd (congrArg nI el) (by rw [← k9, ← e4, ← e9, ← ebg]; clear hd hno; grind))); exact hno v (by omega))⟩))
              · have el : (wd w).length = k := (nI_eq (by omega) (by omega)).mp (by rw [← k9, ← e4, ← e9, ← ebg]; clear hd hno; grind)
                refine aw_aload_n K dX8_scanWord_87 0 rfl rfl ?_
                refine aw_iload_n K dX8_scanWord_88 3 rfl rfl ?_
                refine aw_iload K dX8_scanWord_89 4 rfl ?_
                refine aw_iload_n K dX8_scanWord_91 1 rfl rfl ?_
                refine aw_cVi (k := 158) (As := [.int x52_3, .int k52, .int v_1]) (rest := []) K cf8 lnX8_77 dX8_scanWord_92 s158 (t_X8_isWordAt x52_3 k52 v_1 M5 hT5 (by rw [ebg]; exact (nI_leI (a := 0) (by omega) (by omega)).mpr (by omega)) (by rw [e9]; exact (nI_leI (b := 73) (by omega) (by omega)).mpr (by omega)) (by rw [ebg]; exact wb)) rfl rfl (Nat.le_of_ble_eq_true rfl) (by decide) (by decide) (Nat.zero_le _) (Nat.zero_le _) (fun r_37 M_39 h_38 => ?_)
                obtain ⟨eM, h_38⟩ := h_38
                replace eM := eM.symm
                subst eM
                have qw := h_38
                refine aw_if_eq (tgt := 100) K dX8_scanWord_95 (by decide) (fun c_40 => ?_) (fun c_40 => ?_)
                · refine aw_iinc (v := (x52_2 + (-1))) (lv' := [(0, .ref 158), (1, .int v_1), (2, .int (x52_2 + (-1))), (3, .int x52_3), (4, .int k52)]) K dX8_scanWord_100 2 rfl rfl [1, 2, 0, 3, 4] rfl (by decide) ?_
                  refine aw_iload K dX8_scanWord_103 4 rfl ?_
                  refine aw_iconst (v := 1) K dX8_scanWord_105 (by decide) ?_
                  refine aw_iadd K dX8_scanWord_106 ?_
                  refine aw_istore_n (lv' := [(0, .ref 158), (1, .int v_1), (2, .int (x52_2 + (-1))), (3, .int (k52 + 1)), (4, .int k52)]) K dX8_scanWord_107 [1, 2, 3, 0, 4] rfl rfl (by decide) ?_
                  refine aw_iinc (v := (k52 + 1)) (lv' := [(0, .ref 158), (1, .int v_1), (2, .int (x52_2 + (-1))), (3, .int (k52 + 1)), (4, .int (k52 + 1))]) K dX8_scanWord_108 4 rfl rfl [1, 2, 3, 4, 0] rfl (by decide) ?_
                  refine aw_goto (tgt := 52) K dX8_scanWord_111 (by decide) ?_
                  exact ih52 (by clear hgk hq hQ hmc hms hZ hnm K ih5 ih52 G; grind (splits := 30)) _ _  (by first | (have e9 := (ww_b hw wb wl).2 (by rw [← qc]; assumption); exact ⟨w, w15, ew, ebg, (by clear hgk hq hQ hmc hms hZ hnm K ih5 ih52 G; clear hd hno; grind), fun _ => (by clear hgk hq hQ hmc hms hZ hnm K ih5 ih52 G; clear hd hno; grind), hno⟩) | (exact ⟨w + 1, by omega, ww_s ew, (by rw [wo.1, ← nI_1, ← e9]), (by rw [wo.1, ← nI_1, ← e9]; exact Int32.le_refl _), fun q => (by rw [e9, nI_1, ← wo.1]; exact (nI_leI (by have := (wof_e q).2.1; omega) (by have := (wof_e q).2.1; omega)).mpr (by omega)), fun v hv => by (by_cases z : v = w; (subst z; first | (rw [← etb]; exact ww_n (M := M5) h15 h3 kn hw el ebg e9 (ev_1.trans h0) (qw.elim (fun y => absurd (y.1.symm.trans (by assumption)) (by decide)) (fun y => y.2))) | exact ww_l (fun el => absurd (congrArg nI el) (by rw [← k9, ← e4, ← e9, ← ebg]; clear hd hno; grind))); exact hno v (by omega))⟩))
                · refine aw_iload_n K dX8_scanWord_98 2 rfl rfl ?_
                  refine aw_iret (v := x52_2) K dX8_scanWord_99 (hq x52_2 M5 ?_) hZ hmc.symm hms.symm
                  refine ⟨hT5, hS5, ?_⟩
                  clear hgk hq hQ hmc hms hZ hnm K ih5 ih52 G
                  refine ⟨s + k, hR, ek, Or.inl ⟨w, hw, ?_, ew⟩⟩
                  rw [← etb]
                  exact ww_y (M := M5) h15 h3 kn hw el ebg e9 (ev_1.trans h0) (qw.elim (fun y => y.2) (fun y => absurd y.1 (by assumption)))
        exact L52 0 (by decide) (by clear hgk hq hQ hmc hms hZ hnm K ih5 L52 G; grind (splits := 30)) _ _  ⟨0, by omega, by decide, rfl, by decide, fun _ => by decide, fun v hv => absurd hv (by omega)⟩
      · have hdg : isL (tb M (s + k)) := by rw [← hr]; clear hd; grind
        refine aw_aload_n K dX8_scanWord_30 0 rfl rfl ?_
        refine aw_dup K dX8_scanWord_31 rfl ?_
        refine aw_geti (j := 5) (i := 5) K cf8 flX8_38 dX8_scanWord_32 s158 (by decide) rfl rfl ?_
        refine aw_topi (fun v_41 ev_41 => ?_)
        have bv_41 : 0 ≤ v_41 ∧ v_41 ≤ 400 := by rw [ev_41]; exact tX_158_5 hT5
        refine aw_iconst (v := 1) K dX8_scanWord_35 (by decide) ?_
        refine aw_iadd K dX8_scanWord_36 ?_
        refine aw_puti (j := 5) (i := 5) (ty := .int) K cf8 flX8_38 dX8_scanWord_37 s158 (by decide) rfl rfl rfl (by decide +kernel) rfl rfl (ln_ok rfl) ?_
        have hT_42 : TX (up M5 158 5 (v_41 + 1)) := uX_158_5 hT5 (by clear hgk hq hQ hmc hms hZ hnm K ih5 G; grind (splits := 30)) (by clear hgk hq hQ hmc hms hZ hnm K ih5 G; grind (splits := 30))
        have hS_43 : SX M (up M5 158 5 (v_41 + 1)) := nX_158_5 hS5
        refine aw_goto (tgt := 5) K dX8_scanWord_40 (by decide) ?_
        exact ih5 (by clear hgk hq hQ hmc hms hZ hnm K ih5 G; grind (splits := 30))  _ hT_42 hS_43 ⟨(by clear hgk hq hQ hmc hms hZ hnm K ih5 G; clear hd; simp [up]; grind (splits := 30)), k + 1, by omega, (by rw [upa, show s + (k + 1) = s + k + 1 by omega, ← nI_1, ← ek]; congr 1), all_s hd hdg⟩
  exact L5 (M.1 158 5) (tX_158_5 hT).1 (mx_le _)  _ hT hS0 ⟨rfl, 0, by omega, (by rw [Nat.add_zero]; exact h0), (fun j q1 q2 => absurd q2 (by omega))⟩

theorem sc_c16 {c : Int32} (h0 : 0 ≤ c) (h1 : c ≤ 255) : (c.toUInt32 % 65536).toInt32 = c := by
  obtain ⟨m, hm, e⟩ := ix2 (m := 255) (mm := 255) rfl h0 h1
  subst e
  have key : ∀ m : Fin 256, ((nI m.val).toUInt32 % 65536).toInt32 = nI m.val := by decide +kernel
  exact key ⟨m, by omega⟩
theorem run_gt {q : Int32 → Prop} {b : Nat → Int32} {n i e : Nat} (h : Run q b n i e) (hi : i < n) (hq : q (b i)) : i < e := by
  obtain ⟨h1, h2, h3⟩ := h
  rcases Nat.eq_or_lt_of_le h1 with z | z
  · subst z; exact absurd ⟨hi, hq⟩ h3
  · exact z
theorem nv_0 {b : Nat → Int32} {s n e : Nat} (h : Run isD b n s e) : ∀ k, s + k ≤ e → k ≤ 4 → 0 ≤ nv b s k ∧ nv b s k ≤ 9999 ∧ (k ≤ 3 → nv b s k ≤ 999) ∧ (k ≤ 2 → nv b s k ≤ 99) ∧ (k ≤ 1 → nv b s k ≤ 9) ∧ (k = 0 → nv b s k = 0) := by
  intro k
  induction k with
  | zero =>
    intro _ _
    unfold nv
    exact ⟨by decide, by decide, fun _ => by decide, fun _ => by decide, fun _ => by decide, fun _ => rfl⟩
  | succ k ih =>
    intro h1 h2
    obtain ⟨i1, i2, i3, i4, i5, i6⟩ := ih (by omega) (by omega)
    have d := (h.2.1 (s + k) (by omega) (by omega)).2
    simp only [nv]
    generalize nv b s k = y at *
    generalize b (s + k) = z at *
    unfold isD at d
    rcases (show k = 0 ∨ k = 1 ∨ k = 2 ∨ k = 3 by omega) with rfl | rfl | rfl | rfl
    · have := i6 rfl
      refine ⟨?_, ?_, fun _ => ?_, fun _ => ?_, fun _ => ?_, fun q => absurd q (by omega)⟩ <;> (clear i1 i2 i3 i4 i5 i6 ih h; grind)
    · have := i5 (by omega)
      refine ⟨?_, ?_, fun _ => ?_, fun _ => ?_, fun q => absurd q (by omega), fun q => absurd q (by omega)⟩ <;> (clear i2 i3 i4 i5 i6 ih h; grind)
    · have := i4 (by omega)
      refine ⟨?_, ?_, fun _ => ?_, fun q => absurd q (by omega), fun q => absurd q (by omega), fun q => absurd q (by omega)⟩ <;> (clear i2 i3 i4 i5 i6 ih h; grind)
    · have := i3 (by omega)
      refine ⟨?_, ?_, fun q => absurd q (by omega), fun q => absurd q (by omega), fun q => absurd q (by omega), fun q => absurd q (by omega)⟩ <;> (clear i2 i3 i4 i5 i6 ih h; grind)
/-- no token but the end has the code -2 -/
theorem tok1_n {b : Nat → Int32} {n s e : Nat} {c : Int32} (h : Tok1 b n s c e) : ¬ c = -2 := by
  rcases h with ⟨-, -, ⟨w, w1, -, w2⟩ | ⟨-, w2⟩⟩ | ⟨-, -, r, ⟨n1, n2⟩ | ⟨-, n2⟩⟩ | ⟨-, -, -, ⟨s1, s2⟩ | ⟨-, s2⟩⟩
  · intro z
    have key : ∀ v : Fin 15, ¬ (-300 - nI v.val) = -2 := by decide
    exact key ⟨w, w1⟩ (w2.symm.trans z)
  · rw [w2]; decide
  · intro z
    have q := (nv_0 r (e - s) (by have := r.1; omega) (by omega)).1
    rw [← n2, z] at q
    exact absurd q (by decide)
  · rw [n2]; decide
  · intro z
    rw [s2] at z
    rcases s1 with q | q | q | q | q | q | q | q | q | q <;> rw [q] at z <;> exact absurd z (by decide)
  · rw [s2]; decide
/-- one more token -/
theorem sc_t {b : Nat → Int32} {n p t e : Nat} {r : Int32} (hP : ∀ c s e, Tok b n p c s e → Tok b n (ps b n t) c s e) (hp : p < n) (hb : ¬ isB (b p)) (h : Tok1 b n p r e) : tkc b n t = r ∧ tks b n t = p ∧ ps b n (t + 1) = e := ps_s (hP r p e ⟨run_0 (fun z => hb z.2), Or.inr ⟨hp, h⟩⟩)
theorem sc_e {b : Nat → Int32} {n t : Nat} (hP : ∀ c s e, Tok b n n c s e → Tok b n (ps b n t) c s e) : tkc b n t = -2 ∧ tks b n t = n ∧ ps b n (t + 1) = n := ps_s (hP _ _ _ tok_e)

set_option maxHeartbeats 400000 in
set_option maxRecDepth 100000 in
theorem t_X8_scanToken {gk : Gk} {ad : Nat → Nat} {s n : Nat} (c : Int32) (M : Mx) (hT : TX M) (h0 : M.1 158 5 = nI s) (h1 : M.1 158 0 = nI n) (h2 : s ≤ n) (h3 : n ≤ 400) (h4 : s < n) (h5 : c = tb M s) (h6 : 0 ≤ c) (h7 : c ≤ 255) : Ct (gk, (ad, shX)) yX8_scanToken cX8_scanToken 2 (some .int) 7 0 0 [.ref 158, .int c] M (Rs (gk, (ad, shX)) (RI (fun r M' => TX M' ∧ SX M M' ∧ (∃ e, Tok1 (tb M) n s r e ∧ M'.1 158 5 = nI e ∧ s < e ∧ e ≤ n)))) := by
  refine Ct.of (by decide) (Nat.le_of_ble_eq_true rfl) ?_
  intro G hgk hQ hmc hms hZ hnm K
  have hgk : gk = xk G := hgk.symm
  subst hgk
  have hq : ∀ (r : Int32) (M' : Mx), (TX M' ∧ SX M M' ∧ (∃ e, Tok1 (tb M) n s r e ∧ M'.1 158 5 = nI e ∧ s < e ∧ e ≤ n)) → xQ G (xk G, (ad, shX)) (some (.int r)) M' := fun r M' h => by rw [hQ]; exact ⟨rfl, r, rfl, h⟩
  show AW G 2 (ad, shX) 0 0 M 0 [(0, .ref 158), (1, .int c)] []
  have hS0 : SX M M := Sx.rf
  have s399 : M.1 158 5 ≤ 399 := by rw [h0]; exact (nI_leI (b := 399) (by omega) (by omega)).mpr (by omega)
  refine aw_iload_n K dX8_scanToken_0 1 rfl rfl ?_
  refine aw_cSi (As := [.int c]) (rest := []) K lnX8_48 dX8_scanToken_1 (t_X8_isLetter c M hT ) rfl rfl (Nat.le_of_ble_eq_true rfl) (by decide) (by decide) (Nat.zero_le _) (Nat.zero_le _) (fun r_1 M_3 h_2 => ?_)
  obtain ⟨eM, h_2⟩ := h_2
  replace eM := eM.symm
  subst eM
  have ql := h_2
  refine aw_if_eq (tgt := 12) K dX8_scanToken_4 (by decide) (fun c_4 => ?_) (fun c_4 => ?_)
  · refine aw_iload_n K dX8_scanToken_12 1 rfl rfl ?_
    refine aw_cSi (As := [.int c]) (rest := []) K lnX8_56 dX8_scanToken_13 (t_X8_isDigit c M hT ) rfl rfl (Nat.le_of_ble_eq_true rfl) (by decide) (by decide) (Nat.zero_le _) (Nat.zero_le _) (fun r_5 M_7 h_6 => ?_)
    obtain ⟨eM, h_6⟩ := h_6
    replace eM := eM.symm
    subst eM
    have qd := h_6
    refine aw_if_eq (tgt := 24) K dX8_scanToken_16 (by decide) (fun c_8 => ?_) (fun c_8 => ?_)
    · refine aw_aload_n K dX8_scanToken_24 0 rfl rfl ?_
      refine aw_dup K dX8_scanToken_25 rfl ?_
      refine aw_geti (j := 5) (i := 5) K cf8 flX8_38 dX8_scanToken_26 s158 (by decide) rfl rfl ?_
      refine aw_topi (fun v_9 ev_9 => ?_)
      have bv_9 : 0 ≤ v_9 ∧ v_9 ≤ 400 := by rw [ev_9]; exact tX_158_5 hT
      refine aw_iconst (v := 1) K dX8_scanToken_29 (by decide) ?_
      refine aw_iadd K dX8_scanToken_30 ?_
      refine aw_puti (j := 5) (i := 5) (ty := .int) K cf8 flX8_38 dX8_scanToken_31 s158 (by decide) rfl rfl rfl (by decide +kernel) rfl rfl (ln_ok rfl) ?_
      have hT_10 : TX (up M 158 5 (v_9 + 1)) := uX_158_5 hT (by clear hgk hq hQ hmc hms hZ hnm K G; grind (splits := 30)) (by clear hgk hq hQ hmc hms hZ hnm K G; grind (splits := 30))
      have hS_11 : SX M (up M 158 5 (v_9 + 1)) := nX_158_5 hS0
      refine aw_ldG K dX8_scanToken_34 ?_
      refine aw_iload_n K dX8_scanToken_36 1 rfl rfl ?_
      refine aw_i2c K dX8_scanToken_37 ?_
      refine aw_cVSi (i := 1) (As := [.int ((c.toUInt32 % 65536).toInt32)]) (rest := []) K (by decide) lnX8_64 dX8_scanToken_38 (t_J0_indexOf_0f7a4 ((c.toUInt32 % 65536).toInt32) (up M 158 5 (v_9 + 1)) ) rfl rfl (Nat.le_of_ble_eq_true rfl) (by decide) (by decide) (Nat.zero_le _) (Nat.zero_le _) (fun r_12 M_14 h_13 => ?_)
      obtain ⟨eM, h_13⟩ := h_13
      replace eM := eM.symm
      subst eM
      have qi := h_13
      refine aw_if_lt (tgt := 49) K dX8_scanToken_41 (by decide) (fun c_15 => ?_) (fun c_15 => ?_)
      · refine aw_iconst (v := (-1)) K dX8_scanToken_49 (by decide) ?_
        refine aw_iret (v := (-1)) K dX8_scanToken_50 (hq (-1) (up M 158 5 (v_9 + 1)) ?_) hZ hmc.symm hms.symm
        refine ⟨hT_10, hS_11, ?_⟩
        clear hgk hq hQ hmc hms hZ hnm K G
        have hl : ¬ isL (tb M s) := by rw [← h5]; grind (splits := 30)
        have hd : ¬ isD (tb M s) := by rw [← h5]; grind (splits := 30)
        have ec : (c.toUInt32 % 65536).toInt32 = c := sc_c16 h6 h7
        rw [ec] at qi
        have qi := qi h6 h7
        refine ⟨s + 1, Or.inr (Or.inr ⟨hl, hd, rfl, ?_⟩), ?_, by omega, by omega⟩
        · rw [← h5]
          first | exact Or.inl ⟨qi.mp (by clear qi; grind (splits := 30)), rfl⟩ | exact Or.inr ⟨fun z => absurd (qi.mpr z) (by clear qi; grind (splits := 30)), rfl⟩
        · rw [upa, ← nI_1, ← h0]
          congr 1
      · refine aw_iload_n K dX8_scanToken_44 1 rfl rfl ?_
        refine aw_ineg K dX8_scanToken_45 ?_
        refine aw_goto (tgt := 50) K dX8_scanToken_46 (by decide) ?_
        refine aw_iret (v := (-c)) K dX8_scanToken_50 (hq (-c) (up M 158 5 (v_9 + 1)) ?_) hZ hmc.symm hms.symm
        refine ⟨hT_10, hS_11, ?_⟩
        clear hgk hq hQ hmc hms hZ hnm K G
        have hl : ¬ isL (tb M s) := by rw [← h5]; grind (splits := 30)
        have hd : ¬ isD (tb M s) := by rw [← h5]; grind (splits := 30)
        have ec : (c.toUInt32 % 65536).toInt32 = c := sc_c16 h6 h7
        rw [ec] at qi
        have qi := qi h6 h7
        refine ⟨s + 1, Or.inr (Or.inr ⟨hl, hd, rfl, ?_⟩), ?_, by omega, by omega⟩
        · rw [← h5]
          first | exact Or.inl ⟨qi.mp (by clear qi; grind (splits := 30)), rfl⟩ | exact Or.inr ⟨fun z => absurd (qi.mpr z) (by clear qi; grind (splits := 30)), rfl⟩
        · rw [upa, ← nI_1, ← h0]
          congr 1
    · refine aw_aload_n K dX8_scanToken_19 0 rfl rfl ?_
      refine aw_cVi (k := 158) (As := []) (rest := []) K cf8 lnX8_59 dX8_scanToken_20 s158 (t_X8_scanNumber (s := s) (n := n) M hT (by exact h0) (by exact h1) (by exact h2) (by exact h3)) rfl rfl (Nat.le_of_ble_eq_true rfl) (by decide) (by decide) (Nat.zero_le _) (Nat.zero_le _) (fun r_16 M_18 h_17 => ?_)
      obtain ⟨hT_19, hS_20, h_17⟩ := h_17
      have hS_21 : SX M M_18 := hS0.tr hS_20
      have qn := h_17
      refine aw_iret (v := r_16) K dX8_scanToken_23 (hq r_16 M_18 ?_) hZ hmc.symm hms.symm
      refine ⟨hT_19, hS_21, ?_⟩
      clear hgk hq hQ hmc hms hZ hnm K G
      obtain ⟨e, e1, e2, e3⟩ := qn
      have hl : ¬ isL (tb M s) := by rw [← h5]; clear e1 e2 e3; grind (splits := 30)
      have hd : isD (tb M s) := by rw [← h5]; clear e1 e2 e3; grind (splits := 30)
      exact ⟨e, Or.inr (Or.inl ⟨hl, hd, e1, e3⟩), e2, run_gt e1 h4 hd, run_le e1 h2⟩
  · refine aw_aload_n K dX8_scanToken_7 0 rfl rfl ?_
    refine aw_cVi (k := 158) (As := []) (rest := []) K cf8 lnX8_52 dX8_scanToken_8 s158 (t_X8_scanWord (s := s) (n := n) M hT (by exact h0) (by exact h1) (by exact h2) (by exact h3)) rfl rfl (Nat.le_of_ble_eq_true rfl) (by decide) (by decide) (Nat.zero_le _) (Nat.zero_le _) (fun r_22 M_24 h_23 => ?_)
    obtain ⟨hT_25, hS_26, h_23⟩ := h_23
    have hS_27 : SX M M_24 := hS0.tr hS_26
    have qw := h_23
    refine aw_iret (v := r_22) K dX8_scanToken_11 (hq r_22 M_24 ?_) hZ hmc.symm hms.symm
    refine ⟨hT_25, hS_27, ?_⟩
    clear hgk hq hQ hmc hms hZ hnm K G
    obtain ⟨e, e1, e2, e3⟩ := qw
    have hl : isL (tb M s) := by rw [← h5]; clear e1 e2 e3; grind (splits := 30)
    exact ⟨e, Or.inl ⟨hl, e1, e3⟩, e2, run_gt e1 h4 hl, run_le e1 h2⟩

/-- a place of a row written -/
theorem rw_u {M : Mx} {a t u : Nat} {x : Int32} (ht : t < 2 ^ 31) (hu : u < t) : (up M a (nI t) x).1 a (nI u) = M.1 a (nI u) := by
  rw [up_n ht (by omega), if_neg (by omega)]
theorem sc_k {k : Int32} {p e : Nat} (h0 : 0 ≤ k) (h1 : k ≤ 400) (h : k ≤ nI p) (hp : p < e) (he : e ≤ 400) : k + 1 ≤ nI e := by
  obtain ⟨m, hm, em⟩ := ix2 (m := 400) (mm := 400) rfl h0 h1
  subst em
  have := (nI_leI (by omega) (by omega)).mp h
  rw [nI_1]
  exact (nI_leI (by omega) (by omega)).mpr (by omega)
theorem sc_row {M12 B : Mx} {b : Nat → Int32} {n t p : Nat} {v v2 x r y : Int32} (hu : ∀ u, u < t → M12.1 160 (nI u) = tkc b n u ∧ M12.1 161 (nI u) = nI (tks b n u) ∧ ¬ tkc b n u = -2) (t4 : t < 1000) (ev : v = nI t) (ev2 : v2 = nI t) (ex : x = nI p) (s0 : ∀ j, B.1 160 j = (up M12 161 v x).1 160 j) (s1 : ∀ j, B.1 161 j = (up M12 161 v x).1 161 j) (y1 : tkc b n t = r) (y2 : tks b n t = p) (hr : ¬ r = -2) : ∀ u, u < t + 1 → (up (up B 160 v2 r) 158 4 y).1 160 (nI u) = tkc b n u ∧ (up (up B 160 v2 r) 158 4 y).1 161 (nI u) = nI (tks b n u) ∧ ¬ tkc b n u = -2 := fun u q => by
  subst ev ev2 ex
  have a1 : (up (up B 160 (nI t) r) 158 4 y).1 160 (nI u) = if u = t then r else B.1 160 (nI u) := by rw [upo (by decide), up_n (by omega) (by omega)]
  have a2 : (up (up B 160 (nI t) r) 158 4 y).1 161 (nI u) = if u = t then nI p else M12.1 161 (nI u) := by rw [upo (by decide), upo (by decide), s1, up_n (by omega) (by omega)]
  rw [a1, a2]
  by_cases z : u = t
  · subst z
    rw [if_pos rfl, if_pos rfl, y1, y2]
    exact ⟨rfl, rfl, hr⟩
  · rw [if_neg z, if_neg z, s0, upo (by decide)]
    exact hu u (by omega)
theorem sc_fin {M12 : Mx} {b : Nat → Int32} {n t p : Nat} {v v2 x y : Int32} (hu : ∀ u, u < t → M12.1 160 (nI u) = tkc b n u ∧ M12.1 161 (nI u) = nI (tks b n u) ∧ ¬ tkc b n u = -2) (t4 : t < 1000) (ev : v = nI t) (ev2 : v2 = nI t) (ex : x = nI p) (y1 : tkc b n t = -2) (y2 : tks b n t = p) : ∀ u, u ≤ t → (up (up (up M12 161 v x) 160 v2 (-2)) 158 4 y).1 160 (nI u) = tkc b n u ∧ (up (up (up M12 161 v x) 160 v2 (-2)) 158 4 y).1 161 (nI u) = nI (tks b n u) := fun u q => by
  subst ev ev2 ex
  have a1 : (up (up (up M12 161 (nI t) (nI p)) 160 (nI t) (-2)) 158 4 y).1 160 (nI u) = if u = t then -2 else M12.1 160 (nI u) := by rw [upo (by decide), up_n (by omega) (by omega), upo (by decide)]
  have a2 : (up (up (up M12 161 (nI t) (nI p)) 160 (nI t) (-2)) 158 4 y).1 161 (nI u) = if u = t then nI p else M12.1 161 (nI u) := by rw [upo (by decide), upo (by decide), up_n (by omega) (by omega)]
  rw [a1, a2]
  by_cases z : u = t
  · subst z
    rw [if_pos rfl, if_pos rfl, y1, y2]
    exact ⟨rfl, rfl⟩
  · rw [if_neg z, if_neg z]
    exact ⟨(hu u (by omega)).1, (hu u (by omega)).2.1⟩

set_option maxHeartbeats 1000000 in
set_option maxRecDepth 100000 in
theorem t_X8_scan {gk : Gk} {ad : Nat → Nat} {n : Nat} (M : Mx) (hT : TX M) (h0 : M.1 158 0 = nI n) (h1 : n ≤ 400) : Ct (gk, (ad, shX)) yX8_scan cX8_scan 3 none 8 0 0 [.ref 158] M (Rs (gk, (ad, shX)) (RV (fun M' => TX M' ∧ SXc M M' ∧ (∃ N : Nat, N ≤ n ∧ M'.1 158 4 = nI (N + 1) ∧ (∀ t, t ≤ N → M'.1 160 (nI t) = tkc (tb M) n t ∧ M'.1 161 (nI t) = nI (tks (tb M) n t)) ∧ (∀ t, t < N → ¬ tkc (tb M) n t = -2) ∧ tkc (tb M) n N = -2)))) := by
  refine Ct.of (by decide) (Nat.le_of_ble_eq_true rfl) ?_
  intro G hgk hQ hmc hms hZ hnm K
  have hgk : gk = xk G := hgk.symm
  subst hgk
  have hq : ∀ (M' : Mx), (TX M' ∧ SXc M M' ∧ (∃ N : Nat, N ≤ n ∧ M'.1 158 4 = nI (N + 1) ∧ (∀ t, t ≤ N → M'.1 160 (nI t) = tkc (tb M) n t ∧ M'.1 161 (nI t) = nI (tks (tb M) n t)) ∧ (∀ t, t < N → ¬ tkc (tb M) n t = -2) ∧ tkc (tb M) n N = -2)) → xQ G (xk G, (ad, shX)) none M' := fun M' h => by rw [hQ]; exact ⟨rfl, rfl, h⟩
  show AW G 3 (ad, shX) 0 0 M 0 [(0, .ref 158)] []
  have hS0 : SXc M M := Sx.rf
  refine aw_aload_n K dX8_scan_0 0 rfl rfl ?_
  refine aw_iconst (v := 0) K dX8_scan_1 (by decide) ?_
  refine aw_puti (j := 4) (i := 4) (ty := .int) K cf8 flX8_35 dX8_scan_2 s158 (by decide) rfl rfl rfl (by decide +kernel) rfl rfl (ln_ok rfl) ?_
  have hT_1 : TX (up M 158 4 0) := uX_158_4 hT (by decide) (by decide)
  have hS_2 : SXc M (up M 158 4 0) := nXc_158_4 hS0
  refine aw_aload_n K dX8_scan_5 0 rfl rfl ?_
  refine aw_iconst (v := 0) K dX8_scan_6 (by decide) ?_
  refine aw_puti (j := 5) (i := 5) (ty := .int) K cf8 flX8_38 dX8_scan_7 s158 (by decide) rfl rfl rfl (by decide +kernel) rfl rfl (ln_ok rfl) ?_
  have hT_3 : TX (up (up M 158 4 0) 158 5 0) := uX_158_5 hT_1 (by decide) (by decide)
  have hS_4 : SXc M (up (up M 158 4 0) 158 5 0) := nXc_158_5 hS_2
  refine aw_iconst (v := 0) K dX8_scan_10 (by decide) ?_
  refine aw_istore_n (lv' := [(0, .ref 158), (1, .int 0)]) K dX8_scan_11 [1, 0] rfl rfl (by decide) ?_
  have L12 : ∀ (k12 : Int32), 0 ≤ k12 → k12 ≤ 400 → ∀ (M12 : Mx), TX M12 → SXc M M12 → (∃ t p : Nat, M12.1 158 4 = nI t ∧ M12.1 158 5 = nI p ∧ p ≤ n ∧ t ≤ p ∧ k12 ≤ nI p ∧ (∀ c s e, Tok (tb M) n p c s e → Tok (tb M) n (ps (tb M) n t) c s e) ∧ ∀ u, u < t → M12.1 160 (nI u) = tkc (tb M) n u ∧ M12.1 161 (nI u) = nI (tks (tb M) n u) ∧ ¬ tkc (tb M) n u = -2) → AW G 3 (ad, shX) 0 0 M12 12 [(0, .ref 158), (1, .int k12)] [] := by
    refine for_up 400 ?_
    intro k12 hk120 hk121 ih12  M12 hT12 hS12 hI12
    obtain ⟨t, p, et, ep, pn, tp, pk, hP, hu⟩ := hI12
    refine aw_iload_n K dX8_scan_12 1 rfl rfl ?_
    refine aw_sipush (v := 400) K dX8_scan_13 (by decide) ?_
    refine aw_icmp_ge (tgt := 107) K dX8_scan_16 (by decide) (fun c_5 => ?_) (fun c_5 => ?_)
    · have pe : p = n := by
        rcases Nat.lt_or_ge p n with z | z
        · exfalso
          have h12 : M12.1 158 0 = nI n := (hS12 158 0 (by decide)).trans h0
          have y1 : nI p < nI n := (nI_ltI (by omega) (by omega)).mpr z
          have y2 : nI n ≤ 400 := (nI_leI (b := 400) (by omega) (by omega)).mpr h1
          rw [← ep] at y1 pk
          rw [← h12] at y1 y2
          clear hP hu
          grind
        · omega
      subst pe
      obtain ⟨z1, z2, z3⟩ := sc_e hP
      have t4 : M12.1 158 4 ≤ 400 := by rw [et]; exact (nI_leI (b := 400) (by omega) (by omega)).mpr (by omega)
      refine aw_aload_n K dX8_scan_107 0 rfl rfl ?_
      refine aw_getr (j := 3) K cf8 flX8_16 dX8_scan_108 s158 (by decide) rfl ?_
      refine aw_aload_n K dX8_scan_111 0 rfl rfl ?_
      refine aw_geti (j := 4) (i := 4) K cf8 flX8_35 dX8_scan_112 s158 (by decide) rfl rfl ?_
      refine aw_topi (fun v_6 ev_6 => ?_)
      have bv_6 : 0 ≤ v_6 ∧ v_6 ≤ 401 := by rw [ev_6]; exact tX_158_4 hT12
      refine aw_aload_n K dX8_scan_115 0 rfl rfl ?_
      refine aw_geti (j := 0) (i := 0) K cf8 flX8_19 dX8_scan_116 s158 (by decide) rfl rfl ?_
      refine aw_topi (fun v_7 ev_7 => ?_)
      have bv_7 : 0 ≤ v_7 ∧ v_7 ≤ 400 := by rw [ev_7]; exact tX_158_0 hT12
      refine aw_iast (nv := 401) K dX8_scan_119 s161 (by decide) (by decide) (by clear hgk hq hQ hmc hms hZ hnm K ih12 G; grind (splits := 30) [up]) (by clear hgk hq hQ hmc hms hZ hnm K ih12 G; grind (splits := 30) [up]) ?_
      have hT_8 : TX (up M12 161 v_6 v_7) := vX_161 hT12
      have hS_9 : SXc M (up M12 161 v_6 v_7) := nXc_161 hS12
      refine aw_aload_n K dX8_scan_120 0 rfl rfl ?_
      refine aw_getr (j := 2) K cf8 flX8_13 dX8_scan_121 s158 (by decide) rfl ?_
      refine aw_aload_n K dX8_scan_124 0 rfl rfl ?_
      refine aw_geti (j := 4) (i := 4) K cf8 flX8_35 dX8_scan_125 s158 (by decide) rfl rfl ?_
      refine aw_topr (y := (M12.1 158 4)) (by simp [up]) ?_
      refine aw_topi (fun v_10 ev_10 => ?_)
      have bv_10 : 0 ≤ v_10 ∧ v_10 ≤ 401 := by rw [ev_10]; exact tX_158_4 hT12
      refine aw_bipush (v := (-2)) K dX8_scan_128 (by decide) ?_
      refine aw_iast (nv := 401) K dX8_scan_130 s160 (by decide) (by decide) (by clear hgk hq hQ hmc hms hZ hnm K ih12 G; grind (splits := 30) [up]) (by clear hgk hq hQ hmc hms hZ hnm K ih12 G; grind (splits := 30) [up]) ?_
      have hT_11 : TX (up (up M12 161 v_6 v_7) 160 v_10 (-2)) := vX_160 hT_8
      have hS_12 : SXc M (up (up M12 161 v_6 v_7) 160 v_10 (-2)) := nXc_160 hS_9
      refine aw_aload_n K dX8_scan_131 0 rfl rfl ?_
      refine aw_dup K dX8_scan_132 rfl ?_
      refine aw_geti (j := 4) (i := 4) K cf8 flX8_35 dX8_scan_133 s158 (by decide) rfl rfl ?_
      refine aw_topr (y := (M12.1 158 4)) (by simp [up]) ?_
      refine aw_topi (fun v_13 ev_13 => ?_)
      have bv_13 : 0 ≤ v_13 ∧ v_13 ≤ 401 := by rw [ev_13]; exact tX_158_4 hT12
      refine aw_iconst (v := 1) K dX8_scan_136 (by decide) ?_
      refine aw_iadd K dX8_scan_137 ?_
      refine aw_puti (j := 4) (i := 4) (ty := .int) K cf8 flX8_35 dX8_scan_138 s158 (by decide) rfl rfl rfl (by decide +kernel) rfl rfl (ln_ok rfl) ?_
      have hT_14 : TX (up (up (up M12 161 v_6 v_7) 160 v_10 (-2)) 158 4 (v_13 + 1)) := uX_158_4 hT_11 (by clear hgk hq hQ hmc hms hZ hnm K ih12 G; grind (splits := 30) [up]) (by clear hgk hq hQ hmc hms hZ hnm K ih12 G; grind (splits := 30) [up])
      have hS_15 : SXc M (up (up (up M12 161 v_6 v_7) 160 v_10 (-2)) 158 4 (v_13 + 1)) := nXc_158_4 hS_12
      refine aw_vret K dX8_scan_141 (hq (up (up (up M12 161 v_6 v_7) 160 v_10 (-2)) 158 4 (v_13 + 1)) ?_) hZ hmc.symm hms.symm
      refine ⟨hT_14, hS_15, ?_⟩
      clear hgk hq hQ hmc hms hZ hnm K ih12 G
      refine ⟨t, tp, ?_, sc_fin hu (by omega) (Eq.trans (by assumption) et) (Eq.trans (by assumption) et) (Eq.trans (by assumption) ((hS12 158 0 (by decide)).trans h0)) z1 z2, fun u q => (hu u q).2.2, z1⟩
      rw [upa, ← nI_1, ← et]
      congr 1
    · refine aw_aload_n K dX8_scan_19 0 rfl rfl ?_
      refine aw_geti (j := 5) (i := 5) K cf8 flX8_38 dX8_scan_20 s158 (by decide) rfl rfl ?_
      refine aw_topi (fun v_16 ev_16 => ?_)
      have bv_16 : 0 ≤ v_16 ∧ v_16 ≤ 400 := by rw [ev_16]; exact tX_158_5 hT12
      refine aw_aload_n K dX8_scan_23 0 rfl rfl ?_
      refine aw_geti (j := 0) (i := 0) K cf8 flX8_19 dX8_scan_24 s158 (by decide) rfl rfl ?_
      refine aw_topi (fun v_17 ev_17 => ?_)
      have bv_17 : 0 ≤ v_17 ∧ v_17 ≤ 400 := by rw [ev_17]; exact tX_158_0 hT12
      refine aw_icmp_ge (tgt := 107) K dX8_scan_27 (by decide) (fun c_18 => ?_) (fun c_18 => ?_)
      · have pe : p = n := by
          rcases Nat.lt_or_ge p n with z | z
          · exfalso
            have h12 : M12.1 158 0 = nI n := (hS12 158 0 (by decide)).trans h0
            have y1 : nI p < nI n := (nI_ltI (by omega) (by omega)).mpr z
            have y2 : nI n ≤ 400 := (nI_leI (b := 400) (by omega) (by omega)).mpr h1
            rw [← ep] at y1 pk
            rw [← h12] at y1 y2
            clear hP hu
            grind
          · omega
        subst pe
        obtain ⟨z1, z2, z3⟩ := sc_e hP
        have t4 : M12.1 158 4 ≤ 400 := by rw [et]; exact (nI_leI (b := 400) (by omega) (by omega)).mpr (by omega)
        refine aw_aload_n K dX8_scan_107 0 rfl rfl ?_
        refine aw_getr (j := 3) K cf8 flX8_16 dX8_scan_108 s158 (by decide) rfl ?_
        refine aw_aload_n K dX8_scan_111 0 rfl rfl ?_
        refine aw_geti (j := 4) (i := 4) K cf8 flX8_35 dX8_scan_112 s158 (by decide) rfl rfl ?_
        refine aw_topi (fun v_19 ev_19 => ?_)
        have bv_19 : 0 ≤ v_19 ∧ v_19 ≤ 401 := by rw [ev_19]; exact tX_158_4 hT12
        refine aw_aload_n K dX8_scan_115 0 rfl rfl ?_
        refine aw_geti (j := 0) (i := 0) K cf8 flX8_19 dX8_scan_116 s158 (by decide) rfl rfl ?_
        refine aw_topi (fun v_20 ev_20 => ?_)
        have bv_20 : 0 ≤ v_20 ∧ v_20 ≤ 400 := by rw [ev_20]; exact tX_158_0 hT12
        refine aw_iast (nv := 401) K dX8_scan_119 s161 (by decide) (by decide) (by clear hgk hq hQ hmc hms hZ hnm K ih12 G; grind (splits := 30) [up]) (by clear hgk hq hQ hmc hms hZ hnm K ih12 G; grind (splits := 30) [up]) ?_
        have hT_21 : TX (up M12 161 v_19 v_20) := vX_161 hT12
        have hS_22 : SXc M (up M12 161 v_19 v_20) := nXc_161 hS12
        refine aw_aload_n K dX8_scan_120 0 rfl rfl ?_
        refine aw_getr (j := 2) K cf8 flX8_13 dX8_scan_121 s158 (by decide) rfl ?_
        refine aw_aload_n K dX8_scan_124 0 rfl rfl ?_
        refine aw_geti (j := 4) (i := 4) K cf8 flX8_35 dX8_scan_125 s158 (by decide) rfl rfl ?_
        refine aw_topr (y := (M12.1 158 4)) (by simp [up]) ?_
        refine aw_topi (fun v_23 ev_23 => ?_)
        have bv_23 : 0 ≤ v_23 ∧ v_23 ≤ 401 := by rw [ev_23]; exact tX_158_4 hT12
        refine aw_bipush (v := (-2)) K dX8_scan_128 (by decide) ?_
        refine aw_iast (nv := 401) K dX8_scan_130 s160 (by decide) (by decide) (by clear hgk hq hQ hmc hms hZ hnm K ih12 G; grind (splits := 30) [up]) (by clear hgk hq hQ hmc hms hZ hnm K ih12 G; grind (splits := 30) [up]) ?_
        have hT_24 : TX (up (up M12 161 v_19 v_20) 160 v_23 (-2)) := vX_160 hT_21
        have hS_25 : SXc M (up (up M12 161 v_19 v_20) 160 v_23 (-2)) := nXc_160 hS_22
        refine aw_aload_n K dX8_scan_131 0 rfl rfl ?_
        refine aw_dup K dX8_scan_132 rfl ?_
        refine aw_geti (j := 4) (i := 4) K cf8 flX8_35 dX8_scan_133 s158 (by decide) rfl rfl ?_
        refine aw_topr (y := (M12.1 158 4)) (by simp [up]) ?_
        refine aw_topi (fun v_26 ev_26 => ?_)
        have bv_26 : 0 ≤ v_26 ∧ v_26 ≤ 401 := by rw [ev_26]; exact tX_158_4 hT12
        refine aw_iconst (v := 1) K dX8_scan_136 (by decide) ?_
        refine aw_iadd K dX8_scan_137 ?_
        refine aw_puti (j := 4) (i := 4) (ty := .int) K cf8 flX8_35 dX8_scan_138 s158 (by decide) rfl rfl rfl (by decide +kernel) rfl rfl (ln_ok rfl) ?_
        have hT_27 : TX (up (up (up M12 161 v_19 v_20) 160 v_23 (-2)) 158 4 (v_26 + 1)) := uX_158_4 hT_24 (by clear hgk hq hQ hmc hms hZ hnm K ih12 G; grind (splits := 30) [up]) (by clear hgk hq hQ hmc hms hZ hnm K ih12 G; grind (splits := 30) [up])
        have hS_28 : SXc M (up (up (up M12 161 v_19 v_20) 160 v_23 (-2)) 158 4 (v_26 + 1)) := nXc_158_4 hS_25
        refine aw_vret K dX8_scan_141 (hq (up (up (up M12 161 v_19 v_20) 160 v_23 (-2)) 158 4 (v_26 + 1)) ?_) hZ hmc.symm hms.symm
        refine ⟨hT_27, hS_28, ?_⟩
        clear hgk hq hQ hmc hms hZ hnm K ih12 G
        refine ⟨t, tp, ?_, sc_fin hu (by omega) (Eq.trans (by assumption) et) (Eq.trans (by assumption) et) (Eq.trans (by assumption) ((hS12 158 0 (by decide)).trans h0)) z1 z2, fun u q => (hu u q).2.2, z1⟩
        rw [upa, ← nI_1, ← et]
        congr 1
      · have h12 : M12.1 158 0 = nI n := (hS12 158 0 (by decide)).trans h0
        have plt : p < n := (nI_ltI (by omega) (by omega)).mp (by rw [← ep, ← h12]; clear hP hu; grind)
        have t4 : M12.1 158 4 ≤ 399 := by rw [et]; exact (nI_leI (b := 399) (by omega) (by omega)).mpr (by omega)
        refine aw_aload_n K dX8_scan_30 0 rfl rfl ?_
        refine aw_aload_n K dX8_scan_31 0 rfl rfl ?_
        refine aw_geti (j := 5) (i := 5) K cf8 flX8_38 dX8_scan_32 s158 (by decide) rfl rfl ?_
        refine aw_topi (fun v_29 ev_29 => ?_)
        have bv_29 : 0 ≤ v_29 ∧ v_29 ≤ 400 := by rw [ev_29]; exact tX_158_5 hT12
        refine aw_cVi (k := 158) (As := [.int v_29]) (rest := []) K cf8 lnX8_41 dX8_scan_35 s158 (t_X8_signAt v_29 M12 hT12 ) rfl rfl (Nat.le_of_ble_eq_true rfl) (by decide) (by decide) (Nat.zero_le _) (Nat.zero_le _) (fun r_30 M_32 h_31 => ?_)
        obtain ⟨eM, h_31⟩ := h_31
        replace eM := eM.symm
        subst eM
        have hr : r_30 = tb M p := by rw [h_31.1, show v_29 = nI p from (show v_29 = M12.1 158 5 by assumption).trans ep, sa_e (hS12 158 0 (by decide)) (fun j => hS12 159 j (by simp [aXc])), sa_n h0 h1 plt]
        have hr0 := h_31.2.1
        have hr1 := h_31.2.2
        refine aw_istore_n (lv' := [(0, .ref 158), (1, .int k12), (2, .int r_30)]) K dX8_scan_38 [1, 2, 0] rfl rfl (by decide) ?_
        refine aw_iload_n K dX8_scan_39 2 rfl rfl ?_
        refine aw_bipush (v := 32) K dX8_scan_40 (by decide) ?_
        refine aw_icmp_eq (tgt := 51) K dX8_scan_42 (by decide) (fun c_33 => ?_) (fun c_33 => ?_)
        · refine aw_aload_n K dX8_scan_51 0 rfl rfl ?_
          refine aw_dup K dX8_scan_52 rfl ?_
          refine aw_geti (j := 5) (i := 5) K cf8 flX8_38 dX8_scan_53 s158 (by decide) rfl rfl ?_
          refine aw_topi (fun v_34 ev_34 => ?_)
          have bv_34 : 0 ≤ v_34 ∧ v_34 ≤ 400 := by rw [ev_34]; exact tX_158_5 hT12
          refine aw_iconst (v := 1) K dX8_scan_56 (by decide) ?_
          refine aw_iadd K dX8_scan_57 ?_
          refine aw_puti (j := 5) (i := 5) (ty := .int) K cf8 flX8_38 dX8_scan_58 s158 (by decide) rfl rfl rfl (by decide +kernel) rfl rfl (ln_ok rfl) ?_
          have hT_35 : TX (up M12 158 5 (v_34 + 1)) := uX_158_5 hT12 (by clear hgk hq hQ hmc hms hZ hnm K ih12 G; grind (splits := 30) [up]) (by clear hgk hq hQ hmc hms hZ hnm K ih12 G; grind (splits := 30) [up])
          have hS_36 : SXc M (up M12 158 5 (v_34 + 1)) := nXc_158_5 hS12
          refine aw_goto (tgt := 101) K dX8_scan_61 (by decide) ?_
          refine aw_iinc (v := (k12 + 1)) (lv' := [(0, .ref 158), (1, .int (k12 + 1)), (2, .int r_30)]) K dX8_scan_101 1 rfl rfl [1, 0, 2] rfl (by decide) ?_
          refine aw_goto (tgt := 12) K dX8_scan_104 (by decide) ?_
          refine aw_sub (lv' := [(0, .ref 158), (1, .int (k12 + 1))]) [0, 1] rfl ?_
          exact ih12 (by clear hgk hq hQ hmc hms hZ hnm K ih12 G; grind (splits := 30))  _ hT_35 hS_36 (by first | exact ⟨t, p + 1, (by rw [upf (by decide)]; exact et), (by rw [upa, ← nI_1, ← ep]; congr 1), by omega, by omega, (by rw [← nI_1, ← ep]; rw [← ep] at pk; clear hgk hq hQ hmc hms hZ hnm K ih12 G; clear hP hu; grind), (fun c s e h => hP c s e (tok_b h plt (by rw [← hr]; clear hgk hq hQ hmc hms hZ hnm K ih12 G; clear hP hu; grind))), (fun u q => by rw [upo (by decide), upo (by decide)]; exact hu u q)⟩ | exact ⟨t + 1, e, (by rw [upa, ← nI_1, ← et, ← t5]; congr 1), (by rw [upf (by decide), upo (by decide)]; exact qe), qn, by omega, sc_k hk120 hk121 pk qs (by omega), (fun c s e2 h => by rw [y3]; exact h), sc_row hu (by omega) (Eq.trans (by assumption) et) (Eq.trans (by assumption) et) (Eq.trans (by assumption) ep) (fun j => tS 160 j (by simp [aX])) (fun j => tS 161 j (by simp [aX])) y1 y2 (tok1_n qt)⟩)
        · refine aw_iload_n K dX8_scan_45 2 rfl rfl ?_
          refine aw_bipush (v := 10) K dX8_scan_46 (by decide) ?_
          refine aw_icmp_ne (tgt := 64) K dX8_scan_48 (by decide) (fun c_37 => ?_) (fun c_37 => ?_)
          · refine aw_aload_n K dX8_scan_64 0 rfl rfl ?_
            refine aw_getr (j := 3) K cf8 flX8_16 dX8_scan_65 s158 (by decide) rfl ?_
            refine aw_aload_n K dX8_scan_68 0 rfl rfl ?_
            refine aw_geti (j := 4) (i := 4) K cf8 flX8_35 dX8_scan_69 s158 (by decide) rfl rfl ?_
            refine aw_topi (fun v_38 ev_38 => ?_)
            have bv_38 : 0 ≤ v_38 ∧ v_38 ≤ 401 := by rw [ev_38]; exact tX_158_4 hT12
            refine aw_aload_n K dX8_scan_72 0 rfl rfl ?_
            refine aw_geti (j := 5) (i := 5) K cf8 flX8_38 dX8_scan_73 s158 (by decide) rfl rfl ?_
            refine aw_topi (fun v_39 ev_39 => ?_)
            have bv_39 : 0 ≤ v_39 ∧ v_39 ≤ 400 := by rw [ev_39]; exact tX_158_5 hT12
            refine aw_iast (nv := 401) K dX8_scan_76 s161 (by decide) (by decide) (by clear hgk hq hQ hmc hms hZ hnm K ih12 G; grind (splits := 30) [up]) (by clear hgk hq hQ hmc hms hZ hnm K ih12 G; grind (splits := 30) [up]) ?_
            have hT_40 : TX (up M12 161 v_38 v_39) := vX_161 hT12
            have hS_41 : SXc M (up M12 161 v_38 v_39) := nXc_161 hS12
            refine aw_aload_n K dX8_scan_77 0 rfl rfl ?_
            refine aw_getr (j := 2) K cf8 flX8_13 dX8_scan_78 s158 (by decide) rfl ?_
            refine aw_aload_n K dX8_scan_81 0 rfl rfl ?_
            refine aw_geti (j := 4) (i := 4) K cf8 flX8_35 dX8_scan_82 s158 (by decide) rfl rfl ?_
            refine aw_topr (y := (M12.1 158 4)) (by simp [up]) ?_
            refine aw_topi (fun v_42 ev_42 => ?_)
            have bv_42 : 0 ≤ v_42 ∧ v_42 ≤ 401 := by rw [ev_42]; exact tX_158_4 hT12
            refine aw_aload_n K dX8_scan_85 0 rfl rfl ?_
            refine aw_iload_n K dX8_scan_86 2 rfl rfl ?_
            refine aw_cVi (k := 158) (As := [.int r_30]) (rest := [.int v_42, .ref 160]) K cf8 lnX8_45 dX8_scan_87 s158 (t_X8_scanToken (s := p) (n := n) r_30 (up M12 161 v_38 v_39) hT_40 (by rw [upo (by decide)]; exact ep) (by rw [upo (by decide)]; exact h12) (by exact pn) (by exact h1) (by exact plt) (by rw [hr]; show M.1 159 (nI p) = (up M12 161 _ _).1 159 (nI p); rw [upo (by decide)]; exact (hS12 159 _ (by simp [aXc])).symm) (by exact hr0) (by exact hr1)) rfl rfl (Nat.le_of_ble_eq_true rfl) (by decide) (by decide) (Nat.zero_le _) (Nat.zero_le _) (fun r_43 M_45 h_44 => ?_)
            obtain ⟨hT_46, hS_47, h_44⟩ := h_44
            have hS_48 : SXc M M_45 := hS_41.tr (SX_Xc hS_47)
            obtain ⟨e, qt, qe, qs, qn⟩ := h_44
            have tS := hS_47
            have t5 := hS_47 158 4 (by decide)
            rw [upo (by decide)] at t5
            have etb : tb (up M12 161 v_38 v_39) = tb M := funext (fun i => (upo (by decide)).trans (hS12 159 _ (by simp [aXc])))
            rw [etb] at qt
            obtain ⟨y1, y2, y3⟩ := sc_t hP plt (by rw [← hr]; clear hP hu qt; grind) qt
            refine aw_iast (nv := 401) K dX8_scan_90 s160 (by decide) (by decide) (by clear hgk hq hQ hmc hms hZ hnm K ih12 G; grind (splits := 30) [up]) (by clear hgk hq hQ hmc hms hZ hnm K ih12 G; grind (splits := 30) [up]) ?_
            have hT_49 : TX (up M_45 160 v_42 r_43) := vX_160 hT_46
            have hS_50 : SXc M (up M_45 160 v_42 r_43) := nXc_160 hS_48
            refine aw_aload_n K dX8_scan_91 0 rfl rfl ?_
            refine aw_dup K dX8_scan_92 rfl ?_
            refine aw_geti (j := 4) (i := 4) K cf8 flX8_35 dX8_scan_93 s158 (by decide) rfl rfl ?_
            refine aw_topr (y := (M_45.1 158 4)) (by simp [up]) ?_
            refine aw_topi (fun v_51 ev_51 => ?_)
            have bv_51 : 0 ≤ v_51 ∧ v_51 ≤ 401 := by rw [ev_51]; exact tX_158_4 hT_46
            refine aw_iconst (v := 1) K dX8_scan_96 (by decide) ?_
            refine aw_iadd K dX8_scan_97 ?_
            refine aw_puti (j := 4) (i := 4) (ty := .int) K cf8 flX8_35 dX8_scan_98 s158 (by decide) rfl rfl rfl (by decide +kernel) rfl rfl (ln_ok rfl) ?_
            have hT_52 : TX (up (up M_45 160 v_42 r_43) 158 4 (v_51 + 1)) := uX_158_4 hT_49 (by clear hgk hq hQ hmc hms hZ hnm K ih12 G; grind (splits := 30) [up]) (by clear hgk hq hQ hmc hms hZ hnm K ih12 G; grind (splits := 30) [up])
            have hS_53 : SXc M (up (up M_45 160 v_42 r_43) 158 4 (v_51 + 1)) := nXc_158_4 hS_50
            refine aw_iinc (v := (k12 + 1)) (lv' := [(0, .ref 158), (1, .int (k12 + 1)), (2, .int r_30)]) K dX8_scan_101 1 rfl rfl [1, 0, 2] rfl (by decide) ?_
            refine aw_goto (tgt := 12) K dX8_scan_104 (by decide) ?_
            refine aw_sub (lv' := [(0, .ref 158), (1, .int (k12 + 1))]) [0, 1] rfl ?_
            exact ih12 (by clear hgk hq hQ hmc hms hZ hnm K ih12 G; grind (splits := 30))  _ hT_52 hS_53 (by first | exact ⟨t, p + 1, (by rw [upf (by decide)]; exact et), (by rw [upa, ← nI_1, ← ep]; congr 1), by omega, by omega, (by rw [← nI_1, ← ep]; rw [← ep] at pk; clear hgk hq hQ hmc hms hZ hnm K ih12 G; clear hP hu; grind), (fun c s e h => hP c s e (tok_b h plt (by rw [← hr]; clear hgk hq hQ hmc hms hZ hnm K ih12 G; clear hP hu; grind))), (fun u q => by rw [upo (by decide), upo (by decide)]; exact hu u q)⟩ | exact ⟨t + 1, e, (by rw [upa, ← nI_1, ← et, ← t5]; congr 1), (by rw [upf (by decide), upo (by decide)]; exact qe), qn, by omega, sc_k hk120 hk121 pk qs (by omega), (fun c s e2 h => by rw [y3]; exact h), sc_row hu (by omega) (Eq.trans (by assumption) et) (Eq.trans (by assumption) et) (Eq.trans (by assumption) ep) (fun j => tS 160 j (by simp [aX])) (fun j => tS 161 j (by simp [aX])) y1 y2 (tok1_n qt)⟩)
          · refine aw_aload_n K dX8_scan_51 0 rfl rfl ?_
            refine aw_dup K dX8_scan_52 rfl ?_
            refine aw_geti (j := 5) (i := 5) K cf8 flX8_38 dX8_scan_53 s158 (by decide) rfl rfl ?_
            refine aw_topi (fun v_54 ev_54 => ?_)
            have bv_54 : 0 ≤ v_54 ∧ v_54 ≤ 400 := by rw [ev_54]; exact tX_158_5 hT12
            refine aw_iconst (v := 1) K dX8_scan_56 (by decide) ?_
            refine aw_iadd K dX8_scan_57 ?_
            refine aw_puti (j := 5) (i := 5) (ty := .int) K cf8 flX8_38 dX8_scan_58 s158 (by decide) rfl rfl rfl (by decide +kernel) rfl rfl (ln_ok rfl) ?_
            have hT_55 : TX (up M12 158 5 (v_54 + 1)) := uX_158_5 hT12 (by clear hgk hq hQ hmc hms hZ hnm K ih12 G; grind (splits := 30) [up]) (by clear hgk hq hQ hmc hms hZ hnm K ih12 G; grind (splits := 30) [up])
            have hS_56 : SXc M (up M12 158 5 (v_54 + 1)) := nXc_158_5 hS12
            refine aw_goto (tgt := 101) K dX8_scan_61 (by decide) ?_
            refine aw_iinc (v := (k12 + 1)) (lv' := [(0, .ref 158), (1, .int (k12 + 1)), (2, .int r_30)]) K dX8_scan_101 1 rfl rfl [1, 0, 2] rfl (by decide) ?_
            refine aw_goto (tgt := 12) K dX8_scan_104 (by decide) ?_
            refine aw_sub (lv' := [(0, .ref 158), (1, .int (k12 + 1))]) [0, 1] rfl ?_
            exact ih12 (by clear hgk hq hQ hmc hms hZ hnm K ih12 G; grind (splits := 30))  _ hT_55 hS_56 (by first | exact ⟨t, p + 1, (by rw [upf (by decide)]; exact et), (by rw [upa, ← nI_1, ← ep]; congr 1), by omega, by omega, (by rw [← nI_1, ← ep]; rw [← ep] at pk; clear hgk hq hQ hmc hms hZ hnm K ih12 G; clear hP hu; grind), (fun c s e h => hP c s e (tok_b h plt (by rw [← hr]; clear hgk hq hQ hmc hms hZ hnm K ih12 G; clear hP hu; grind))), (fun u q => by rw [upo (by decide), upo (by decide)]; exact hu u q)⟩ | exact ⟨t + 1, e, (by rw [upa, ← nI_1, ← et, ← t5]; congr 1), (by rw [upf (by decide), upo (by decide)]; exact qe), qn, by omega, sc_k hk120 hk121 pk qs (by omega), (fun c s e2 h => by rw [y3]; exact h), sc_row hu (by omega) (Eq.trans (by assumption) et) (Eq.trans (by assumption) et) (Eq.trans (by assumption) ep) (fun j => tS 160 j (by simp [aX])) (fun j => tS 161 j (by simp [aX])) y1 y2 (tok1_n qt)⟩)
  exact L12 0 (by decide) (by clear hgk hq hQ hmc hms hZ hnm K L12 G; grind (splits := 30))  _ hT_3 hS_4 ⟨0, 0, (by rw [upf (by decide), upa]; rfl), (by rw [upa]; rfl), by omega, by omega, by decide, fun _ _ _ h => h, fun u hu => absurd hu (by omega)⟩
