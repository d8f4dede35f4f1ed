/-- one of the first n is a -/
def Tk (V : Int32 → Int32) (n a : Int32) : Prop := ∃ b, 0 ≤ b ∧ b < n ∧ V b = a
theorem Tk_0 {V : Int32 → Int32} {a : Int32} : ¬ Tk V 0 a := fun ⟨_, h0, h1, _⟩ => absurd (Int32.lt_of_le_of_lt h0 h1) (by decide)
theorem lt_k1 {b k : Int32} (hk : k ≤ 1000) (h : b < k + 1) : b < k ∨ b = k := by grind
theorem Tk_s {V : Int32 → Int32} {k a : Int32} (h : ¬ Tk V k a) (hk : k ≤ 1000) (hv : ¬ V k = a) : ¬ Tk V (k + 1) a := fun ⟨b, h0, h1, h2⟩ => by
  rcases lt_k1 hk h1 with q | q
  · exact h ⟨b, h0, q, h2⟩
  · exact hv (q ▸ h2)
theorem Tk_i {V : Int32 → Int32} {k n a : Int32} (h0 : 0 ≤ k) (h1 : k < n) (hv : V k = a) : Tk V n a := ⟨k, h0, h1, hv⟩
theorem Tk_m {V : Int32 → Int32} {k n a : Int32} (h : ¬ Tk V k a) (hk : n ≤ k) : ¬ Tk V n a := fun ⟨b, h0, h1, h2⟩ => h ⟨b, h0, Int32.lt_of_lt_of_le h1 hk, h2⟩
/-- one of the first n absences binds f on day d -/
def Bd (Va Vd Vi : Int32 → Int32) (n f d : Int32) : Prop := ∃ b, 0 ≤ b ∧ b < n ∧ Vd b = d ∧ (Va b = f ∨ Vi b = f)
theorem Bd_0 {Va Vd Vi : Int32 → Int32} {f d : Int32} : ¬ Bd Va Vd Vi 0 f d := fun ⟨_, h0, h1, _⟩ => absurd (Int32.lt_of_le_of_lt h0 h1) (by decide)
theorem Bd_s {Va Vd Vi : Int32 → Int32} {k f d : Int32} (h : ¬ Bd Va Vd Vi k f d) (hk : k ≤ 1000) (hv : Vd k = d → ¬ Va k = f ∧ ¬ Vi k = f) : ¬ Bd Va Vd Vi (k + 1) f d := fun ⟨b, h0, h1, h2, h3⟩ => by
  rcases lt_k1 hk h1 with q | q
  · exact h ⟨b, h0, q, h2, h3⟩
  · rw [q] at h2 h3
    obtain ⟨g1, g2⟩ := hv h2
    exact h3.elim g1 g2
theorem Bd_i {Va Vd Vi : Int32 → Int32} {k n f d : Int32} (h0 : 0 ≤ k) (h1 : k < n) (h2 : Vd k = d) (h3 : Va k = f ∨ Vi k = f) : Bd Va Vd Vi n f d := ⟨k, h0, h1, h2, h3⟩
theorem Bd_m {Va Vd Vi : Int32 → Int32} {k n f d : Int32} (h : ¬ Bd Va Vd Vi k f d) (hk : n ≤ k) : ¬ Bd Va Vd Vi n f d := fun ⟨b, h0, h1, h2⟩ => h ⟨b, h0, Int32.lt_of_lt_of_le h1 hk, h2⟩
/-- what the answers and counts are -/
def CFm (n a b c d : Int32) : Prop := n ≤ 8 ∧ 0 ≤ a ∧ a ≤ 60 ∧ 0 ≤ b ∧ b ≤ 60 ∧ 0 ≤ c ∧ c ≤ 9 ∧ 0 ≤ d ∧ d ≤ 9999
def PF (n n' a b c d r : Int32) : Prop := (r = -1 ∧ n' = n ∧ ¬ CFm n a b c d) ∨ (r = n ∧ n' = n + 1 ∧ CFm n a b c d)
def CS0 (n b c : Int32) : Prop := n ≤ 7 ∧ 0 ≤ b ∧ b ≤ 99 ∧ 0 ≤ c ∧ c ≤ 9999
def PS0 (n n' b c r : Int32) : Prop := (r = -1 ∧ n' = n ∧ ¬ CS0 n b c) ∨ (r = n ∧ n' = n + 1 ∧ CS0 n b c)
def PS (n n' a b c r : Int32) : Prop := (r = -1 ∧ n' = n ∧ ¬ (0 ≤ a ∧ a ≤ 99999 ∧ CS0 n b c)) ∨ (r = n ∧ n' = n + 1 ∧ 0 ≤ a ∧ a ≤ 99999 ∧ CS0 n b c)
def CB (V : Int32 → Int32) (n nt a b c : Int32) : Prop := n ≤ 9 ∧ 0 ≤ a ∧ a ≤ nt - 1 ∧ 1 ≤ b ∧ b ≤ 99 ∧ 0 ≤ c ∧ c ≤ 99 ∧ ¬ Tk V n a
def PB (V V' : Int32 → Int32) (n n' nt a b c r : Int32) : Prop := (r = -1 ∧ n' = n ∧ (∀ j, V' j = V j) ∧ ¬ CB V n nt a b c) ∨ (r = n ∧ n' = n + 1 ∧ V' n = a ∧ (∀ j, ¬ j = n → V' j = V j) ∧ CB V n nt a b c)
def PG (g g' F f v r : Int32) : Prop := (r = 1 ∧ g' = g + 1 ∧ 0 ≤ f ∧ f ≤ F - 1 ∧ 0 ≤ v ∧ v ≤ 60 ∧ g ≤ 39) ∨ (r = 0 ∧ g' = g ∧ ¬ (0 ≤ f ∧ f ≤ F - 1 ∧ 0 ≤ v ∧ v ≤ 60 ∧ g ≤ 39))
def CA0 (Va Vd Vi : Int32 → Int32) (n a d b : Int32) : Prop := n ≤ 29 ∧ ¬ Bd Va Vd Vi n a d ∧ ¬ Bd Va Vd Vi n b d
def PA0 (Va Vd Vi Va' Vd' Vi' : Int32 → Int32) (n n' a d b r : Int32) : Prop := (r = 0 ∧ n' = n ∧ (∀ j, Va' j = Va j ∧ Vd' j = Vd j ∧ Vi' j = Vi j) ∧ ¬ CA0 Va Vd Vi n a d b) ∨ (r = 1 ∧ n' = n + 1 ∧ (Va' n = a ∧ Vd' n = d ∧ Vi' n = b) ∧ (∀ j, ¬ j = n → Va' j = Va j ∧ Vd' j = Vd j ∧ Vi' j = Vi j) ∧ CA0 Va Vd Vi n a d b)
def CA (Va Vd Vi : Int32 → Int32) (F n a d b : Int32) : Prop := 0 ≤ a ∧ a ≤ F - 1 ∧ 0 ≤ b ∧ b ≤ F - 1 ∧ ¬ a = b ∧ 0 ≤ d ∧ d ≤ 9999 ∧ CA0 Va Vd Vi n a d b
def PA (Va Vd Vi Va' Vd' Vi' : Int32 → Int32) (F n n' a d b r : Int32) : Prop := (r = 0 ∧ n' = n ∧ (∀ j, Va' j = Va j ∧ Vd' j = Vd j ∧ Vi' j = Vi j) ∧ ¬ CA Va Vd Vi F n a d b) ∨ (r = 1 ∧ n' = n + 1 ∧ (Va' n = a ∧ Vd' n = d ∧ Vi' n = b) ∧ (∀ j, ¬ j = n → Va' j = Va j ∧ Vd' j = Vd j ∧ Vi' j = Vi j) ∧ CA Va Vd Vi F n a d b)
def PT (n n' r : Int32) : Prop := (r = -1 ∧ n' = n ∧ ¬ n ≤ 380) ∨ (r = n + 20 ∧ n' = n + 20 ∧ n ≤ 380)
def PE (n n' k r : Int32) : Prop := (r = 1 ∧ n' = k ∧ 0 ≤ k ∧ k ≤ n) ∨ (r = 0 ∧ n' = n ∧ ¬ (0 ≤ k ∧ k ≤ n))
/-- the cells of the Movings -/
def isMv (k : Nat) : Bool := k == 2 || k == 39 || k == 168 || k == 77 || k == 87 || k == 97 || k == 107 || k == 117 || k == 127 || k == 137 || k == 147
theorem mv_in {k a : Nat} (h : isMv k = true) (ha : k ≤ a ∧ a ≤ k + 9) : (∀ j, bX a j = fb) ∧ ∀ j, aX a j = false := by
  simp only [isMv, Bool.or_eq_true, beq_iff_eq] at h
  rcases h with (((((((((rfl | rfl) | rfl) | rfl) | rfl) | rfl) | rfl) | rfl) | rfl) | rfl) | rfl <;>
    (obtain ⟨i, hi, rfl⟩ : ∃ i, i < 10 ∧ a = _ + i := ⟨a - _, by omega, (Nat.add_sub_cancel' ha.1).symm⟩
     rcases (show i = 0 ∨ i = 1 ∨ i = 2 ∨ i = 3 ∨ i = 4 ∨ i = 5 ∨ i = 6 ∨ i = 7 ∨ i = 8 ∨ i = 9 by omega) with rfl | rfl | rfl | rfl | rfl | rfl | rfl | rfl | rfl | rfl <;> exact ⟨fun j => by simp [bX], fun j => by simp [aX]⟩)
theorem TX_mvc {M : Mx} {k k2 : Nat} (h : TX M) (hk : isMv k = true) : TX (mvc M k k2) := Tm_of h (fun a j => by
  by_cases q : k ≤ a ∧ a ≤ k + 9
  · exact Or.inr ((mv_in hk q).1 j)
  · exact Or.inl (mvc_o (by omega)))
theorem SX_mvc {M N : Mx} {k k2 : Nat} (h : SX N M) (hk : isMv k = true) : SX N (mvc M k k2) := fun a j ha => by
  by_cases q : k ≤ a ∧ a ≤ k + 9
  · rw [(mv_in hk q).2 j] at ha; cases ha
  · rw [mvc_o (by omega)]; exact h a j ha
theorem TX_fgt {M : Mx} (h : TX M) : TX (fil (fil M (2 + 5) 9 0) (2 + 7) 9 0) := Tm_fil (Tm_fil h (fun j => by rw [show bX (2 + 5) j = fb by simp [bX]]; exact fb_ok _)) (fun j => by rw [show bX (2 + 7) j = fb by simp [bX]]; exact fb_ok _)
theorem SX_fgt {M N : Mx} (h : SX N M) : SX N (fil (fil M (2 + 5) 9 0) (2 + 7) 9 0) := Sx_fil (Sx_fil h (fun j => by simp [aX])) (fun j => by simp [aX])

set_option maxHeartbeats 400000 in
set_option maxRecDepth 100000 in
theorem t_X3_draw {gk : Gk} {ad : Nat → Nat} (m : Int32) (M : Mx) (hT : TX M) : Ct (gk, (ad, shX)) yX3_draw cX3_draw 2 (some .int) 1 0 0 [.ref 2, .int m] M (Rs (gk, (ad, shX)) (RI (fun r M' => TX M' ∧ SX M M' ∧ (True)))) := by
  refine Ct.of (by decide) (Nat.le_of_ble_eq_true rfl) ?_
  intro G hgk hQ hmc hms hZ hnm K
  have hgk : gk = xk G := hgk.symm
  subst hgk
  have hq : ∀ (r : Int32) (M' : Mx), (TX M' ∧ SX M M' ∧ (True)) → xQ G (xk G, (ad, shX)) (some (.int r)) M' := fun r M' h => by rw [hQ]; exact ⟨rfl, r, rfl, h⟩
  show AW G 2 (ad, shX) 0 0 M 0 [(0, .ref 2), (1, .int m)] []
  have hS0 : SX M M := Sx.rf
  refine aw_aload_n K dX3_draw_0 0 rfl rfl ?_
  refine aw_ldc (v := 1664525) K dX3_draw_1 kcX3_76 ?_
  refine aw_aload_n K dX3_draw_3 0 rfl rfl ?_
  refine aw_geti (j := 0) (i := 0) K cf3 flX3_39 dX3_draw_4 s2 (by decide) rfl rfl ?_
  refine aw_topi (fun v_1 ev_1 => ?_)
  refine aw_imul K dX3_draw_7 ?_
  refine aw_ldc (v := 1013904223) K dX3_draw_8 kcX3_77 ?_
  refine aw_iadd K dX3_draw_10 ?_
  refine aw_puti (j := 0) (i := 0) (ty := .int) K cf3 flX3_39 dX3_draw_11 s2 (by decide) rfl rfl rfl (by decide +kernel) rfl rfl (ln_ok rfl) ?_
  have hT_2 : TX (up M 2 0 ((1664525 * v_1) + 1013904223)) := vX_2_0 hT
  have hS_3 : SX M (up M 2 0 ((1664525 * v_1) + 1013904223)) := nX_2_0 hS0
  refine aw_iload_n K dX3_draw_14 1 rfl rfl ?_
  have J_6 : ∀ (v_5 : Int32), (((m ≤ 0) ∧ v_5 = 0) ∨ ((¬ (m ≤ 0)) ∧ v_5 = ((ushr ((1664525 * v_1) + 1013904223) 8) - (ushr ((1664525 * v_1) + 1013904223) 8) / m * m))) → AW G 2 (ad, shX) 0 0 (up M 2 0 ((1664525 * v_1) + 1013904223)) 31 [(0, .ref 2), (1, .int m)] [.int v_5] := by
    intro v_5  h_7
    refine aw_iret (v := v_5) K dX3_draw_31 (hq v_5 (up M 2 0 ((1664525 * v_1) + 1013904223)) ?_) hZ hmc.symm hms.symm
    exact ⟨hT_2, hS_3, trivial⟩
  refine aw_if_le (tgt := 30) K dX3_draw_15 (by decide) (fun c_4 => ?_) (fun c_4 => ?_)
  · refine aw_iconst (v := 0) K dX3_draw_30 (by decide) ?_
    exact J_6 _  (Or.inl ⟨c_4, rfl⟩)
  · refine aw_aload_n K dX3_draw_18 0 rfl rfl ?_
    refine aw_geti (j := 0) (i := 0) K cf3 flX3_39 dX3_draw_19 s2 (by decide) rfl rfl ?_
    refine aw_topr (y := ((1664525 * v_1) + 1013904223)) (by simp [up]) ?_
    refine aw_bipush (v := 8) K dX3_draw_22 (by decide) ?_
    refine aw_iushr (v := (ushr ((1664525 * v_1) + 1013904223) 8)) K dX3_draw_24 rfl ?_
    refine aw_iload_n K dX3_draw_25 1 rfl rfl ?_
    refine aw_irem K dX3_draw_26 (by clear hgk hq hQ hmc hms hZ hnm K J_6 G; grind (splits := 30)) ?_
    refine aw_goto (tgt := 31) K dX3_draw_27 (by decide) ?_
    exact J_6 _  (Or.inr (⟨c_4, rfl⟩))

set_option maxHeartbeats 400000 in
set_option maxRecDepth 100000 in
theorem t_X3_allDrops {gk : Gk} {ad : Nat → Nat} (M : Mx) (hT : TX M) : Ct (gk, (ad, shX)) yX3_allDrops cX3_allDrops 3 (some .int) 1 0 0 [.ref 2] M (Rs (gk, (ad, shX)) (RI (fun r M' => M' = M ∧ (True)))) := by
  refine Ct.of (by decide) (Nat.le_of_ble_eq_true rfl) ?_
  intro G hgk hQ hmc hms hZ hnm K
  have hgk : gk = xk G := hgk.symm
  subst hgk
  have hq : ∀ (r : Int32) (M' : Mx), (M' = M ∧ (True)) → xQ G (xk G, (ad, shX)) (some (.int r)) M' := fun r M' h => by rw [hQ]; exact ⟨rfl, r, rfl, h⟩
  show AW G 3 (ad, shX) 0 0 M 0 [(0, .ref 2)] []
  refine aw_aload_n K dX3_allDrops_0 0 rfl rfl ?_
  refine aw_geti (j := 1) (i := 1) K cf3 flX3_43 dX3_allDrops_1 s2 (by decide) rfl rfl ?_
  refine aw_topi (fun v_1 ev_1 => ?_)
  refine aw_aload_n K dX3_allDrops_4 0 rfl rfl ?_
  refine aw_geti (j := 2) (i := 2) K cf3 flX3_46 dX3_allDrops_5 s2 (by decide) rfl rfl ?_
  refine aw_topi (fun v_2 ev_2 => ?_)
  refine aw_iadd K dX3_allDrops_8 ?_
  refine aw_istore_n (lv' := [(0, .ref 2), (1, .int (v_1 + v_2))]) K dX3_allDrops_9 [1, 0] rfl rfl (by decide) ?_
  refine aw_iconst (v := 0) K dX3_allDrops_10 (by decide) ?_
  refine aw_istore_n (lv' := [(0, .ref 2), (1, .int (v_1 + v_2)), (2, .int 0)]) K dX3_allDrops_11 [1, 2, 0] rfl rfl (by decide) ?_
  have L12 : ∀ (k12 : Int32), 0 ≤ k12 → k12 ≤ 2147483647 → ∀ (x12_1 : Int32), (True) → AW G 3 (ad, shX) 0 0 M 12 [(0, .ref 2), (1, .int x12_1), (2, .int k12)] [] := by
    refine for_up 2147483647 ?_
    intro k12 hk120 hk121 ih12 x12_1  hI12
    refine aw_iload_n K dX3_allDrops_12 2 rfl rfl ?_
    refine aw_bipush (v := 10) K dX3_allDrops_13 (by decide) ?_
    refine aw_icmp_ge (tgt := 33) K dX3_allDrops_15 (by decide) (fun c_3 => ?_) (fun c_3 => ?_)
    · refine aw_iconst (v := 0) K dX3_allDrops_33 (by decide) ?_
      refine aw_istore_n (lv' := [(0, .ref 2), (1, .int x12_1), (2, .int 0)]) K dX3_allDrops_34 [1, 2, 0] rfl rfl (by decide) ?_
      have L35 : ∀ (k35 : Int32), 0 ≤ k35 → k35 ≤ 2147483647 → ∀ (x35_1 : Int32), (True) → AW G 3 (ad, shX) 0 0 M 35 [(0, .ref 2), (1, .int x35_1), (2, .int k35)] [] := by
        refine for_up 2147483647 ?_
        intro k35 hk350 hk351 ih35 x35_1  hI35
        refine aw_iload_n K dX3_allDrops_35 2 rfl rfl ?_
        refine aw_bipush (v := 9) K dX3_allDrops_36 (by decide) ?_
        refine aw_icmp_ge (tgt := 56) K dX3_allDrops_38 (by decide) (fun c_4 => ?_) (fun c_4 => ?_)
        · refine aw_iload_n K dX3_allDrops_56 1 rfl rfl ?_
          refine aw_iret (v := x35_1) K dX3_allDrops_57 (hq x35_1 M ?_) hZ hmc.symm hms.symm
          exact ⟨rfl, trivial⟩
        · refine aw_iload_n K dX3_allDrops_41 1 rfl rfl ?_
          refine aw_aload_n K dX3_allDrops_42 0 rfl rfl ?_
          refine aw_getr (j := 9) K cf3 flX3_18 dX3_allDrops_43 s2 (by decide) rfl ?_
          refine aw_iload_n K dX3_allDrops_46 2 rfl rfl ?_
          refine aw_iald (nv := 9) K dX3_allDrops_47 s5 (by decide) (by decide) (by clear hgk hq hQ hmc hms hZ hnm K ih12 ih35 G; grind (splits := 30)) (by clear hgk hq hQ hmc hms hZ hnm K ih12 ih35 G; grind (splits := 30)) ?_
          refine aw_topi (fun v_5 ev_5 => ?_)
          refine aw_iadd K dX3_allDrops_48 ?_
          refine aw_istore_n (lv' := [(0, .ref 2), (1, .int (x35_1 + v_5)), (2, .int k35)]) K dX3_allDrops_49 [1, 0, 2] rfl rfl (by decide) ?_
          refine aw_iinc (v := (k35 + 1)) (lv' := [(0, .ref 2), (1, .int (x35_1 + v_5)), (2, .int (k35 + 1))]) K dX3_allDrops_50 2 rfl rfl [1, 2, 0] rfl (by decide) ?_
          refine aw_goto (tgt := 35) K dX3_allDrops_53 (by decide) ?_
          exact ih35 (by clear hgk hq hQ hmc hms hZ hnm K ih12 ih35 G; grind (splits := 30)) _  trivial
      exact L35 0 (by decide) (mx_le _) _  trivial
    · refine aw_iload_n K dX3_allDrops_18 1 rfl rfl ?_
      refine aw_aload_n K dX3_allDrops_19 0 rfl rfl ?_
      refine aw_getr (j := 7) K cf3 flX3_9 dX3_allDrops_20 s2 (by decide) rfl ?_
      refine aw_iload_n K dX3_allDrops_23 2 rfl rfl ?_
      refine aw_iald (nv := 10) K dX3_allDrops_24 s3 (by decide) (by decide) (by clear hgk hq hQ hmc hms hZ hnm K ih12 G; grind (splits := 30)) (by clear hgk hq hQ hmc hms hZ hnm K ih12 G; grind (splits := 30)) ?_
      refine aw_topi (fun v_6 ev_6 => ?_)
      refine aw_iadd K dX3_allDrops_25 ?_
      refine aw_istore_n (lv' := [(0, .ref 2), (1, .int (x12_1 + v_6)), (2, .int k12)]) K dX3_allDrops_26 [1, 0, 2] rfl rfl (by decide) ?_
      refine aw_iinc (v := (k12 + 1)) (lv' := [(0, .ref 2), (1, .int (x12_1 + v_6)), (2, .int (k12 + 1))]) K dX3_allDrops_27 2 rfl rfl [1, 2, 0] rfl (by decide) ?_
      refine aw_goto (tgt := 12) K dX3_allDrops_30 (by decide) ?_
      exact ih12 (by clear hgk hq hQ hmc hms hZ hnm K ih12 G; grind (splits := 30)) _  trivial
  exact L12 0 (by decide) (mx_le _) _  trivial

set_option maxHeartbeats 400000 in
set_option maxRecDepth 100000 in
theorem t_X3_debtOf {gk : Gk} {ad : Nat → Nat} (f : Int32) (M : Mx) (hT : TX M) (h0 : 0 ≤ f) (h1 : f ≤ 8) : Ct (gk, (ad, shX)) yX3_debtOf cX3_debtOf 4 (some .int) 1 0 0 [.ref 2, .int f] M (Rs (gk, (ad, shX)) (RI (fun r M' => M' = M ∧ (True)))) := by
  refine Ct.of (by decide) (Nat.le_of_ble_eq_true rfl) ?_
  intro G hgk hQ hmc hms hZ hnm K
  have hgk : gk = xk G := hgk.symm
  subst hgk
  have hq : ∀ (r : Int32) (M' : Mx), (M' = M ∧ (True)) → xQ G (xk G, (ad, shX)) (some (.int r)) M' := fun r M' h => by rw [hQ]; exact ⟨rfl, r, rfl, h⟩
  show AW G 4 (ad, shX) 0 0 M 0 [(0, .ref 2), (1, .int f)] []
  refine aw_iconst (v := 0) K dX3_debtOf_0 (by decide) ?_
  refine aw_istore_n (lv' := [(0, .ref 2), (1, .int f), (2, .int 0)]) K dX3_debtOf_1 [1, 2, 0] rfl rfl (by decide) ?_
  refine aw_iconst (v := 0) K dX3_debtOf_2 (by decide) ?_
  refine aw_istore_n (lv' := [(0, .ref 2), (1, .int f), (2, .int 0), (3, .int 0)]) K dX3_debtOf_3 [1, 2, 3, 0] rfl rfl (by decide) ?_
  have L4 : ∀ (k4 : Int32), 0 ≤ k4 → k4 ≤ 2147483647 → ∀ (x4_2 : Int32), (True) → AW G 4 (ad, shX) 0 0 M 4 [(0, .ref 2), (1, .int f), (2, .int x4_2), (3, .int k4)] [] := by
    refine for_up 2147483647 ?_
    intro k4 hk40 hk41 ih4 x4_2  hI4
    refine aw_iload_n K dX3_debtOf_4 3 rfl rfl ?_
    refine aw_bipush (v := 9) K dX3_debtOf_5 (by decide) ?_
    refine aw_icmp_ge (tgt := 30) K dX3_debtOf_7 (by decide) (fun c_1 => ?_) (fun c_1 => ?_)
    · refine aw_iload_n K dX3_debtOf_30 2 rfl rfl ?_
      refine aw_iret (v := x4_2) K dX3_debtOf_31 (hq x4_2 M ?_) hZ hmc.symm hms.symm
      exact ⟨rfl, trivial⟩
    · refine aw_iload_n K dX3_debtOf_10 2 rfl rfl ?_
      refine aw_aload_n K dX3_debtOf_11 0 rfl rfl ?_
      refine aw_getr (j := 15) K cf3 flX3_36 dX3_debtOf_12 s2 (by decide) rfl ?_
      refine aw_iload_n K dX3_debtOf_15 1 rfl rfl ?_
      refine aw_bipush (v := 9) K dX3_debtOf_16 (by decide) ?_
      refine aw_imul K dX3_debtOf_18 ?_
      refine aw_iload_n K dX3_debtOf_19 3 rfl rfl ?_
      refine aw_iadd K dX3_debtOf_20 ?_
      refine aw_iald (nv := 81) K dX3_debtOf_21 s11 (by decide) (by decide) (by clear hgk hq hQ hmc hms hZ hnm K ih4 G; grind (splits := 30)) (by clear hgk hq hQ hmc hms hZ hnm K ih4 G; grind (splits := 30)) ?_
      refine aw_topi (fun v_2 ev_2 => ?_)
      refine aw_iadd K dX3_debtOf_22 ?_
      refine aw_istore_n (lv' := [(0, .ref 2), (1, .int f), (2, .int (x4_2 + v_2)), (3, .int k4)]) K dX3_debtOf_23 [1, 2, 0, 3] rfl rfl (by decide) ?_
      refine aw_iinc (v := (k4 + 1)) (lv' := [(0, .ref 2), (1, .int f), (2, .int (x4_2 + v_2)), (3, .int (k4 + 1))]) K dX3_debtOf_24 3 rfl rfl [1, 2, 3, 0] rfl (by decide) ?_
      refine aw_goto (tgt := 4) K dX3_debtOf_27 (by decide) ?_
      exact ih4 (by clear hgk hq hQ hmc hms hZ hnm K ih4 G; grind (splits := 30)) _  trivial
  exact L4 0 (by decide) (mx_le _) _  trivial

set_option maxHeartbeats 400000 in
set_option maxRecDepth 100000 in
theorem t_X3_creditOf {gk : Gk} {ad : Nat → Nat} (f : Int32) (M : Mx) (hT : TX M) (h0 : 0 ≤ f) (h1 : f ≤ 8) : Ct (gk, (ad, shX)) yX3_creditOf cX3_creditOf 4 (some .int) 1 0 0 [.ref 2, .int f] M (Rs (gk, (ad, shX)) (RI (fun r M' => M' = M ∧ (True)))) := by
  refine Ct.of (by decide) (Nat.le_of_ble_eq_true rfl) ?_
  intro G hgk hQ hmc hms hZ hnm K
  have hgk : gk = xk G := hgk.symm
  subst hgk
  have hq : ∀ (r : Int32) (M' : Mx), (M' = M ∧ (True)) → xQ G (xk G, (ad, shX)) (some (.int r)) M' := fun r M' h => by rw [hQ]; exact ⟨rfl, r, rfl, h⟩
  show AW G 4 (ad, shX) 0 0 M 0 [(0, .ref 2), (1, .int f)] []
  refine aw_iconst (v := 0) K dX3_creditOf_0 (by decide) ?_
  refine aw_istore_n (lv' := [(0, .ref 2), (1, .int f), (2, .int 0)]) K dX3_creditOf_1 [1, 2, 0] rfl rfl (by decide) ?_
  refine aw_iconst (v := 0) K dX3_creditOf_2 (by decide) ?_
  refine aw_istore_n (lv' := [(0, .ref 2), (1, .int f), (2, .int 0), (3, .int 0)]) K dX3_creditOf_3 [1, 2, 3, 0] rfl rfl (by decide) ?_
  have L4 : ∀ (k4 : Int32), 0 ≤ k4 → k4 ≤ 2147483647 → ∀ (x4_2 : Int32), (True) → AW G 4 (ad, shX) 0 0 M 4 [(0, .ref 2), (1, .int f), (2, .int x4_2), (3, .int k4)] [] := by
    refine for_up 2147483647 ?_
    intro k4 hk40 hk41 ih4 x4_2  hI4
    refine aw_iload_n K dX3_creditOf_4 3 rfl rfl ?_
    refine aw_bipush (v := 9) K dX3_creditOf_5 (by decide) ?_
    refine aw_icmp_ge (tgt := 30) K dX3_creditOf_7 (by decide) (fun c_1 => ?_) (fun c_1 => ?_)
    · refine aw_iload_n K dX3_creditOf_30 2 rfl rfl ?_
      refine aw_iret (v := x4_2) K dX3_creditOf_31 (hq x4_2 M ?_) hZ hmc.symm hms.symm
      exact ⟨rfl, trivial⟩
    · refine aw_iload_n K dX3_creditOf_10 2 rfl rfl ?_
      refine aw_aload_n K dX3_creditOf_11 0 rfl rfl ?_
      refine aw_getr (j := 15) K cf3 flX3_36 dX3_creditOf_12 s2 (by decide) rfl ?_
      refine aw_iload_n K dX3_creditOf_15 3 rfl rfl ?_
      refine aw_bipush (v := 9) K dX3_creditOf_16 (by decide) ?_
      refine aw_imul K dX3_creditOf_18 ?_
      refine aw_iload_n K dX3_creditOf_19 1 rfl rfl ?_
      refine aw_iadd K dX3_creditOf_20 ?_
      refine aw_iald (nv := 81) K dX3_creditOf_21 s11 (by decide) (by decide) (by clear hgk hq hQ hmc hms hZ hnm K ih4 G; grind (splits := 30)) (by clear hgk hq hQ hmc hms hZ hnm K ih4 G; grind (splits := 30)) ?_
      refine aw_topi (fun v_2 ev_2 => ?_)
      refine aw_iadd K dX3_creditOf_22 ?_
      refine aw_istore_n (lv' := [(0, .ref 2), (1, .int f), (2, .int (x4_2 + v_2)), (3, .int k4)]) K dX3_creditOf_23 [1, 2, 0, 3] rfl rfl (by decide) ?_
      refine aw_iinc (v := (k4 + 1)) (lv' := [(0, .ref 2), (1, .int f), (2, .int (x4_2 + v_2)), (3, .int (k4 + 1))]) K dX3_creditOf_24 3 rfl rfl [1, 2, 3, 0] rfl (by decide) ?_
      refine aw_goto (tgt := 4) K dX3_creditOf_27 (by decide) ?_
      exact ih4 (by clear hgk hq hQ hmc hms hZ hnm K ih4 G; grind (splits := 30)) _  trivial
  exact L4 0 (by decide) (mx_le _) _  trivial
