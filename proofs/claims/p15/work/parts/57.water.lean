/-! WATER: what is out of the lake, as a sum -/
def smI (V : Int32 → Int32) : Nat → Int
  | 0 => 0
  | n + 1 => smI V n + (V (nI n)).toInt
theorem sm_e {V W : Int32 → Int32} : ∀ {N : Nat}, (∀ n : Nat, n < N → W (nI n) = V (nI n)) → smI W N = smI V N
  | 0, _ => rfl
  | N + 1, h => by
    simp only [smI]
    rw [sm_e (fun n hn => h n (by omega)), h N (by omega)]
theorem sm_nn {V : Int32 → Int32} : ∀ {N : Nat}, (∀ n : Nat, n < N → 0 ≤ (V (nI n)).toInt) → 0 ≤ smI V N
  | 0, _ => Int.le_refl 0
  | N + 1, h => by
    simp only [smI]
    have h1 := sm_nn (V := V) (N := N) (fun n hn => h n (by omega))
    have h2 := h N (by omega)
    omega
theorem sm_ge {V : Int32 → Int32} : ∀ {N b : Nat}, (∀ n : Nat, n < N → 0 ≤ (V (nI n)).toInt) → b < N → (V (nI b)).toInt ≤ smI V N
  | 0, b, _, hb => absurd hb (by omega)
  | N + 1, b, h, hb => by
    simp only [smI]
    have h0 := sm_nn (V := V) (N := N) (fun n hn => h n (by omega))
    have h2 := h N (by omega)
    by_cases e : b = N
    · subst e; omega
    · have h1 := sm_ge (V := V) (N := N) (b := b) (fun n hn => h n (by omega)) (by omega)
      omega
/-- a part of the sum -/
theorem sm_le {V : Int32 → Int32} {N : Nat} (h : ∀ n : Nat, n < N → 0 ≤ (V (nI n)).toInt) : ∀ {K : Nat}, K ≤ N → smI V K ≤ smI V N := by
  induction N with
  | zero =>
    intro K hK
    have : K = 0 := by omega
    subst this
    exact Int.le_refl _
  | succ N ih =>
    intro K hK
    by_cases e : K = N + 1
    · subst e; exact Int.le_refl _
    · have h1 := ih (fun n hn => h n (by omega)) (K := K) (by omega)
      have h2 := h N (by omega)
      simp only [smI]
      omega
theorem sm_up {V W : Int32 → Int32} {x : Int32} : ∀ {N b : Nat}, b < N → (∀ n : Nat, n < N → W (nI n) = if n = b then x else V (nI n)) → smI W N = smI V N - (V (nI b)).toInt + x.toInt
  | 0, b, hb, _ => absurd hb (by omega)
  | N + 1, b, hb, h => by
    simp only [smI]
    rw [h N (by omega)]
    by_cases e : b = N
    · subst e
      rw [if_pos rfl, sm_e (V := V) (W := W) (fun n hn => by rw [h n (by omega), if_neg (by omega)])]
      omega
    · rw [if_neg (by omega), sm_up (V := V) (W := W) (N := N) (b := b) (by omega) (fun n hn => h n (by omega))]
      omega
theorem i_add {a b : Int32} (h0 : -2147483648 ≤ a.toInt + b.toInt) (h1 : a.toInt + b.toInt ≤ 2147483647) : (a + b).toInt = a.toInt + b.toInt := by
  rw [Int32.toInt_add]
  exact Int.bmod_eq_of_le (by omega) (by omega)
theorem i_sub {a b : Int32} (h0 : -2147483648 ≤ a.toInt - b.toInt) (h1 : a.toInt - b.toInt ≤ 2147483647) : (a - b).toInt = a.toInt - b.toInt := by
  rw [Int32.toInt_sub]
  exact Int.bmod_eq_of_le (by omega) (by omega)
theorem i_le {a b : Int32} : a ≤ b ↔ a.toInt ≤ b.toInt := Int32.le_iff_toInt_le
theorem i_lt {a b : Int32} : a < b ↔ a.toInt < b.toInt := Int32.lt_iff_toInt_lt
theorem i_0 : (0 : Int32).toInt = 0 := rfl
/-- lake, trough, turned, pails, drops: none below 0, and not too much of them -/
def Wv (L T U : Int32) (P D : Int32 → Int32) (c : Int) : Prop := (0 ≤ L.toInt ∧ 0 ≤ T.toInt ∧ 0 ≤ U.toInt ∧ U.toInt ≤ 40) ∧ (∀ n : Nat, n < 10 → 0 ≤ (P (nI n)).toInt) ∧ (∀ n : Nat, n < 9 → 0 ≤ (D (nI n)).toInt) ∧ T.toInt + smI P 10 + smI D 9 ≤ c ∧ L.toInt + (T.toInt + smI P 10 + smI D 9) ≤ 10000000 + c
theorem wv_mono {L T U : Int32} {P D : Int32 → Int32} {c c' : Int} (h : Wv L T U P D c) (hc : c ≤ c') : Wv L T U P D c' := by
  obtain ⟨h1, h2, h3, h4, h5⟩ := h
  exact ⟨h1, h2, h3, by omega, by omega⟩
theorem wv_e {L T U L' T' U' : Int32} {P D P' D' : Int32 → Int32} {c : Int} (h : Wv L T U P D c) (eL : L' = L) (eT : T' = T) (eU : U' = U) (eP : ∀ n : Nat, n < 10 → P' (nI n) = P (nI n)) (eD : ∀ n : Nat, n < 9 → D' (nI n) = D (nI n)) : Wv L' T' U' P' D' c := by
  subst eL eT eU
  obtain ⟨h1, h2, h3, h4, h5⟩ := h
  refine ⟨h1, fun n hn => by rw [eP n hn]; exact h2 n hn, fun n hn => by rw [eD n hn]; exact h3 n hn, ?_, ?_⟩
  · rw [sm_e eP, sm_e eD]; exact h4
  · rw [sm_e eP, sm_e eD]; exact h5
theorem wv_0 {P D : Int32 → Int32} {c : Int} (hc : 0 ≤ c) (hP : ∀ n : Nat, n < 10 → P (nI n) = 0) (hD : ∀ n : Nat, n < 9 → D (nI n) = 0) : Wv 0 0 0 P D c := by
  have z : ∀ N, smI (fun _ => 0) N = 0 := fun N => by
    induction N with
    | zero => rfl
    | succ N ih =>
      simp only [smI]
      rw [ih]
      rfl
  have p : smI P 10 = 0 := (sm_e (V := fun _ => 0) (W := P) hP).trans (z 10)
  have d : smI D 9 = 0 := (sm_e (V := fun _ => 0) (W := D) hD).trans (z 9)
  refine ⟨by decide, fun n hn => by rw [hP n hn]; decide, fun n hn => by rw [hD n hn]; decide, ?_, ?_⟩
  · rw [p, d, i_0]; omega
  · rw [p, d, i_0]; omega
theorem wv_turn {L T U U' : Int32} {P D : Int32 → Int32} {c : Int} (h : Wv L T U P D c) (h0 : 0 ≤ U'.toInt) (h1 : U'.toInt ≤ 40) : Wv L T U' P D c := ⟨⟨h.1.1, h.1.2.1, h0, h1⟩, h.2⟩
theorem wv_lake {L L' T U : Int32} {P D : Int32 → Int32} {c : Int} (h : Wv L T U P D c) (h0 : 0 ≤ L') (h1 : L' ≤ 9999999) : Wv L' T U P D c := by
  obtain ⟨⟨a1, a2, a3, a4⟩, h2, h3, h4, h5⟩ := h
  rw [i_le] at h0 h1
  have e1 : (9999999 : Int32).toInt = 9999999 := rfl
  rw [i_0] at h0
  rw [e1] at h1
  exact ⟨⟨h0, a2, a3, a4⟩, h2, h3, h4, by omega⟩
/-- the pail goes into the trough -/
theorem wv_empty {L T T' U : Int32} {P D P' : Int32 → Int32} {c : Int} {b : Nat} (h : Wv L T U P D c) (hc : c ≤ 800000000) (hb : b < 10) (eT : T' = T + P (nI b)) (eP : ∀ n : Nat, n < 10 → P' (nI n) = if n = b then 0 else P (nI n)) : Wv L T' U P' D c := by
  obtain ⟨⟨a1, a2, a3, a4⟩, h2, h3, h4, h5⟩ := h
  have p0 := sm_nn h2
  have d0 := sm_nn h3
  have pb := sm_ge h2 hb
  have p1 := h2 b hb
  have e : T'.toInt = T.toInt + (P (nI b)).toInt := by rw [eT]; exact i_add (by omega) (by omega)
  have s := sm_up hb eP
  rw [i_0] at s
  refine ⟨⟨a1, by omega, a3, a4⟩, fun n hn => ?_, h3, by omega, by omega⟩
  rw [eP n hn]
  by_cases z : n = b
  · rw [if_pos z]; decide
  · rw [if_neg z]; exact h2 n hn
/-- the pail is filled out of the lake -/
theorem wv_fill {L L' T U t s : Int32} {P D P' : Int32 → Int32} {c : Int} {b : Nat} (h : Wv L T U P D c) (hc : c ≤ 800000000) (hb : b < 10) (hs0 : 0 ≤ s) (hs : s ≤ 99) (et : t = s - P (nI b) ∧ s - P (nI b) ≤ L ∨ t = L ∧ L ≤ s - P (nI b)) (eL : L' = L - t) (eP : ∀ n : Nat, n < 10 → P' (nI n) = if n = b then P (nI b) + t else P (nI n)) : Wv L' T U P' D (c + 99) := by
  obtain ⟨⟨a1, a2, a3, a4⟩, h2, h3, h4, h5⟩ := h
  have p0 := sm_nn h2
  have d0 := sm_nn h3
  have pb := sm_ge h2 hb
  have p1 := h2 b hb
  rw [i_le] at hs0 hs
  rw [i_0] at hs0
  have e99 : (99 : Int32).toInt = 99 := rfl
  rw [e99] at hs
  have ed : (s - P (nI b)).toInt = s.toInt - (P (nI b)).toInt := i_sub (by omega) (by omega)
  have ht : (t.toInt = s.toInt - (P (nI b)).toInt ∧ t.toInt ≤ L.toInt) ∨ (t.toInt = L.toInt ∧ t.toInt ≤ s.toInt - (P (nI b)).toInt) := by
    rcases et with ⟨q1, q2⟩ | ⟨q1, q2⟩
    · rw [i_le, ed] at q2
      exact Or.inl ⟨by rw [q1, ed], by rw [q1, ed]; exact q2⟩
    · rw [i_le, ed] at q2
      exact Or.inr ⟨by rw [q1], by rw [q1]; exact q2⟩
  have e1 : L'.toInt = L.toInt - t.toInt := by rw [eL]; exact i_sub (by omega) (by omega)
  have e2 : (P (nI b) + t).toInt = (P (nI b)).toInt + t.toInt := i_add (by omega) (by omega)
  have sm := sm_up hb eP
  rw [e2] at sm
  refine ⟨⟨by omega, a2, a3, a4⟩, fun n hn => ?_, h3, by omega, by omega⟩
  rw [eP n hn]
  by_cases z : n = b
  · rw [if_pos z, e2]; omega
  · rw [if_neg z]; exact h2 n hn
/-- drips on a farm -/
theorem wv_dropF {L T U v : Int32} {P D P' D' : Int32 → Int32} {c : Int} {b f : Nat} (h : Wv L T U P D c) (hc : c ≤ 800000000) (hb : b < 10) (hf : f < 9) (v0 : 0 ≤ v) (v1 : v ≤ P (nI b)) (eP : ∀ n : Nat, n < 10 → P' (nI n) = if n = b then P (nI b) - v else P (nI n)) (eD : ∀ n : Nat, n < 9 → D' (nI n) = if n = f then D (nI f) + v else D (nI n)) : Wv L T U P' D' c := by
  obtain ⟨⟨a1, a2, a3, a4⟩, h2, h3, h4, h5⟩ := h
  have p0 := sm_nn h2
  have d0 := sm_nn h3
  have pb := sm_ge h2 hb
  have df := sm_ge h3 hf
  have p1 := h2 b hb
  have d1 := h3 f hf
  rw [i_le] at v0 v1
  rw [i_0] at v0
  have e1 : (P (nI b) - v).toInt = (P (nI b)).toInt - v.toInt := i_sub (by omega) (by omega)
  have e2 : (D (nI f) + v).toInt = (D (nI f)).toInt + v.toInt := i_add (by omega) (by omega)
  have s1 := sm_up hb eP
  have s2 := sm_up hf eD
  rw [e1] at s1
  rw [e2] at s2
  refine ⟨⟨a1, a2, a3, a4⟩, fun n hn => ?_, fun n hn => ?_, by omega, by omega⟩
  · rw [eP n hn]
    by_cases z : n = b
    · rw [if_pos z, e1]; omega
    · rw [if_neg z]; exact h2 n hn
  · rw [eD n hn]
    by_cases z : n = f
    · rw [if_pos z, e2]; omega
    · rw [if_neg z]; exact h3 n hn
/-- drips into the lake -/
theorem wv_dropL {L L' T U v : Int32} {P D P' : Int32 → Int32} {c : Int} {b : Nat} (h : Wv L T U P D c) (hc : c ≤ 800000000) (hb : b < 10) (v0 : 0 ≤ v) (v1 : v ≤ P (nI b)) (eL : L' = L + v) (eP : ∀ n : Nat, n < 10 → P' (nI n) = if n = b then P (nI b) - v else P (nI n)) : Wv L' T U P' D c := by
  obtain ⟨⟨a1, a2, a3, a4⟩, h2, h3, h4, h5⟩ := h
  have p0 := sm_nn h2
  have d0 := sm_nn h3
  have pb := sm_ge h2 hb
  have p1 := h2 b hb
  rw [i_le] at v0 v1
  rw [i_0] at v0
  have e1 : (P (nI b) - v).toInt = (P (nI b)).toInt - v.toInt := i_sub (by omega) (by omega)
  have e2 : L'.toInt = L.toInt + v.toInt := by rw [eL]; exact i_add (by omega) (by omega)
  have s1 := sm_up hb eP
  rw [e1] at s1
  refine ⟨⟨by omega, a2, a3, a4⟩, fun n hn => ?_, h3, by omega, by omega⟩
  rw [eP n hn]
  by_cases z : n = b
  · rw [if_pos z, e1]; omega
  · rw [if_neg z]; exact h2 n hn
/-- a farm drinks -/
theorem wv_drink {L L' T U v : Int32} {P D D' : Int32 → Int32} {c : Int} {f : Nat} (h : Wv L T U P D c) (hc : c ≤ 800000000) (hf : f < 9) (v0 : 0 ≤ v) (v1 : v ≤ D (nI f)) (eL : L' = L + v) (eD : ∀ n : Nat, n < 9 → D' (nI n) = if n = f then D (nI f) - v else D (nI n)) : Wv L' T U P D' c := by
  obtain ⟨⟨a1, a2, a3, a4⟩, h2, h3, h4, h5⟩ := h
  have p0 := sm_nn h2
  have d0 := sm_nn h3
  have df := sm_ge h3 hf
  have d1 := h3 f hf
  rw [i_le] at v0 v1
  rw [i_0] at v0
  have e1 : (D (nI f) - v).toInt = (D (nI f)).toInt - v.toInt := i_sub (by omega) (by omega)
  have e2 : L'.toInt = L.toInt + v.toInt := by rw [eL]; exact i_add (by omega) (by omega)
  have s1 := sm_up hf eD
  rw [e1] at s1
  refine ⟨⟨by omega, a2, a3, a4⟩, h2, fun n hn => ?_, by omega, by omega⟩
  rw [eD n hn]
  by_cases z : n = f
  · rw [if_pos z, e1]; omega
  · rw [if_neg z]; exact h3 n hn
/-- some is given to a farm -/
theorem wv_give {L T U v : Int32} {P D D' : Int32 → Int32} {c : Int} {f : Nat} (h : Wv L T U P D c) (hf : f < 9) (v0 : 0 ≤ v.toInt) (hc : c + v.toInt ≤ 800000000) (eD : ∀ n : Nat, n < 9 → D' (nI n) = if n = f then D (nI f) + v else D (nI n)) : Wv L T U P D' (c + v.toInt) := by
  obtain ⟨⟨a1, a2, a3, a4⟩, h2, h3, h4, h5⟩ := h
  have p0 := sm_nn h2
  have d0 := sm_nn h3
  have df := sm_ge h3 hf
  have d1 := h3 f hf
  have e2 : (D (nI f) + v).toInt = (D (nI f)).toInt + v.toInt := i_add (by omega) (by omega)
  have s2 := sm_up hf eD
  rw [e2] at s2
  refine ⟨⟨a1, a2, a3, a4⟩, h2, fun n hn => ?_, by omega, by omega⟩
  rw [eD n hn]
  by_cases z : n = f
  · rw [if_pos z, e2]; omega
  · rw [if_neg z]; exact h3 n hn
theorem gv {T w s : Int32} (T0 : 0 ≤ T.toInt) (T1 : T.toInt ≤ 800000000) (w0 : 0 ≤ w.toInt) (w1 : w.toInt ≤ 9999) (s0 : 0 < s.toInt) (ws : w.toInt ≤ s.toInt) : (((T.toInt64 * w.toInt64) / s.toInt64).toInt32).toInt = T.toInt * w.toInt / s.toInt := by
  have b0 : 0 ≤ T.toInt * w.toInt := Int.mul_nonneg T0 w0
  have b1 : T.toInt * w.toInt ≤ 800000000 * 9999 := Int.mul_le_mul T1 w1 w0 (by omega)
  have b2 : T.toInt * w.toInt ≤ T.toInt * s.toInt := Int.mul_le_mul_of_nonneg_left ws T0
  have m : (T.toInt64 * w.toInt64).toInt = T.toInt * w.toInt := by
    rw [Int64.toInt_mul, Int32.toInt_toInt64, Int32.toInt_toInt64]
    exact Int.bmod_eq_of_le (by omega) (by omega)
  have q0 : 0 ≤ T.toInt * w.toInt / s.toInt := Int.ediv_nonneg b0 (by omega)
  have q1 : T.toInt * w.toInt / s.toInt ≤ T.toInt := by
    have := Int.ediv_le_ediv s0 b2
    rw [Int.mul_ediv_cancel _ (by omega)] at this
    exact this
  have d : (T.toInt64 * w.toInt64 / s.toInt64).toInt = T.toInt * w.toInt / s.toInt := by
    rw [Int64.toInt_div, m, Int32.toInt_toInt64, Int.tdiv_eq_ediv_of_nonneg b0]
    exact Int.bmod_eq_of_le (by omega) (by omega)
  rw [Int64.toInt_toInt32, d]
  exact Int.bmod_eq_of_le (by omega) (by omega)
/-- what is left of the trough behind the first n farms -/
theorem sh_st {T l w s g : Int32} {W : Int32 → Int32} {n : Nat} (T0 : 0 ≤ T.toInt) (T1 : T.toInt ≤ 800000000) (s0 : 0 < s.toInt) (hW : 0 ≤ smI W n) (w0 : 0 ≤ w.toInt) (w1 : w.toInt ≤ 9999) (ew : w = W (nI n)) (hs : smI W (n + 1) ≤ s.toInt) (l0 : 0 ≤ l.toInt) (l1 : l.toInt ≤ T.toInt) (hl : (T.toInt - l.toInt) * s.toInt ≤ T.toInt * smI W n) (eg : g.toInt = T.toInt * w.toInt / s.toInt) : 0 ≤ g.toInt ∧ (l - g).toInt = l.toInt - g.toInt ∧ 0 ≤ l.toInt - g.toInt ∧ (T.toInt - (l.toInt - g.toInt)) * s.toInt ≤ T.toInt * smI W (n + 1) := by
  have e : smI W (n + 1) = smI W n + w.toInt := by rw [ew]; rfl
  have b0 : 0 ≤ T.toInt * w.toInt := Int.mul_nonneg T0 w0
  have g0 : 0 ≤ g.toInt := by rw [eg]; exact Int.ediv_nonneg b0 (by omega)
  have g1 : g.toInt * s.toInt ≤ T.toInt * w.toInt := by rw [eg]; exact Int.ediv_mul_le _ (by omega)
  have k : (T.toInt - (l.toInt - g.toInt)) * s.toInt ≤ T.toInt * smI W (n + 1) := by
    have e1 : (T.toInt - (l.toInt - g.toInt)) * s.toInt = (T.toInt - l.toInt) * s.toInt + g.toInt * s.toInt := by
      rw [← Int.add_mul]
      congr 1
      omega
    rw [e1, e, Int.mul_add]
    omega
  have k2 : (T.toInt - (l.toInt - g.toInt)) * s.toInt ≤ T.toInt * s.toInt := Int.le_trans k (Int.mul_le_mul_of_nonneg_left hs T0)
  have k3 : T.toInt - (l.toInt - g.toInt) ≤ T.toInt := Int.le_of_mul_le_mul_right k2 s0
  exact ⟨g0, i_sub (by omega) (by omega), by omega, k⟩
