/-- settled: what is left -/
theorem pp_all {w : Int32} (hw : w = 9 ∨ w = 10 ∨ w = 11) : ∀ L : List Int32, L.length ≤ 60 → Ad9 L → (ppl w L).length ≤ L.length ∧ Ad9 (ppl w L) ∧ lenI (ppl w L) + ppc w L = lenI L ∧ brkI (ppl w L) = brkI L ∧ ¬ (ppl w L).head? = some w ∧ (w = 9 → mrkI (ppl w L) + ppc w L = mrkI L ∧ binI (ppl w L) = binI L) ∧ (¬ w = 9 → binI (ppl w L) + ppc w L = binI L ∧ mrkI (ppl w L) = mrkI L)
  | [], _, _ => by simp [ppl, ppc, lenI, brkI, mrkI, binI, Ad9]
  | x :: L, hl, ha => by
    have hl' : L.length + 1 ≤ 60 := hl
    obtain ⟨q1, q2, q3, q4, q5, q6, q7⟩ := pp_all hw L (by omega) ha.2.2.2
    by_cases z : x = w
    · subst z
      have e1 : ppl x (x :: L) = ppl x L := by simp [ppl]
      have e2 : ppc x (x :: L) = ppc x L + 1 := by simp [ppc]
      rw [e1, e2]
      refine ⟨by show _ ≤ L.length + 1; omega, q2, ?_, ?_, q5, fun hx => ?_, fun hx => ?_⟩
      · show lenI (ppl x L) + (ppc x L + 1) = lenI L + 1
        rw [← Int32.add_assoc, q3]
      · show brkI (ppl x L) = if x = 12 then brkI L + 1 else brkI L
        rw [if_neg (by grind)]
        exact q4
      · obtain ⟨r1, r2⟩ := q6 hx
        refine ⟨?_, ?_⟩
        · show mrkI (ppl x L) + (ppc x L + 1) = if x = 9 ∨ x = 12 then mrkI L + 1 else mrkI L
          rw [if_pos (Or.inl hx), ← Int32.add_assoc, r1]
        · show binI (ppl x L) = if x = 10 ∨ x = 11 then binI L + 1 else binI L
          rw [if_neg (by grind)]
          exact r2
      · obtain ⟨r1, r2⟩ := q7 hx
        refine ⟨?_, ?_⟩
        · show binI (ppl x L) + (ppc x L + 1) = if x = 10 ∨ x = 11 then binI L + 1 else binI L
          rw [if_pos (by grind), ← Int32.add_assoc, r1]
        · show mrkI (ppl x L) = if x = 9 ∨ x = 12 then mrkI L + 1 else mrkI L
          rw [if_neg (by grind)]
          exact r2
    · have e1 : ppl w (x :: L) = x :: L := by simp only [ppl]; rw [if_neg z]
      have e2 : ppc w (x :: L) = 0 := by simp only [ppc]; rw [if_neg z]
      rw [e1, e2, Int32.add_zero, Int32.add_zero, Int32.add_zero]
      exact ⟨Nat.le_refl _, ha, rfl, rfl, by simp [z], fun _ => ⟨rfl, rfl⟩, fun _ => ⟨rfl, rfl⟩⟩
/-- below an and or an or there is no not; below an or there is neither -/
theorem pp_hd {w : Int32} : ∀ L : List Int32, Ad9 L → (w = 10 ∨ w = 11) → ¬ L.head? = some 9 → ¬ (ppl w L).head? = some 9 ∧ (w = 11 → ¬ L.head? = some 10 → ¬ (ppl w L).head? = some 10)
  | [], _, _, _ => by simp [ppl]
  | x :: L, ha, hw, h9 => by
    by_cases z : x = w
    · subst z
      have e1 : ppl x (x :: L) = ppl x L := by simp [ppl]
      have n9 : ¬ L.head? = some 9 := by
        rcases hw with h | h
        · exact (ha.2.1 h).2
        · exact (ha.2.2.1 h).2.2
      obtain ⟨r1, r2⟩ := pp_hd L ha.2.2.2 hw n9
      rw [e1]
      exact ⟨r1, fun h _ => r2 h (ha.2.2.1 h).1⟩
    · have e1 : ppl w (x :: L) = x :: L := by simp only [ppl]; rw [if_neg z]
      rw [e1]
      exact ⟨h9, fun _ h => h⟩
/-- reading conditions: what waits, what is written -/
def An (M0 N : Mx) (b due : Int32) (L : List Int32) : Prop := PkM N L ∧ L.length ≤ 60 ∧ Ad9 L ∧ N.1 0 43 = mrkI L ∧ mrkI L ≤ 8 ∧ b = brkI L ∧ Ec M0 N (binI L + (1 - due)) ∧ Rdr N ∧ Bg (M0.1 0 42) (M0.1 0 32) (N.1 0 42 + (lenI L - brkI L)) (N.1 0 32) ∧ (due = 0 ∨ due = 1) ∧ (due = 0 → ¬ L.head? = some 9)
theorem PkM_k {M N : Mx} {L : List Int32} (h : PkM M L) (hl : L.length ≤ 60) (ha : Ad9 L) (e : N.1 0 45 = M.1 0 45) (e2 : ∀ i, N.1 27 i = M.1 27 i) : PkM N L := ⟨e.trans h.1, Pk_of L hl ha (fun i _ _ => e2 i) h.2⟩
theorem len26 {L : List Int32} (hl : L.length ≤ 60) (ha : Ad9 L) (h8 : mrkI L ≤ 8) : lenI L ≤ 26 ∧ L.length ≤ 26 ∧ 0 ≤ lenI L ∧ 0 ≤ binI L ∧ binI L ≤ 26 ∧ 0 ≤ brkI L ∧ brkI L ≤ mrkI L ∧ 0 ≤ mrkI L ∧ lenI L = binI L + mrkI L := by
  obtain ⟨q1, q2, q3, q4, q5, q6, q7, q8, q9, q10, q11⟩ := cnt9 L hl ha
  have h26 : lenI L ≤ 26 := by grind
  refine ⟨h26, ?_, q1, q3, by grind, q4, q5, q9, q6⟩
  rw [q11, Int32.le_iff_toInt_le] at h26
  have e : (Int32.ofNat L.length).toInt = (L.length : Int) := nI_toInt (by omega)
  rw [e] at h26
  have e2 : (26 : Int32).toInt = 26 := rfl
  omega
/-- codes and what waits, against the place -/
theorem an_c {M0 N : Mx} {b due : Int32} {L : List Int32} (h : An M0 N b due L) : 0 ≤ N.1 0 42 ∧ N.1 0 42 ≤ N.1 0 32 ∧ N.1 0 42 ≤ 400 ∧ 0 ≤ lenI L - brkI L ∧ lenI L - brkI L ≤ 26 ∧ N.1 0 42 + (lenI L - brkI L) ≤ 400 ∧ N.1 0 32 ≤ 400 := by
  obtain ⟨h1, h2, h3, h4, h5, h6, h7, h8, h9, h10, h11⟩ := h
  have q := len26 h2 h3 h5
  have c := h7.2.2.1
  have c0 := Int32.le_trans h7.1 h7.2.1
  have g := Bg_le h9
  have f := h9.2.2.2.2.2.1
  refine ⟨c0, ?_, c, ?_, ?_, ?_, f⟩ <;> grind

theorem Rdr_k {M N : Mx} (h : Rdr M) (e : (N.1 0 31 = M.1 0 31 ∧ N.1 0 32 = M.1 0 32 ∧ N.1 0 33 = M.1 0 33 ∧ N.1 0 34 = M.1 0 34)) : Rdr N := by
  unfold Rdr at h ⊢
  rw [e.1, e.2.1, e.2.2.1, e.2.2.2]
  exact h
theorem an_push {M0 N N' : Mx} {b b' w S : Int32} {L : List Int32} (h : An M0 N b 1 L) (hP : PkM N' (w :: L)) (hw : w = 9 ∧ b' = b ∨ w = 12 ∧ b' = b + 1) (ho : N'.1 0 43 = N.1 0 43 + 1) (h7 : N.1 0 43 ≤ 7) (hE : Ec M0 N' (binI L + (1 - 1))) (hR : Rdr N') (hc : N'.1 0 42 = N.1 0 42) (f1 : N.1 0 32 < S) (f2 : S ≤ N'.1 0 32) (f3 : N'.1 0 32 ≤ 400) : An M0 N' b' 1 (w :: L) := by
  have ac := an_c h
  obtain ⟨h1, h2, h3, h4, h5, h6, h7', h8, h9, h10, h11⟩ := h
  have q := len26 h2 h3 h5
  obtain ⟨g1, g2, g3⟩ := Bg_rd h9 f1 f2 f3
  have hb : binI (w :: L) = binI L := by
    simp only [binI]
    rw [if_neg (by grind)]
  have hm : mrkI (w :: L) = mrkI L + 1 := by
    simp only [mrkI]
    rw [if_pos (by grind)]
  have hl : lenI (w :: L) = lenI L + 1 := rfl
  refine ⟨hP, ?_, ⟨by grind, fun e => by grind, fun e => by grind, h3⟩, ?_, ?_, ?_, ?_, hR, ?_, Or.inr rfl, fun e => absurd e (by decide)⟩
  · show L.length + 1 ≤ 60
    omega
  · rw [hm, ho, h4]
  · rw [hm]; grind
  · simp only [brkI]
    rcases hw with ⟨a, b⟩ | ⟨a, b⟩
    · rw [if_neg (by grind), b]; exact h6
    · rw [if_pos a, b, h6]
  · rw [hb]; exact hE
  · rw [hc, hl]
    rcases hw with ⟨a, b⟩ | ⟨a, b⟩
    · have e : brkI (w :: L) = brkI L := by simp only [brkI]; rw [if_neg (by grind)]
      rw [e, show N.1 0 42 + (lenI L + 1 - brkI L) = N.1 0 42 + (lenI L - brkI L) + 1 by grind]
      exact g1
    · have e : brkI (w :: L) = brkI L + 1 := by simp only [brkI]; rw [if_pos a]
      rw [e, show N.1 0 42 + (lenI L + 1 - (brkI L + 1)) = N.1 0 42 + (lenI L - brkI L) by grind]
      exact g2
/-- what settles asks -/
theorem an_ask {M0 N : Mx} {b due w : Int32} {L : List Int32} (h : An M0 N b due L) (hw : w = 9 ∨ w = 10 ∨ w = 11) : N.1 0 42 + ppc w L ≤ 400 ∧ (w = 9 → ppc w L ≤ N.1 0 43) ∧ ppc w L ≤ lenI L - brkI L ∧ 0 ≤ ppc w L ∧ ppc w L ≤ 26 := by
  have ac := an_c h
  obtain ⟨h1, h2, h3, h4, h5, h6, h7', h8, h9, h10, h11⟩ := h
  have q := len26 h2 h3 h5
  have p := ppc_b (w := w) L h2 h3
  obtain ⟨q1, q2, q3, q4, q5, q6, q7⟩ := pp_all hw L h2 h3
  have c2 := cnt9 (ppl w L) (Nat.le_trans q1 h2) q2
  have c3 := c2.2.2.2.2.1
  have c4 := c2.2.2.1
  have c5 := c2.2.2.2.2.2.1
  have c6 := c2.2.2.2.2.2.2.2.2.1
  have c7 := c2.2.2.2.2.2.2.2.2.2.1
  have c8 := c2.1
  have c9 := c2.2.1
  have e : ppc w L ≤ lenI L - brkI L := by grind
  refine ⟨by grind, fun e9 => ?_, e, p.1, by grind⟩
  have r := (q6 e9).1
  rw [h4]
  grind
/-- an and or an or is settled -/
theorem an_set {M0 N N1 : Mx} {b w : Int32} {L : List Int32} (h : An M0 N b 0 L) (hw : w = 10 ∨ w = 11) (hP : PkM N1 (ppl w L)) (hc : N1.1 0 42 = N.1 0 42 + ppc w L) (ho : N1.1 0 43 = N.1 0 43) (h4f : (N1.1 0 31 = N.1 0 31 ∧ N1.1 0 32 = N.1 0 32 ∧ N1.1 0 33 = N.1 0 33 ∧ N1.1 0 34 = N.1 0 34)) (hS : St9 N N1 w (ppc w L)) : An M0 N1 b 0 (ppl w L) := by
  have hw' : w = 9 ∨ w = 10 ∨ w = 11 := Or.inr hw
  have hn9 : ¬ w = 9 := by grind
  have ask := an_ask h hw'
  have ac := an_c h
  obtain ⟨h1, h2, h3, h4, h5, h6, h7', h8, h9, h10, h11⟩ := h
  have q := len26 h2 h3 h5
  obtain ⟨q1, q2, q3, q4, q5, q6, q7⟩ := pp_all hw' L h2 h3
  obtain ⟨r1, r2⟩ := q7 hn9
  have e0 : (1 : Int32) - 0 = 1 := by decide
  rw [e0] at h7'
  have c2 := cnt9 (ppl w L) (Nat.le_trans q1 h2) q2
  have c4 := c2.2.2.1
  have E := hS.2 hw M0 _ h7' (by grind) (by grind)
  refine ⟨hP, Nat.le_trans q1 h2, q2, by rw [ho, h4, r2], by rw [r2]; exact h5, by rw [q4]; exact h6, ?_, Rdr_k h8 h4f, ?_, Or.inl rfl, fun _ => (pp_hd L h3 hw (h11 rfl)).1⟩
  · rw [e0, show binI (ppl w L) + 1 = binI L + 1 - ppc w L by grind]
    exact E
  · rw [hc, h4f.2.1, q4, show N.1 0 42 + ppc w L + (lenI (ppl w L) - brkI L) = N.1 0 42 + (lenI L - brkI L) by grind]
    exact h9
/-- an and or an or waits -/
theorem an_op {M0 N N' : Mx} {b w S : Int32} {L : List Int32} (h : An M0 N b 0 L) (hP : PkM N' (w :: L)) (hw : w = 10 ∨ w = 11) (hh : ¬ L.head? = some 10 ∧ (w = 11 → ¬ L.head? = some 11)) (ho : N'.1 0 43 = N.1 0 43) (hE : Ec M0 N' (binI L + (1 - 0))) (hR : Rdr N') (hc : N'.1 0 42 = N.1 0 42) (f1 : N.1 0 32 < S) (f2 : S ≤ N'.1 0 32) (f3 : N'.1 0 32 ≤ 400) : An M0 N' b 1 (w :: L) := by
  have ac := an_c h
  obtain ⟨h1, h2, h3, h4, h5, h6, h7', h8, h9, h10, h11⟩ := h
  have q := len26 h2 h3 h5
  obtain ⟨g1, g2, g3⟩ := Bg_rd h9 f1 f2 f3
  have hb : binI (w :: L) = binI L + 1 := by
    simp only [binI]
    rw [if_pos hw]
  have hm : mrkI (w :: L) = mrkI L := by
    simp only [mrkI]
    rw [if_neg (by grind)]
  have hl : lenI (w :: L) = lenI L + 1 := rfl
  have hk : brkI (w :: L) = brkI L := by simp only [brkI]; rw [if_neg (by grind)]
  refine ⟨hP, ?_, ⟨by grind, fun e => ⟨hh.1, h11 rfl⟩, fun e => ⟨hh.1, hh.2 e, h11 rfl⟩, h3⟩, by rw [hm, ho, h4], by rw [hm]; exact h5, by rw [hk]; exact h6, ?_, hR, ?_, Or.inr rfl, fun e => absurd e (by decide)⟩
  · show L.length + 1 ≤ 60
    omega
  · rw [hb, show binI L + 1 + (1 - 1) = binI L + (1 - 0) by grind]
    exact hE
  · rw [hc, hl, hk, show N.1 0 42 + (lenI L + 1 - brkI L) = N.1 0 42 + (lenI L - brkI L) + 1 by grind]
    exact g1
/-- a comparison is read, what it was to be denied by is settled -/
theorem an_cmp {M0 N N1 N2 : Mx} {b : Int32} {L : List Int32} (h : An M0 N b 1 L) (hE1 : Ec N N1 1) (u3 : N1.1 0 42 + N.1 0 32 ≤ N.1 0 42 + N1.1 0 32) (u4 : N.1 0 42 ≤ N1.1 0 42) (u5 : N.1 0 32 ≤ N1.1 0 32) (u6 : N1.1 0 32 ≤ 400) (o1 : N1.1 0 43 = N.1 0 43) (hR : Rdr N1) (hP : PkM N2 (ppl 9 L)) (hc : N2.1 0 42 = N1.1 0 42 + ppc 9 L) (ho : N2.1 0 43 = N1.1 0 43 - ppc 9 L) (h4f : (N2.1 0 31 = N1.1 0 31 ∧ N2.1 0 32 = N1.1 0 32 ∧ N2.1 0 33 = N1.1 0 33 ∧ N2.1 0 34 = N1.1 0 34)) (hS : St9 N1 N2 9 (ppc 9 L)) : An M0 N2 b 0 (ppl 9 L) := by
  have ask := an_ask (w := 9) h (Or.inl rfl)
  have ac := an_c h
  obtain ⟨h1, h2, h3, h4, h5, h6, h7', h8, h9, h10, h11⟩ := h
  have q := len26 h2 h3 h5
  obtain ⟨q1, q2, q3, q4, q5, q6, q7⟩ := pp_all (w := 9) (Or.inl rfl) L h2 h3
  obtain ⟨r1, r2⟩ := q6 rfl
  have e0 : (1 : Int32) - 1 = 0 := by decide
  rw [e0, Int32.add_zero] at h7'
  have E := hS.1 rfl M0 _ (Ec_tr h7' hE1) (by grind) (by grind)
  have c1 := hE1.2.2.1
  refine ⟨hP, Nat.le_trans q1 h2, q2, by rw [ho, o1, h4]; grind, by grind, by rw [q4]; exact h6, ?_, Rdr_k hR h4f, ?_, Or.inl rfl, fun _ => q5⟩
  · rw [show (1 : Int32) - 0 = 1 by decide, r2]
    exact E
  · rw [hc, h4f.2.1, q4, show N1.1 0 42 + ppc 9 L + (lenI (ppl 9 L) - brkI L) = N1.1 0 42 + (lenI L - brkI L) by grind]
    obtain ⟨a1, a2, a3, a4, a5, a6, a7, a8⟩ := h9
    exact ⟨a1, a2, a3, by grind, by grind, u6, by grind, by grind⟩
/-- a bracket is closed -/
theorem an_close {M0 N N2 : Mx} {b : Int32} {K : List Int32} (h : An M0 N b 0 (12 :: K)) (hP : PkM N2 (ppl 9 K)) (hc : N2.1 0 42 = N.1 0 42 + ppc 9 K) (ho : N2.1 0 43 = N.1 0 43 - 1 - ppc 9 K) (h4f : (N2.1 0 31 = N.1 0 31 ∧ N2.1 0 32 = N.1 0 32 ∧ N2.1 0 33 = N.1 0 33 ∧ N2.1 0 34 = N.1 0 34)) (hE : ∀ n, Ec M0 N n → 1 ≤ n → n ≤ 400 → Ec M0 N2 n) : An M0 N2 (b - 1) 0 (ppl 9 K) := by
  have ac := an_c h
  obtain ⟨h1, h2, h3, h4, h5, h6, h7', h8, h9, h10, h11⟩ := h
  have hk2 : K.length ≤ 60 := Nat.le_of_succ_le h2
  have hk3 := h3.2.2.2
  have em : mrkI (12 :: K) = mrkI K + 1 := by simp [mrkI]
  have eb : binI (12 :: K) = binI K := by simp [binI]
  have ek : brkI (12 :: K) = brkI K + 1 := by simp [brkI]
  have el : lenI (12 :: K) = lenI K + 1 := rfl
  have cK := cnt9 K hk2 hk3
  have q := len26 h2 h3 h5
  have p := ppc_b (w := 9) K hk2 hk3
  obtain ⟨q1, q2, q3, q4, q5, q6, q7⟩ := pp_all (w := 9) (Or.inl rfl) K hk2 hk3
  obtain ⟨r1, r2⟩ := q6 rfl
  have c2 := cnt9 (ppl 9 K) (Nat.le_trans q1 hk2) q2
  have d1 := cK.2.2.2.2.2.2.2.2.1
  have d2 := cK.1
  have d3 := cK.2.2.2.1
  have d4 := cK.2.2.1
  have d5 := c2.2.2.2.2.2.2.2.2.1
  refine ⟨hP, Nat.le_trans q1 hk2, q2, by rw [ho, h4]; grind, by grind, by rw [q4]; grind, ?_, Rdr_k h8 h4f, ?_, Or.inl rfl, fun _ => q5⟩
  · rw [r2, ← eb]
    exact hE _ h7' (by grind) (by grind)
  · rw [hc, h4f.2.1, q4, show N.1 0 42 + ppc 9 K + (lenI (ppl 9 K) - brkI K) = N.1 0 42 + (lenI (12 :: K) - brkI (12 :: K)) by grind]
    exact h9

theorem PkM_e {M N : Mx} {L : List Int32} (h : PkM M L) (e : N.1 0 45 = M.1 0 45) (e2 : ∀ i, N.1 27 i = M.1 27 i) : PkM N L := ⟨e.trans h.1, by
  have q : N.1 27 = M.1 27 := funext e2
  rw [q]
  exact h.2⟩
theorem Ec_lt {M N : Mx} (h : Ec M N 1) : M.1 0 42 < N.1 0 42 := by
  have c := h.2.2.1
  have q := h.2.2.2.2 (M.1 0 42) 0 (Sd_0 h.1 (Int32.le_trans h.2.1 c))
  obtain ⟨q1, q2, q3, q4, q5, -⟩ := q
  have h0 := h.1
  grind
theorem an_ask2 {M0 N N1 : Mx} {b : Int32} {L : List Int32} (h : An M0 N b 1 L) (c1 : N1.1 0 42 ≤ 400) (u3 : N1.1 0 42 + N.1 0 32 ≤ N.1 0 42 + N1.1 0 32) (u4 : N.1 0 42 ≤ N1.1 0 42) (u5 : N.1 0 32 ≤ N1.1 0 32) (u6 : N1.1 0 32 ≤ 400) : N1.1 0 42 + ppc 9 L ≤ 400 := by
  have ask := an_ask (w := 9) h (Or.inl rfl)
  have ac := an_c h
  obtain ⟨a1, a2, a3, a4, a5, a6, a7, a8⟩ := h.2.2.2.2.2.2.2.2.1
  grind
theorem lt_cf {c f c1 f1 : Int32} (h0 : 0 ≤ c) (h1 : c < c1) (h2 : c1 ≤ 400) (h3 : 0 ≤ f) (h4 : f ≤ 400) (h5 : f1 ≤ 400) (h6 : f ≤ f1) (h : c1 + f ≤ c + f1) : f < f1 := by grind
/-- a token read -/
theorem an_rd {M0 N N' : Mx} {b due S : Int32} {L : List Int32} (h : An M0 N b due L) (hT : TM N) (hS : SM N N') (hR : Rdr N') (f1 : N.1 0 32 < S) (f2 : S ≤ N'.1 0 32) (f3 : N'.1 0 32 ≤ 400) : An M0 N' b due L := by
  obtain ⟨h1, h2, h3, h4, h5, h6, h7', h8, h9, h10, h11⟩ := h
  obtain ⟨g1, g2, g3⟩ := Bg_rd h9 f1 f2 f3
  have e42 : N'.1 0 42 = N.1 0 42 := hS 0 42 (by decide)
  exact ⟨PkM_e h1 (hS 0 45 (by decide)) (fun i => hS 27 i (by simp [aM])), h2, h3, (hS 0 43 (by decide)).trans h4, h5, h6, Ec_S h7' hT hS, hR, by rw [e42]; exact g2, h10, h11⟩
/-- nothing waits: the end -/
theorem an_nil {M0 N : Mx} {b : Int32} {L : List Int32} (h : An M0 N b 0 L) (hb : b = 0) (h10 : ¬ L.head? = some 10) (h11 : ¬ L.head? = some 11) : Ec M0 N 1 ∧ Rdr N ∧ (N.1 0 42 + M0.1 0 32 ≤ M0.1 0 42 + N.1 0 32 ∧ M0.1 0 42 ≤ N.1 0 42 ∧ M0.1 0 32 ≤ N.1 0 32) ∧ N.1 0 43 = 0 := by
  obtain ⟨a1, a2, a3, a4, a5, a6, a7, a8, a9, a10, a11⟩ := h
  have h9 := a11 rfl
  cases L with
  | nil =>
    have e : binI [] + (1 - 0) = 1 := by decide
    rw [e] at a7
    have e2 : N.1 0 42 + (lenI [] - brkI []) = N.1 0 42 := by show N.1 0 42 + (0 - 0) = _; grind
    rw [e2] at a9
    exact ⟨a7, a8, ⟨a9.2.2.2.2.2.2.1, a9.2.2.2.1, a9.2.2.2.2.1⟩, a4⟩
  | cons x K =>
    rcases a3.1 with rfl | rfl | rfl | rfl
    · exact absurd rfl h9
    · exact absurd rfl h10
    · exact absurd rfl h11
    · have q := len26 (Nat.le_of_succ_le a2) a3.2.2.2 (L := K)
      have ek : brkI (12 :: K) = brkI K + 1 := by simp [brkI]
      have cK := cnt9 K (Nat.le_of_succ_le a2) a3.2.2.2
      have d1 := cK.2.2.2.1
      have d2 := cK.2.2.2.2.1
      have d3 := cK.2.2.2.2.2.2.2.2.2.1
      rw [ek, hb] at a6
      exact absurd a6 (by grind)
theorem an_top {M0 N : Mx} {b : Int32} {L : List Int32} (h : An M0 N b 0 L) (hb : ¬ b = 0) (h10 : ¬ L.head? = some 10) (h11 : ¬ L.head? = some 11) : ∃ K, L = 12 :: K ∧ N.1 0 45 = lenI K + 1 ∧ N.1 0 43 = mrkI K + 1 ∧ 0 ≤ lenI K ∧ lenI K ≤ 26 ∧ 0 ≤ mrkI K ∧ mrkI K ≤ 7 ∧ K.length ≤ 60 ∧ Ad9 K ∧ Pk (N.1 27) K ∧ N.1 0 42 + ppc 9 K ≤ 400 ∧ ppc 9 K ≤ mrkI K := by
  have ac := an_c h
  obtain ⟨a1, a2, a3, a4, a5, a6, a7, a8, a9, a10, a11⟩ := h
  have h9 := a11 rfl
  cases L with
  | nil => exact absurd a6 hb
  | cons x K =>
    rcases a3.1 with rfl | rfl | rfl | rfl
    · exact absurd rfl h9
    · exact absurd rfl h10
    · exact absurd rfl h11
    · have hk2 : K.length ≤ 60 := Nat.le_of_succ_le a2
      have hk3 := a3.2.2.2
      have em : mrkI (12 :: K) = mrkI K + 1 := by simp [mrkI]
      have ek : brkI (12 :: K) = brkI K + 1 := by simp [brkI]
      have el : lenI (12 :: K) = lenI K + 1 := rfl
      have q := len26 a2 a3 a5
      have cK := cnt9 K hk2 hk3
      obtain ⟨q1, q2, q3, q4, q5, q6, q7⟩ := pp_all (w := 9) (Or.inl rfl) K hk2 hk3
      obtain ⟨r1, r2⟩ := q6 rfl
      have p := ppc_b (w := 9) K hk2 hk3
      have c2 := cnt9 (ppl 9 K) (Nat.le_trans q1 hk2) q2
      have d1 := cK.2.2.2.2.2.2.2.2.1
      have d2 := cK.1
      have d3 := cK.2.2.2.1
      have d4 := cK.2.2.1
      have d5 := c2.2.2.2.2.2.2.2.2.1
      have d6 := cK.2.1
      have d7 := cK.2.2.2.2.1
      have d8 := c2.2.2.2.2.1
      have d9 := cK.2.2.2.2.2.1
      have d0 := cK.2.2.2.2.2.2.2.2.2.1
      have e1 := c2.1
      have e2 := c2.2.2.2.2.2.1
      have e3 := c2.2.2.1
      have k26 : lenI K ≤ 26 := by grind
      have k7 : mrkI K ≤ 7 := by grind
      have pm : ppc 9 K ≤ mrkI K := by grind
      have pl : ppc 9 K ≤ lenI K - brkI K := by grind
      exact ⟨K, rfl, a1.1, by rw [a4, em], d2, k26, d1, k7, hk2, hk3, a1.2.2, by grind, pm⟩
