theorem agX {A B : Mx} : Agr (jn 182 A B) 0 shX.length A := by rw [lenX]; exact jn_1
theorem agM {A B : Mx} : Agr (jn 182 A B) 182 shM.length B := jn_2
theorem lenL : shLaw.length = 217 := by rw [shLaw, WB_len lenX lenM]
section R11
variable {G : Cx} {cc : ByteArray} {nL : Nat} {own : String} {ret : Option FieldType} {d : Nat} {ad : Nat → Nat} {cs sl : Nat} {A B : Mx} {pc : Nat} {lv : List (Nat × Value)} {st : List Value}
theorem aw_cX (K : Ok G cc nL own ret d) {idx n mL dd : Nat} {y : MethodName} {c : ByteArray} {r : Option FieldType} {As rest : List Value} {P : Int32 → Mx → Prop} (hl : LV own idx RX11 y c mL r n) (hd : decode cc pc = .ok (.invokevirtual idx, 3)) (hc : Ct (xk G, sw (ad, shLaw) 0 shX) y c mL r dd 0 0 (.ref 0 :: As) A (Rs (xk G, sw (ad, shLaw) 0 shX) (RI P))) (hst : st = As.reverse ++ .ref 0 :: rest) (hAs : As.map (cvv (ga (xk G, (ad, shLaw)))) = As.map (cvv (ga (xk G, sw (ad, shLaw) 0 shX)))) (hn : As.length = n) (hrest : (rest.map fun v => v.category).sum ≤ 8) (hdd : dd < d) (hmL : mL ≤ 40) (hcs : cs ≤ xmc G) (hsl : sl ≤ xms G)
    (kk : ∀ (v : Int32) (N : Mx), P v N → AW G nL (ad, shLaw) cs sl (jn 182 N B) (pc + 3) lv (.int v :: rest)) : AW G nL (ad, shLaw) cs sl (jn 182 A B) pc lv st :=
  aw_cVs (Fm := fun N => jn 182 N B) K subX agX (fun _ => agX) (fun N a _ h => jn_o1 (by rw [lenX] at h; omega)) cf11 hl hd s0 hc hst hAs hn hrest hdd hmL hcs hsl kk
theorem aw_cM (K : Ok G cc nL own ret d) {idx n mL dd : Nat} {y : MethodName} {c : ByteArray} {r : Option FieldType} {As rest : List Value} {P : Int32 → Mx → Prop} (hl : LV own idx RX12 y c mL r n) (hd : decode cc pc = .ok (.invokevirtual idx, 3)) (hc : Ct (xk G, sw (ad, shLaw) 182 shM) y c mL r dd 0 0 (.ref 0 :: As) B (Rs (xk G, sw (ad, shLaw) 182 shM) (RI P))) (hst : st = As.reverse ++ .ref 182 :: rest) (hAs : As.map (cvv (ga (xk G, (ad, shLaw)))) = As.map (cvv (ga (xk G, sw (ad, shLaw) 182 shM)))) (hn : As.length = n) (hrest : (rest.map fun v => v.category).sum ≤ 8) (hdd : dd < d) (hmL : mL ≤ 40) (hcs : cs ≤ xmc G) (hsl : sl ≤ xms G)
    (kk : ∀ (v : Int32) (N : Mx), P v N → AW G nL (ad, shLaw) cs sl (jn 182 A N) (pc + 3) lv (.int v :: rest)) : AW G nL (ad, shLaw) cs sl (jn 182 A B) pc lv st :=
  aw_cVs (Fm := fun N => jn 182 A N) K subM agM (fun _ => agM) (fun N a ha h => jn_o2 (by
    have ha : a < shLaw.length := ha
    rw [lenL] at ha
    rw [lenM] at h
    omega)) cf12 hl hd m0 hc hst hAs hn hrest hdd hmL hcs hsl kk
end R11
theorem par2 {n : Int32} (h0 : 8 ≤ n) (h1 : n ≤ 40) : n - n / 2 * 2 = 0 ∨ n - n / 2 * 2 = 1 := by
  obtain ⟨j, hj, rfl⟩ := nI_of (x := n) (by grind)
  have h : j ≤ 40 := by
    rw [Int32.le_iff_toInt_le, nI_toInt hj] at h1
    have : (40 : Int32).toInt = 40 := rfl
    omega
  have key : ∀ q : Fin 41, Int32.ofNat q.val - Int32.ofNat q.val / 2 * 2 = 0 ∨ Int32.ofNat q.val - Int32.ofNat q.val / 2 * 2 = 1 := by decide +kernel
  exact key ⟨j, by omega⟩
/-- what the reference keeps -/
def IM (B : Mx) : Prop := TM B ∧ B.1 1 3 ≤ 23 ∧ WL B ∧ Wd B ∧ WI B
theorem im_of {B N : Mx} (h : IM B) (hT : TM N) (h3 : N.1 1 3 ≤ 23) (h36 : N.1 0 36 = B.1 0 36) (h59 : N.1 0 59 = B.1 0 59) (e21 : ∀ j, N.1 21 j = B.1 21 j) (e22 : ∀ j, N.1 22 j = B.1 22 j) (e23 : ∀ j, N.1 23 j = B.1 23 j) (e24 : ∀ j, N.1 24 j = B.1 24 j) (e25 : ∀ j, N.1 25 j = B.1 25 j) (e26 : ∀ j, N.1 26 j = B.1 26 j) (e34 : ∀ j, N.1 34 j = B.1 34 j) : IM N := ⟨hT, h3, WL_of h36 e22 e23 e24 e25 e26 h.2.2.1, fun k h0 h1 => (e21 k).trans (h.2.2.2.1 k h0 h1), WI_of h59 e34 h.2.2.2.2⟩
theorem im_M {B N : Mx} (h : IM B) (hT : TM N) (hS : SM B N) : IM N := im_of h hT (by rw [hS 1 3 (by decide)]; exact h.2.1) (hS 0 36 (by decide)) (hS 0 59 (by decide)) (fun j => hS 21 j (by simp [aM])) (fun j => hS 22 j (by simp [aM])) (fun j => hS 23 j (by simp [aM])) (fun j => hS 24 j (by simp [aM])) (fun j => hS 25 j (by simp [aM])) (fun j => hS 26 j (by simp [aM])) (fun j => hS 34 j (by simp [aM]))
theorem im_F {B N : Mx} (h : IM B) (hT : TM N) (hS : SF B N) : IM N := im_of h hT (by rw [hS 1 3 (by decide)]; exact h.2.1) (hS 0 36 (by decide)) (hS 0 59 (by decide)) (fun j => hS 21 j (by simp [aF])) (fun j => hS 22 j (by simp [aF])) (fun j => hS 23 j (by simp [aF])) (fun j => hS 24 j (by simp [aF])) (fun j => hS 25 j (by simp [aF])) (fun j => hS 26 j (by simp [aF])) (fun j => hS 34 j (by simp [aF]))
theorem im_T {B N : Mx} (h : IM B) (hT : TM N) (hS : ST B N) : IM N := im_of h hT (by rw [hS 1 3 (by decide)]; exact h.2.1) (hS 0 36 (by decide)) (hS 0 59 (by decide)) (fun j => hS 21 j (by simp [aT])) (fun j => hS 22 j (by simp [aT])) (fun j => hS 23 j (by simp [aT])) (fun j => hS 24 j (by simp [aT])) (fun j => hS 25 j (by simp [aT])) (fun j => hS 26 j (by simp [aT])) (fun j => hS 34 j (by simp [aT]))
theorem im_Mb {B N : Mx} (h : IM B) (hT : TM N) (hS : SMb B N) : IM N := im_of h hT (by rw [hS 1 3 (by decide)]; exact h.2.1) (hS 0 36 (by decide)) (hS 0 59 (by decide)) (fun j => hS 21 j (by simp [aMb])) (fun j => hS 22 j (by simp [aMb])) (fun j => hS 23 j (by simp [aMb])) (fun j => hS 24 j (by simp [aMb])) (fun j => hS 25 j (by simp [aMb])) (fun j => hS 26 j (by simp [aMb])) (fun j => hS 34 j (by simp [aMb]))
theorem im_Ms {B N : Mx} (h : IM B) (hT : TM N) (hS : SMs B N) : IM N := im_of h hT (by rw [hS 1 3 (by decide)]; exact h.2.1) (hS 0 36 (by decide)) (hS 0 59 (by decide)) (fun j => hS 21 j (by simp [aMs])) (fun j => hS 22 j (by simp [aMs])) (fun j => hS 23 j (by simp [aMs])) (fun j => hS 24 j (by simp [aMs])) (fun j => hS 25 j (by simp [aMs])) (fun j => hS 26 j (by simp [aMs])) (fun j => hS 34 j (by simp [aMs]))
theorem im_Ma {B N : Mx} (h : IM B) (hT : TM N) (hS : SMa B N) : IM N := im_of h hT (by rw [hS 1 3 (by decide)]; exact h.2.1) (hS 0 36 (by decide)) (hS 0 59 (by decide)) (fun j => hS 21 j (by simp [aMa])) (fun j => hS 22 j (by simp [aMa])) (fun j => hS 23 j (by simp [aMa])) (fun j => hS 24 j (by simp [aMa])) (fun j => hS 25 j (by simp [aMa])) (fun j => hS 26 j (by simp [aMa])) (fun j => hS 34 j (by simp [aMa]))
theorem im_Mg {B N : Mx} (h : IM B) (hT : TM N) (hS : SMg B N) : IM N := im_of h hT (by rw [hS 1 3 (by decide)]; exact h.2.1) (hS 0 36 (by decide)) (hS 0 59 (by decide)) (fun j => hS 21 j (by simp [aMg])) (fun j => hS 22 j (by simp [aMg])) (fun j => hS 23 j (by simp [aMg])) (fun j => hS 24 j (by simp [aMg])) (fun j => hS 25 j (by simp [aMg])) (fun j => hS 26 j (by simp [aMg])) (fun j => hS 34 j (by simp [aMg]))
theorem im_Mo {B N : Mx} (h : IM B) (hT : TM N) (hS : SMo B N) : IM N := im_of h hT (by rw [hS 1 3 (by decide)]; exact h.2.1) (hS 0 36 (by decide)) (hS 0 59 (by decide)) (fun j => hS 21 j (by simp [aMo])) (fun j => hS 22 j (by simp [aMo])) (fun j => hS 23 j (by simp [aMo])) (fun j => hS 24 j (by simp [aMo])) (fun j => hS 25 j (by simp [aMo])) (fun j => hS 26 j (by simp [aMo])) (fun j => hS 34 j (by simp [aMo]))
theorem im_Ml {B N : Mx} (h : IM B) (hT : TM N) (hS : SMl B N) : IM N := im_of h hT (by rw [hS 1 3 (by decide)]; exact h.2.1) (hS 0 36 (by decide)) (hS 0 59 (by decide)) (fun j => hS 21 j (by simp [aMl])) (fun j => hS 22 j (by simp [aMl])) (fun j => hS 23 j (by simp [aMl])) (fun j => hS 24 j (by simp [aMl])) (fun j => hS 25 j (by simp [aMl])) (fun j => hS 26 j (by simp [aMl])) (fun j => hS 34 j (by simp [aMl]))
theorem im_Mt {B N : Mx} (h : IM B) (hT : TM N) (hS : SMt B N) : IM N := im_of h hT (by rw [hS 1 3 (by decide)]; exact h.2.1) (hS 0 36 (by decide)) (hS 0 59 (by decide)) (fun j => hS 21 j (by simp [aMt])) (fun j => hS 22 j (by simp [aMt])) (fun j => hS 23 j (by simp [aMt])) (fun j => hS 24 j (by simp [aMt])) (fun j => hS 25 j (by simp [aMt])) (fun j => hS 26 j (by simp [aMt])) (fun j => hS 34 j (by simp [aMt]))
theorem im_N {B N : Mx} (h : IM B) (hT : TM N) (hS : SN B N) (h3 : N.1 1 3 ≤ 23) : IM N := im_of h hT h3 (hS 0 36 (by decide)) (hS 0 59 (by decide)) (fun j => hS 21 j (by simp [aN])) (fun j => hS 22 j (by simp [aN])) (fun j => hS 23 j (by simp [aN])) (fun j => hS 24 j (by simp [aN])) (fun j => hS 25 j (by simp [aN])) (fun j => hS 26 j (by simp [aN])) (fun j => hS 34 j (by simp [aN]))
theorem sy_t {B N : Mx} (h : SY (up B 0 30 0) N) : N.1 0 30 = 0 ∧ ∀ a j, aY a j = true → ¬ (a = 0 ∧ j = 30) → N.1 a j = B.1 a j :=
  ⟨(h 0 30 (by decide)).trans (by simp [up]), fun a j q z => (h a j q).trans (if_neg z)⟩
theorem im_Y {B N : Mx} (h : IM B) (hT : TM N) (hS : SY (up B 0 30 0) N) (w : WL N) : IM N := by
  obtain ⟨-, e⟩ := sy_t hS
  exact ⟨hT, by rw [e 1 3 (by decide) (by decide)]; exact h.2.1, w, fun k h0 h1 => (e 21 k (by simp [aY]) (by simp)).trans (h.2.2.2.1 k h0 h1), WI_of (e 0 59 (by decide) (by decide)) (fun j => e 34 j (by simp [aY]) (by simp)) h.2.2.2.2⟩
theorem im_Q {B N : Mx} (h : IM B) (hT : TM N) (hS : SQ B N) (w : N.1 1 3 ≤ 23 ∧ WL N ∧ WI N) : IM N := ⟨hT, w.1, w.2.1, fun k h0 h1 => (hS 21 k (by simp [aQ])).trans (h.2.2.2.1 k h0 h1), w.2.2⟩
theorem im_Z {B N : Mx} {n r : Int32} (h : IM B) (hT : TM N) (hS : SZ B N) (hr : r = 0 ∨ r = 1) (w1 : r = 1 → NZ N n) (w0 : r = 0 → SM B N) : IM N := by
  rcases hr with e | e
  · exact im_M h hT (w0 e)
  · obtain ⟨z1, z2, -⟩ := w1 e
    exact ⟨hT, z2, fun l l0 l1 => by rw [z1] at l1; exact absurd (Int32.lt_of_le_of_lt l0 l1) (by decide), fun k h0 h1 => (hS 21 k (by simp [aZ])).trans (h.2.2.2.1 k h0 h1), WI_of (hS 0 59 (by decide)) (fun j => hS 34 j (by simp [aZ])) h.2.2.2.2⟩
/-- rows alike below m -/
def Rw (k : Nat) (m : Int32) (V W : Int32 → Int32) : Prop := ∀ n : Nat, n < k → nI n < m → V (nI n) = W (nI n)
theorem rw_0 {k : Nat} {V W : Int32 → Int32} (hk : k < 2 ^ 31) : Rw k 0 V W := fun n h1 h => absurd h (nI_pos (Nat.lt_trans h1 hk))
theorem rw_e {k : Nat} {m m' : Int32} {V V' W W' : Int32 → Int32} (h : Rw k m V W) (hm : m' = m) (e : ∀ j, V' j = V j) (f : ∀ j, W' j = W j) : Rw k m' V' W' := fun n h1 h2 => by
  rw [e, f]
  exact h n h1 (hm ▸ h2)
theorem rw_add {k : Nat} {m m' a : Int32} {V V' W W' : Int32 → Int32} (h : Rw k m V W) (hm : m ≤ 1000) (em : m' = m + 1) (hv : V' m = a) (hw : W' m = a) (e : ∀ j, ¬ j = m → V' j = V j) (f : ∀ j, ¬ j = m → W' j = W j) : Rw k m' V' W' := fun n h1 h2 => by
  by_cases q : nI n = m
  · rw [q, hv, hw]
  · rw [e _ q, f _ q]
    rw [em] at h2
    exact h n h1 ((lt_k1 hm h2).resolve_right q)
theorem rw_b {k : Nat} {m b : Int32} {V W : Int32 → Int32} (h : Rw k m V W) (hk : k < 2 ^ 31) (hm : m ≤ nI k) (b0 : 0 ≤ b) (b1 : b < m) : V b = W b := by
  obtain ⟨n, hn, e⟩ := nI_of (x := b) (Int32.not_lt.mpr b0)
  subst e
  exact h n ((nI_ltI hn hk).mp (Int32.lt_of_lt_of_le b1 hm)) b1
theorem Tk_c {m a : Int32} {V W : Int32 → Int32} (h : Rw 10 m V W) (hm : m ≤ 10) : Tk V m a ↔ Tk W m a :=
  ⟨fun ⟨b, b0, b1, b2⟩ => ⟨b, b0, b1, (rw_b h (by decide) hm b0 b1).symm.trans b2⟩, fun ⟨b, b0, b1, b2⟩ => ⟨b, b0, b1, (rw_b h (by decide) hm b0 b1).trans b2⟩⟩
theorem Bd_c {m f d : Int32} {V1 V2 V3 W1 W2 W3 : Int32 → Int32} (h1 : Rw 30 m V1 W1) (h2 : Rw 30 m V2 W2) (h3 : Rw 30 m V3 W3) (hm : m ≤ 30) : Bd V1 V2 V3 m f d ↔ Bd W1 W2 W3 m f d :=
  ⟨fun ⟨b, b0, b1, b2, b3⟩ => ⟨b, b0, b1, (rw_b h2 (by decide) hm b0 b1).symm.trans b2, by rw [← rw_b h1 (by decide) hm b0 b1, ← rw_b h3 (by decide) hm b0 b1]; exact b3⟩, fun ⟨b, b0, b1, b2, b3⟩ => ⟨b, b0, b1, (rw_b h2 (by decide) hm b0 b1).trans b2, by rw [rw_b h1 (by decide) hm b0 b1, rw_b h3 (by decide) hm b0 b1]; exact b3⟩⟩
theorem pb_r {V V' W W' : Int32 → Int32} {n n1 n2 nt a b c r s : Int32} (h : Rw 10 n V W) (hn : n ≤ 10) (p : PB V V' n n1 nt a b c r) (q : PB W W' n n2 nt a b c s) : r = s ∧ n1 = n2 ∧ Rw 10 n1 V' W' := by
  have e : CB V n nt a b c ↔ CB W n nt a b c := by
    unfold CB
    rw [Tk_c h hn]
  rcases p with ⟨p1, p2, p3, p4⟩ | ⟨p1, p2, p3, p4, p5⟩
  · rcases q with ⟨q1, q2, q3, q4⟩ | ⟨q1, q2, q3, q4, q5⟩
    · exact ⟨p1.trans q1.symm, p2.trans q2.symm, rw_e h p2 p3 q3⟩
    · exact absurd (e.mpr q5) p4
  · rcases q with ⟨q1, q2, q3, q4⟩ | ⟨q1, q2, q3, q4, q5⟩
    · exact absurd (e.mp p5) q4
    · exact ⟨p1.trans q1.symm, p2.trans q2.symm, rw_add h (Int32.le_trans hn (by decide)) p2 p3 q3 p4 q4⟩
theorem pa_r {V1 V2 V3 X1 X2 X3 W1 W2 W3 Y1 Y2 Y3 : Int32 → Int32} {F n n1 n2 a d b r s : Int32} (h1 : Rw 30 n V1 W1) (h2 : Rw 30 n V2 W2) (h3 : Rw 30 n V3 W3) (hn : n ≤ 30) (p : PA V1 V2 V3 X1 X2 X3 F n n1 a d b r) (q : PA W1 W2 W3 Y1 Y2 Y3 F n n2 a d b s) : r = s ∧ n1 = n2 ∧ Rw 30 n1 X1 Y1 ∧ Rw 30 n1 X2 Y2 ∧ Rw 30 n1 X3 Y3 := by
  have e : CA V1 V2 V3 F n a d b ↔ CA W1 W2 W3 F n a d b := by
    unfold CA CA0
    rw [Bd_c h1 h2 h3 hn, Bd_c h1 h2 h3 hn]
  have hm : n ≤ 1000 := Int32.le_trans hn (by decide)
  rcases p with ⟨p1, p2, p3, p4⟩ | ⟨p1, p2, ⟨p3, p4, p5⟩, p6, p7⟩
  · rcases q with ⟨q1, q2, q3, q4⟩ | ⟨q1, q2, q3, q4, q5⟩
    · exact ⟨p1.trans q1.symm, p2.trans q2.symm, rw_e h1 p2 (fun j => (p3 j).1) (fun j => (q3 j).1), rw_e h2 p2 (fun j => (p3 j).2.1) (fun j => (q3 j).2.1), rw_e h3 p2 (fun j => (p3 j).2.2) (fun j => (q3 j).2.2)⟩
    · exact absurd (e.mpr q5) p4
  · rcases q with ⟨q1, q2, q3, q4⟩ | ⟨q1, q2, ⟨q3, q4, q5⟩, q6, q7⟩
    · exact absurd (e.mp p7) q4
    · exact ⟨p1.trans q1.symm, p2.trans q2.symm, rw_add h1 hm p2 p3 q3 (fun j z => (p6 j z).1) (fun j z => (q6 j z).1), rw_add h2 hm p2 p4 q4 (fun j z => (p6 j z).2.1) (fun j z => (q6 j z).2.1), rw_add h3 hm p2 p5 q5 (fun j z => (p6 j z).2.2) (fun j z => (q6 j z).2.2)⟩
theorem pf_r {n n1 n2 a b c d r s : Int32} (p : PF n n1 a b c d r) (q : PF n n2 a b c d s) : r = s ∧ n1 = n2 := by unfold PF at p q; grind
theorem ps_r {n n1 n2 a b c r s : Int32} (p : PS n n1 a b c r) (q : PS n n2 a b c s) : r = s ∧ n1 = n2 := by unfold PS at p q; grind
theorem pg_r {n n1 n2 F f v r s : Int32} (p : PG n n1 F f v r) (q : PG n n2 F f v s) : r = s ∧ n1 = n2 := by unfold PG at p q; grind
theorem pt_r {n n1 n2 r s : Int32} (p : PT n n1 r) (q : PT n n2 s) : r = s ∧ n1 = n2 := by unfold PT at p q; grind
theorem pe_r {n n1 n2 k r s : Int32} (p : PE n n1 k r) (q : PE n n2 k s) : r = s ∧ n1 = n2 := by unfold PE at p q; grind
theorem bp_r {P Q : Prop} {r s : Int32} (e : P ↔ Q) (p : (r = 1 ∧ P) ∨ (r = 0 ∧ ¬ P)) (q : (s = 1 ∧ Q) ∨ (s = 0 ∧ ¬ Q)) : r = s := by grind
/-- the picture and the image alike -/
def Rp (A B : Mx) : Prop := A.1 49 0 = B.1 34 0 ∧ A.1 49 1 = B.1 34 1 ∧ A.1 49 2 = B.1 34 3 ∧ A.1 56 0 = B.1 34 2 ∧ A.1 56 3 = B.1 34 412 ∧ A.1 65 1 = B.1 34 321 ∧ Rw 10 (A.1 49 1) (A.1 50) (fun j => B.1 34 (166 + 3 * j)) ∧ Rw 30 (A.1 65 1) (A.1 67) (fun j => B.1 34 (322 + 3 * j)) ∧ Rw 30 (A.1 65 1) (A.1 68) (fun j => B.1 34 (323 + 3 * j)) ∧ Rw 30 (A.1 65 1) (A.1 69) (fun j => B.1 34 (324 + 3 * j))
/-- class and reference alike -/
def Rl (A B : Mx) : Prop := (A.1 12 0 = B.1 0 4 ∧ A.1 12 1 = B.1 0 5 ∧ A.1 12 2 = B.1 0 16 ∧ A.1 19 0 = B.1 0 9 ∧ A.1 19 3 = B.1 0 24 ∧ A.1 28 1 = B.1 0 19 ∧ A.1 0 2 = B.1 0 59 ∧ A.1 158 0 = B.1 0 30) ∧ (Rw 10 (A.1 12 1) (A.1 13) (B.1 3) ∧ Rw 30 (A.1 28 1) (A.1 30) (B.1 14) ∧ Rw 30 (A.1 28 1) (A.1 31) (B.1 15) ∧ Rw 30 (A.1 28 1) (A.1 32) (B.1 16)) ∧ (B.1 0 59 = 0 ∨ Rp A B)
theorem rp_of {A A' B B' : Mx} (h : Rp A B) (e0 : A'.1 49 0 = A.1 49 0) (e1 : A'.1 49 1 = A.1 49 1) (e2 : A'.1 49 2 = A.1 49 2) (e3 : A'.1 56 0 = A.1 56 0) (e4 : A'.1 56 3 = A.1 56 3) (e5 : A'.1 65 1 = A.1 65 1) (f0 : ∀ j, A'.1 50 j = A.1 50 j) (f1 : ∀ j, A'.1 67 j = A.1 67 j) (f2 : ∀ j, A'.1 68 j = A.1 68 j) (f3 : ∀ j, A'.1 69 j = A.1 69 j) (g : ∀ j, B'.1 34 j = B.1 34 j) : Rp A' B' := by
  obtain ⟨h0, h1, h2, h3, h4, h5, h6, h7, h8, h9⟩ := h
  exact ⟨by rw [e0, g]; exact h0, by rw [e1, g]; exact h1, by rw [e2, g]; exact h2, by rw [e3, g]; exact h3, by rw [e4, g]; exact h4, by rw [e5, g]; exact h5, rw_e h6 e1 f0 (fun j => g _), rw_e h7 e5 f1 (fun j => g _), rw_e h8 e5 f2 (fun j => g _), rw_e h9 e5 f3 (fun j => g _)⟩
theorem rl_pic {A A' B B' : Mx} (h : B.1 0 59 = 0 ∨ Rp A B) (h59 : B'.1 0 59 = B.1 0 59) (e0 : A'.1 49 0 = A.1 49 0) (e1 : A'.1 49 1 = A.1 49 1) (e2 : A'.1 49 2 = A.1 49 2) (e3 : A'.1 56 0 = A.1 56 0) (e4 : A'.1 56 3 = A.1 56 3) (e5 : A'.1 65 1 = A.1 65 1) (f0 : ∀ j, A'.1 50 j = A.1 50 j) (f1 : ∀ j, A'.1 67 j = A.1 67 j) (f2 : ∀ j, A'.1 68 j = A.1 68 j) (f3 : ∀ j, A'.1 69 j = A.1 69 j) (g : ∀ j, B'.1 34 j = B.1 34 j) : B'.1 0 59 = 0 ∨ Rp A' B' :=
  h.elim (fun z => Or.inl (h59.trans z)) (fun z => Or.inr (rp_of z e0 e1 e2 e3 e4 e5 f0 f1 f2 f3 g))
theorem rl_X_M {A A' B B' : Mx} (h : Rl A B) (hT : TX A) (hA : SX A A') (hB : SM B B')  : Rl A' B' := by
  obtain ⟨⟨r0, r1, r2, r3, r4, r5, r6, r7⟩, ⟨w0, w1, w2, w3⟩, im⟩ := h
  exact ⟨⟨by rw [hA 12 0 (by decide), hB 0 4 (by decide)]; exact r0, by rw [hA 12 1 (by decide), hB 0 5 (by decide)]; exact r1, by rw [hA 12 2 (by decide), hB 0 16 (by decide)]; exact r2, by rw [hA 19 0 (by decide), hB 0 9 (by decide)]; exact r3, by rw [hA 19 3 (by decide), hB 0 24 (by decide)]; exact r4, by rw [hA 28 1 (by decide), hB 0 19 (by decide)]; exact r5, by rw [hA 0 2 (by decide), hB 0 59 (by decide)]; exact r6, by rw [hA 158 0 (by decide), hB 0 30 (by decide)]; exact r7⟩, ⟨rw_e w0 (hA 12 1 (by decide)) (fun j => hA 13 j (by simp [aX])) (fun j => hB 3 j (by simp [aM])), rw_e w1 (hA 28 1 (by decide)) (fun j => hA 30 j (by simp [aX])) (fun j => hB 14 j (by simp [aM])), rw_e w2 (hA 28 1 (by decide)) (fun j => hA 31 j (by simp [aX])) (fun j => hB 15 j (by simp [aM])), rw_e w3 (hA 28 1 (by decide)) (fun j => hA 32 j (by simp [aX])) (fun j => hB 16 j (by simp [aM]))⟩, rl_pic im (hB 0 59 (by decide)) (hA 49 0 (by decide)) (hA 49 1 (by decide)) (hA 49 2 (by decide)) (hA 56 0 (by decide)) (hA 56 3 (by decide)) (hA 65 1 (by decide)) (fun j => hA 50 j (by simp [aX])) (fun j => hA 67 j (by simp [aX])) (fun j => hA 68 j (by simp [aX])) (fun j => hA 69 j (by simp [aX])) (fun j => hB 34 j (by simp [aM]))⟩
theorem rl_X_N {A A' B B' : Mx} (h : Rl A B) (hT : TX A) (hA : SX A A') (hB : SN B B')  : Rl A' B' := by
  obtain ⟨⟨r0, r1, r2, r3, r4, r5, r6, r7⟩, ⟨w0, w1, w2, w3⟩, im⟩ := h
  exact ⟨⟨by rw [hA 12 0 (by decide), hB 0 4 (by decide)]; exact r0, by rw [hA 12 1 (by decide), hB 0 5 (by decide)]; exact r1, by rw [hA 12 2 (by decide), hB 0 16 (by decide)]; exact r2, by rw [hA 19 0 (by decide), hB 0 9 (by decide)]; exact r3, by rw [hA 19 3 (by decide), hB 0 24 (by decide)]; exact r4, by rw [hA 28 1 (by decide), hB 0 19 (by decide)]; exact r5, by rw [hA 0 2 (by decide), hB 0 59 (by decide)]; exact r6, by rw [hA 158 0 (by decide), hB 0 30 (by decide)]; exact r7⟩, ⟨rw_e w0 (hA 12 1 (by decide)) (fun j => hA 13 j (by simp [aX])) (fun j => hB 3 j (by simp [aN])), rw_e w1 (hA 28 1 (by decide)) (fun j => hA 30 j (by simp [aX])) (fun j => hB 14 j (by simp [aN])), rw_e w2 (hA 28 1 (by decide)) (fun j => hA 31 j (by simp [aX])) (fun j => hB 15 j (by simp [aN])), rw_e w3 (hA 28 1 (by decide)) (fun j => hA 32 j (by simp [aX])) (fun j => hB 16 j (by simp [aN]))⟩, rl_pic im (hB 0 59 (by decide)) (hA 49 0 (by decide)) (hA 49 1 (by decide)) (hA 49 2 (by decide)) (hA 56 0 (by decide)) (hA 56 3 (by decide)) (hA 65 1 (by decide)) (fun j => hA 50 j (by simp [aX])) (fun j => hA 67 j (by simp [aX])) (fun j => hA 68 j (by simp [aX])) (fun j => hA 69 j (by simp [aX])) (fun j => hB 34 j (by simp [aN]))⟩
theorem rl_Xo_Mo {A A' B B' : Mx} (h : Rl A B) (hT : TX A) (hA : SXo A A') (hB : SMo B B')  : Rl A' B' := by
  obtain ⟨⟨r0, r1, r2, r3, r4, r5, r6, r7⟩, ⟨w0, w1, w2, w3⟩, im⟩ := h
  exact ⟨⟨by rw [hA 12 0 (by decide), hB 0 4 (by decide)]; exact r0, by rw [hA 12 1 (by decide), hB 0 5 (by decide)]; exact r1, by rw [hA 12 2 (by decide), hB 0 16 (by decide)]; exact r2, by rw [hA 19 0 (by decide), hB 0 9 (by decide)]; exact r3, by rw [hA 19 3 (by decide), hB 0 24 (by decide)]; exact r4, by rw [hA 28 1 (by decide), hB 0 19 (by decide)]; exact r5, by rw [hA 0 2 (by decide), hB 0 59 (by decide)]; exact r6, by rw [hA 158 0 (by decide), hB 0 30 (by decide)]; exact r7⟩, ⟨rw_e w0 (hA 12 1 (by decide)) (fun j => hA 13 j (by simp [aXo])) (fun j => hB 3 j (by simp [aMo])), rw_e w1 (hA 28 1 (by decide)) (fun j => hA 30 j (by simp [aXo])) (fun j => hB 14 j (by simp [aMo])), rw_e w2 (hA 28 1 (by decide)) (fun j => hA 31 j (by simp [aXo])) (fun j => hB 15 j (by simp [aMo])), rw_e w3 (hA 28 1 (by decide)) (fun j => hA 32 j (by simp [aXo])) (fun j => hB 16 j (by simp [aMo]))⟩, rl_pic im (hB 0 59 (by decide)) (hA 49 0 (by decide)) (hA 49 1 (by decide)) (hA 49 2 (by decide)) (hA 56 0 (by decide)) (hA 56 3 (by decide)) (hA 65 1 (by decide)) (fun j => hA 50 j (by simp [aXo])) (fun j => hA 67 j (by simp [aXo])) (fun j => hA 68 j (by simp [aXo])) (fun j => hA 69 j (by simp [aXo])) (fun j => hB 34 j (by simp [aMo]))⟩
theorem rl_Xl_Ml {A A' B B' : Mx} (h : Rl A B) (hT : TX A) (hA : SXl A A') (hB : SMl B B')  : Rl A' B' := by
  obtain ⟨⟨r0, r1, r2, r3, r4, r5, r6, r7⟩, ⟨w0, w1, w2, w3⟩, im⟩ := h
  exact ⟨⟨by rw [hA 12 0 (by decide), hB 0 4 (by decide)]; exact r0, by rw [hA 12 1 (by decide), hB 0 5 (by decide)]; exact r1, by rw [hA 12 2 (by decide), hB 0 16 (by decide)]; exact r2, by rw [hA 19 0 (by decide), hB 0 9 (by decide)]; exact r3, by rw [hA 19 3 (by decide), hB 0 24 (by decide)]; exact r4, by rw [hA 28 1 (by decide), hB 0 19 (by decide)]; exact r5, by rw [hA 0 2 (by decide), hB 0 59 (by decide)]; exact r6, by rw [hA 158 0 (by decide), hB 0 30 (by decide)]; exact r7⟩, ⟨rw_e w0 (hA 12 1 (by decide)) (fun j => hA 13 j (by simp [aXl])) (fun j => hB 3 j (by simp [aMl])), rw_e w1 (hA 28 1 (by decide)) (fun j => hA 30 j (by simp [aXl])) (fun j => hB 14 j (by simp [aMl])), rw_e w2 (hA 28 1 (by decide)) (fun j => hA 31 j (by simp [aXl])) (fun j => hB 15 j (by simp [aMl])), rw_e w3 (hA 28 1 (by decide)) (fun j => hA 32 j (by simp [aXl])) (fun j => hB 16 j (by simp [aMl]))⟩, rl_pic im (hB 0 59 (by decide)) (hA 49 0 (by decide)) (hA 49 1 (by decide)) (hA 49 2 (by decide)) (hA 56 0 (by decide)) (hA 56 3 (by decide)) (hA 65 1 (by decide)) (fun j => hA 50 j (by simp [aXl])) (fun j => hA 67 j (by simp [aXl])) (fun j => hA 68 j (by simp [aXl])) (fun j => hA 69 j (by simp [aXl])) (fun j => hB 34 j (by simp [aMl]))⟩
theorem rl_farm {A A' B B' : Mx} {a b c d r s : Int32} (h : Rl A B) (hT : TX A) (hA : SXf A A') (hB : SF B B') (p : PF (A.1 19 0) (A'.1 19 0) a b c d r) (q : PF (B.1 0 9) (B'.1 0 9) a b c d s) : r = s ∧ Rl A' B' := by
  obtain ⟨⟨r0, r1, r2, r3, r4, r5, r6, r7⟩, ⟨w0, w1, w2, w3⟩, im⟩ := h
  rw [← r3] at q
  have k := pf_r p q
  exact ⟨k.1, ⟨⟨by rw [hA 12 0 (by decide), hB 0 4 (by decide)]; exact r0, by rw [hA 12 1 (by decide), hB 0 5 (by decide)]; exact r1, by rw [hA 12 2 (by decide), hB 0 16 (by decide)]; exact r2, k.2, by rw [hA 19 3 (by decide), hB 0 24 (by decide)]; exact r4, by rw [hA 28 1 (by decide), hB 0 19 (by decide)]; exact r5, by rw [hA 0 2 (by decide), hB 0 59 (by decide)]; exact r6, by rw [hA 158 0 (by decide), hB 0 30 (by decide)]; exact r7⟩, ⟨rw_e w0 (hA 12 1 (by decide)) (fun j => hA 13 j (by simp [aXf])) (fun j => hB 3 j (by simp [aF])), rw_e w1 (hA 28 1 (by decide)) (fun j => hA 30 j (by simp [aXf])) (fun j => hB 14 j (by simp [aF])), rw_e w2 (hA 28 1 (by decide)) (fun j => hA 31 j (by simp [aXf])) (fun j => hB 15 j (by simp [aF])), rw_e w3 (hA 28 1 (by decide)) (fun j => hA 32 j (by simp [aXf])) (fun j => hB 16 j (by simp [aF]))⟩, rl_pic im (hB 0 59 (by decide)) (hA 49 0 (by decide)) (hA 49 1 (by decide)) (hA 49 2 (by decide)) (hA 56 0 (by decide)) (hA 56 3 (by decide)) (hA 65 1 (by decide)) (fun j => hA 50 j (by simp [aXf])) (fun j => hA 67 j (by simp [aXf])) (fun j => hA 68 j (by simp [aXf])) (fun j => hA 69 j (by simp [aXf])) (fun j => hB 34 j (by simp [aF]))⟩⟩
theorem rl_log {A A' B B' : Mx} {f v r s : Int32} (h : Rl A B) (hT : TX A) (hA : SXg A A') (hB : SMg B B') (p : PG (A.1 19 3) (A'.1 19 3) (A.1 19 0) f v r) (q : PG (B.1 0 24) (B'.1 0 24) (B.1 0 9) f v s) : r = s ∧ Rl A' B' := by
  obtain ⟨⟨r0, r1, r2, r3, r4, r5, r6, r7⟩, ⟨w0, w1, w2, w3⟩, im⟩ := h
  rw [← r3, ← r4] at q
  have k := pg_r p q
  exact ⟨k.1, ⟨⟨by rw [hA 12 0 (by decide), hB 0 4 (by decide)]; exact r0, by rw [hA 12 1 (by decide), hB 0 5 (by decide)]; exact r1, by rw [hA 12 2 (by decide), hB 0 16 (by decide)]; exact r2, by rw [hA 19 0 (by decide), hB 0 9 (by decide)]; exact r3, k.2, by rw [hA 28 1 (by decide), hB 0 19 (by decide)]; exact r5, by rw [hA 0 2 (by decide), hB 0 59 (by decide)]; exact r6, by rw [hA 158 0 (by decide), hB 0 30 (by decide)]; exact r7⟩, ⟨rw_e w0 (hA 12 1 (by decide)) (fun j => hA 13 j (by simp [aXg])) (fun j => hB 3 j (by simp [aMg])), rw_e w1 (hA 28 1 (by decide)) (fun j => hA 30 j (by simp [aXg])) (fun j => hB 14 j (by simp [aMg])), rw_e w2 (hA 28 1 (by decide)) (fun j => hA 31 j (by simp [aXg])) (fun j => hB 15 j (by simp [aMg])), rw_e w3 (hA 28 1 (by decide)) (fun j => hA 32 j (by simp [aXg])) (fun j => hB 16 j (by simp [aMg]))⟩, rl_pic im (hB 0 59 (by decide)) (hA 49 0 (by decide)) (hA 49 1 (by decide)) (hA 49 2 (by decide)) (hA 56 0 (by decide)) (hA 56 3 (by decide)) (hA 65 1 (by decide)) (fun j => hA 50 j (by simp [aXg])) (fun j => hA 67 j (by simp [aXg])) (fun j => hA 68 j (by simp [aXg])) (fun j => hA 69 j (by simp [aXg])) (fun j => hB 34 j (by simp [aMg]))⟩⟩
theorem rl_splice {A A' B B' : Mx} {a b c r s : Int32} (h : Rl A B) (hT : TX A) (hA : SXs A A') (hB : SMs B B') (p : PS (A.1 12 2) (A'.1 12 2) a b c r) (q : PS (B.1 0 16) (B'.1 0 16) a b c s) : r = s ∧ Rl A' B' := by
  obtain ⟨⟨r0, r1, r2, r3, r4, r5, r6, r7⟩, ⟨w0, w1, w2, w3⟩, im⟩ := h
  rw [← r2] at q
  have k := ps_r p q
  exact ⟨k.1, ⟨⟨by rw [hA 12 0 (by decide), hB 0 4 (by decide)]; exact r0, by rw [hA 12 1 (by decide), hB 0 5 (by decide)]; exact r1, k.2, by rw [hA 19 0 (by decide), hB 0 9 (by decide)]; exact r3, by rw [hA 19 3 (by decide), hB 0 24 (by decide)]; exact r4, by rw [hA 28 1 (by decide), hB 0 19 (by decide)]; exact r5, by rw [hA 0 2 (by decide), hB 0 59 (by decide)]; exact r6, by rw [hA 158 0 (by decide), hB 0 30 (by decide)]; exact r7⟩, ⟨rw_e w0 (hA 12 1 (by decide)) (fun j => hA 13 j (by simp [aXs])) (fun j => hB 3 j (by simp [aMs])), rw_e w1 (hA 28 1 (by decide)) (fun j => hA 30 j (by simp [aXs])) (fun j => hB 14 j (by simp [aMs])), rw_e w2 (hA 28 1 (by decide)) (fun j => hA 31 j (by simp [aXs])) (fun j => hB 15 j (by simp [aMs])), rw_e w3 (hA 28 1 (by decide)) (fun j => hA 32 j (by simp [aXs])) (fun j => hB 16 j (by simp [aMs]))⟩, rl_pic im (hB 0 59 (by decide)) (hA 49 0 (by decide)) (hA 49 1 (by decide)) (hA 49 2 (by decide)) (hA 56 0 (by decide)) (hA 56 3 (by decide)) (hA 65 1 (by decide)) (fun j => hA 50 j (by simp [aXs])) (fun j => hA 67 j (by simp [aXs])) (fun j => hA 68 j (by simp [aXs])) (fun j => hA 69 j (by simp [aXs])) (fun j => hB 34 j (by simp [aMs]))⟩⟩
theorem rl_feed {A A' B B' : Mx} {r s : Int32} (h : Rl A B) (hT : TX A) (hA : SXt A A') (hB : ST B B') (p : PT (A.1 158 0) (A'.1 158 0) r) (q : PT (B.1 0 30) (B'.1 0 30) s) : r = s ∧ Rl A' B' := by
  obtain ⟨⟨r0, r1, r2, r3, r4, r5, r6, r7⟩, ⟨w0, w1, w2, w3⟩, im⟩ := h
  rw [← r7] at q
  have k := pt_r p q
  exact ⟨k.1, ⟨⟨by rw [hA 12 0 (by decide), hB 0 4 (by decide)]; exact r0, by rw [hA 12 1 (by decide), hB 0 5 (by decide)]; exact r1, by rw [hA 12 2 (by decide), hB 0 16 (by decide)]; exact r2, by rw [hA 19 0 (by decide), hB 0 9 (by decide)]; exact r3, by rw [hA 19 3 (by decide), hB 0 24 (by decide)]; exact r4, by rw [hA 28 1 (by decide), hB 0 19 (by decide)]; exact r5, by rw [hA 0 2 (by decide), hB 0 59 (by decide)]; exact r6, k.2⟩, ⟨rw_e w0 (hA 12 1 (by decide)) (fun j => hA 13 j (by simp [aXt])) (fun j => hB 3 j (by simp [aT])), rw_e w1 (hA 28 1 (by decide)) (fun j => hA 30 j (by simp [aXt])) (fun j => hB 14 j (by simp [aT])), rw_e w2 (hA 28 1 (by decide)) (fun j => hA 31 j (by simp [aXt])) (fun j => hB 15 j (by simp [aT])), rw_e w3 (hA 28 1 (by decide)) (fun j => hA 32 j (by simp [aXt])) (fun j => hB 16 j (by simp [aT]))⟩, rl_pic im (hB 0 59 (by decide)) (hA 49 0 (by decide)) (hA 49 1 (by decide)) (hA 49 2 (by decide)) (hA 56 0 (by decide)) (hA 56 3 (by decide)) (hA 65 1 (by decide)) (fun j => hA 50 j (by simp [aXt])) (fun j => hA 67 j (by simp [aXt])) (fun j => hA 68 j (by simp [aXt])) (fun j => hA 69 j (by simp [aXt])) (fun j => hB 34 j (by simp [aT]))⟩⟩
theorem rl_end {A A' B B' : Mx} {n r s : Int32} (h : Rl A B) (hT : TX A) (hA : SXz A A') (hB : SMt B B') (p : PE (A.1 158 0) (A'.1 158 0) n r) (q : PE (B.1 0 30) (B'.1 0 30) n s) : r = s ∧ Rl A' B' := by
  obtain ⟨⟨r0, r1, r2, r3, r4, r5, r6, r7⟩, ⟨w0, w1, w2, w3⟩, im⟩ := h
  rw [← r7] at q
  have k := pe_r p q
  exact ⟨k.1, ⟨⟨by rw [hA 12 0 (by decide), hB 0 4 (by decide)]; exact r0, by rw [hA 12 1 (by decide), hB 0 5 (by decide)]; exact r1, by rw [hA 12 2 (by decide), hB 0 16 (by decide)]; exact r2, by rw [hA 19 0 (by decide), hB 0 9 (by decide)]; exact r3, by rw [hA 19 3 (by decide), hB 0 24 (by decide)]; exact r4, by rw [hA 28 1 (by decide), hB 0 19 (by decide)]; exact r5, by rw [hA 0 2 (by decide), hB 0 59 (by decide)]; exact r6, k.2⟩, ⟨rw_e w0 (hA 12 1 (by decide)) (fun j => hA 13 j (by simp [aXz])) (fun j => hB 3 j (by simp [aMt])), rw_e w1 (hA 28 1 (by decide)) (fun j => hA 30 j (by simp [aXz])) (fun j => hB 14 j (by simp [aMt])), rw_e w2 (hA 28 1 (by decide)) (fun j => hA 31 j (by simp [aXz])) (fun j => hB 15 j (by simp [aMt])), rw_e w3 (hA 28 1 (by decide)) (fun j => hA 32 j (by simp [aXz])) (fun j => hB 16 j (by simp [aMt]))⟩, rl_pic im (hB 0 59 (by decide)) (hA 49 0 (by decide)) (hA 49 1 (by decide)) (hA 49 2 (by decide)) (hA 56 0 (by decide)) (hA 56 3 (by decide)) (hA 65 1 (by decide)) (fun j => hA 50 j (by simp [aXz])) (fun j => hA 67 j (by simp [aXz])) (fun j => hA 68 j (by simp [aXz])) (fun j => hA 69 j (by simp [aXz])) (fun j => hB 34 j (by simp [aMt]))⟩⟩
theorem rl_bucket {A A' B B' : Mx} {a b c r s : Int32} (h : Rl A B) (hT : TX A) (hA : SXb A A') (hB : SMb B B') (p : PB (A.1 13) (A'.1 13) (A.1 12 1) (A'.1 12 1) (A.1 12 0) a b c r) (q : PB (B.1 3) (B'.1 3) (B.1 0 5) (B'.1 0 5) (B.1 0 4) a b c s) : r = s ∧ Rl A' B' := by
  obtain ⟨⟨r0, r1, r2, r3, r4, r5, r6, r7⟩, ⟨w0, w1, w2, w3⟩, im⟩ := h
  rw [← r0, ← r1] at q
  have k := pb_r w0 (tX_12_1 hT).2 p q
  exact ⟨k.1, ⟨⟨by rw [hA 12 0 (by decide), hB 0 4 (by decide)]; exact r0, k.2.1, by rw [hA 12 2 (by decide), hB 0 16 (by decide)]; exact r2, by rw [hA 19 0 (by decide), hB 0 9 (by decide)]; exact r3, by rw [hA 19 3 (by decide), hB 0 24 (by decide)]; exact r4, by rw [hA 28 1 (by decide), hB 0 19 (by decide)]; exact r5, by rw [hA 0 2 (by decide), hB 0 59 (by decide)]; exact r6, by rw [hA 158 0 (by decide), hB 0 30 (by decide)]; exact r7⟩, ⟨k.2.2, rw_e w1 (hA 28 1 (by decide)) (fun j => hA 30 j (by simp [aXb])) (fun j => hB 14 j (by simp [aMb])), rw_e w2 (hA 28 1 (by decide)) (fun j => hA 31 j (by simp [aXb])) (fun j => hB 15 j (by simp [aMb])), rw_e w3 (hA 28 1 (by decide)) (fun j => hA 32 j (by simp [aXb])) (fun j => hB 16 j (by simp [aMb]))⟩, rl_pic im (hB 0 59 (by decide)) (hA 49 0 (by decide)) (hA 49 1 (by decide)) (hA 49 2 (by decide)) (hA 56 0 (by decide)) (hA 56 3 (by decide)) (hA 65 1 (by decide)) (fun j => hA 50 j (by simp [aXb])) (fun j => hA 67 j (by simp [aXb])) (fun j => hA 68 j (by simp [aXb])) (fun j => hA 69 j (by simp [aXb])) (fun j => hB 34 j (by simp [aMb]))⟩⟩
theorem rl_absent {A A' B B' : Mx} {a d b r s : Int32} (h : Rl A B) (hT : TX A) (hA : SXa A A') (hB : SMa B B') (p : PA (A.1 30) (A.1 31) (A.1 32) (A'.1 30) (A'.1 31) (A'.1 32) (A.1 19 0) (A.1 28 1) (A'.1 28 1) a d b r) (q : PA (B.1 14) (B.1 15) (B.1 16) (B'.1 14) (B'.1 15) (B'.1 16) (B.1 0 9) (B.1 0 19) (B'.1 0 19) a d b s) : r = s ∧ Rl A' B' := by
  obtain ⟨⟨r0, r1, r2, r3, r4, r5, r6, r7⟩, ⟨w0, w1, w2, w3⟩, im⟩ := h
  rw [← r3, ← r5] at q
  have k := pa_r w1 w2 w3 (tX_28_1 hT).2 p q
  exact ⟨k.1, ⟨⟨by rw [hA 12 0 (by decide), hB 0 4 (by decide)]; exact r0, by rw [hA 12 1 (by decide), hB 0 5 (by decide)]; exact r1, by rw [hA 12 2 (by decide), hB 0 16 (by decide)]; exact r2, by rw [hA 19 0 (by decide), hB 0 9 (by decide)]; exact r3, by rw [hA 19 3 (by decide), hB 0 24 (by decide)]; exact r4, k.2.1, by rw [hA 0 2 (by decide), hB 0 59 (by decide)]; exact r6, by rw [hA 158 0 (by decide), hB 0 30 (by decide)]; exact r7⟩, ⟨rw_e w0 (hA 12 1 (by decide)) (fun j => hA 13 j (by simp [aXa])) (fun j => hB 3 j (by simp [aMa])), k.2.2.1, k.2.2.2.1, k.2.2.2.2⟩, rl_pic im (hB 0 59 (by decide)) (hA 49 0 (by decide)) (hA 49 1 (by decide)) (hA 49 2 (by decide)) (hA 56 0 (by decide)) (hA 56 3 (by decide)) (hA 65 1 (by decide)) (fun j => hA 50 j (by simp [aXa])) (fun j => hA 67 j (by simp [aXa])) (fun j => hA 68 j (by simp [aXa])) (fun j => hA 69 j (by simp [aXa])) (fun j => hB 34 j (by simp [aMa]))⟩⟩
theorem rl_text {A A' B B' : Mx} (h : Rl A B) (hT : TX A) (hA : SXy A A') (hB : SY (up B 0 30 0) B') (p : A'.1 158 0 = 0) : Rl A' B' := by
  obtain ⟨⟨r0, r1, r2, r3, r4, r5, r6, r7⟩, ⟨w0, w1, w2, w3⟩, im⟩ := h
  obtain ⟨k, hB⟩ := sy_t hB
  exact ⟨⟨by rw [hA 12 0 (by decide), hB 0 4 (by decide) (by decide)]; exact r0, by rw [hA 12 1 (by decide), hB 0 5 (by decide) (by decide)]; exact r1, by rw [hA 12 2 (by decide), hB 0 16 (by decide) (by decide)]; exact r2, by rw [hA 19 0 (by decide), hB 0 9 (by decide) (by decide)]; exact r3, by rw [hA 19 3 (by decide), hB 0 24 (by decide) (by decide)]; exact r4, by rw [hA 28 1 (by decide), hB 0 19 (by decide) (by decide)]; exact r5, by rw [hA 0 2 (by decide), hB 0 59 (by decide) (by decide)]; exact r6, p.trans k.symm⟩, ⟨rw_e w0 (hA 12 1 (by decide)) (fun j => hA 13 j (by simp [aXy])) (fun j => hB 3 j (by simp [aY]) (by simp)), rw_e w1 (hA 28 1 (by decide)) (fun j => hA 30 j (by simp [aXy])) (fun j => hB 14 j (by simp [aY]) (by simp)), rw_e w2 (hA 28 1 (by decide)) (fun j => hA 31 j (by simp [aXy])) (fun j => hB 15 j (by simp [aY]) (by simp)), rw_e w3 (hA 28 1 (by decide)) (fun j => hA 32 j (by simp [aXy])) (fun j => hB 16 j (by simp [aY]) (by simp))⟩, rl_pic im (hB 0 59 (by decide) (by decide)) (hA 49 0 (by decide)) (hA 49 1 (by decide)) (hA 49 2 (by decide)) (hA 56 0 (by decide)) (hA 56 3 (by decide)) (hA 65 1 (by decide)) (fun j => hA 50 j (by simp [aXy])) (fun j => hA 67 j (by simp [aXy])) (fun j => hA 68 j (by simp [aXy])) (fun j => hA 69 j (by simp [aXy])) (fun j => hB 34 j (by simp [aY]) (by simp))⟩
theorem rl_notches {A A' B B' : Mx} {n r s : Int32} (h : Rl A B) (hT : TX A) (hA : SXn A A') (hB : SZ B B') (e : r = s) (p1 : r = 1 → A'.1 12 0 = n ∧ A'.1 12 1 = 0 ∧ A'.1 12 2 = 0 ∧ A'.1 19 0 = 0 ∧ A'.1 19 3 = 0 ∧ A'.1 28 1 = 0) (p0 : r = 0 → A' = A) (q1 : s = 1 → NZ B' n) (q0 : s = 0 → SM B B') (hr : r = 0 ∨ r = 1) : Rl A' B' := by
  rcases hr with hr | hr
  · have e1 := p0 hr
    subst e1
    exact rl_X_M h hT Sx.rf (q0 (e.symm.trans hr))
  · obtain ⟨⟨r0, r1, r2, r3, r4, r5, r6, r7⟩, ⟨w0, w1, w2, w3⟩, im⟩ := h
    obtain ⟨a0, a1, a2, a3, a4, a5⟩ := p1 hr
    obtain ⟨-, -, b0, b1, b2, b3, b4, b5⟩ := q1 (e.symm.trans hr)
    exact ⟨⟨a0.trans b0.symm, a1.trans b1.symm, a2.trans b2.symm, a3.trans b3.symm, a4.trans b4.symm, a5.trans b5.symm, by rw [hA 0 2 (by decide), hB 0 59 (by decide)]; exact r6, by rw [hA 158 0 (by decide), hB 0 30 (by decide)]; exact r7⟩, ⟨by rw [a1]; exact rw_0 (by decide), by rw [a5]; exact rw_0 (by decide), by rw [a5]; exact rw_0 (by decide), by rw [a5]; exact rw_0 (by decide)⟩, rl_pic im (hB 0 59 (by decide)) (hA 49 0 (by decide)) (hA 49 1 (by decide)) (hA 49 2 (by decide)) (hA 56 0 (by decide)) (hA 56 3 (by decide)) (hA 65 1 (by decide)) (fun j => hA 50 j (by simp [aXn])) (fun j => hA 67 j (by simp [aXn])) (fun j => hA 68 j (by simp [aXn])) (fun j => hA 69 j (by simp [aXn])) (fun j => hB 34 j (by simp [aZ]))⟩
theorem c_nI (n e f : Nat) : nI e + nI f * nI n = nI (e + f * n) := by
  rw [← nI_add]
  exact congrArg _ (Int32.ofNat_mul f n).symm
theorem nI_in2 {n k : Nat} (h : n < k) (hk : k < 2 ^ 31) : 0 ≤ nI n ∧ nI n < nI k := ⟨nI_pos' (by omega), nI_lt h hk⟩
theorem iat_0 {M : Mx} {n : Nat} (h : n < 10) : iat M (166 + 3 * n) = M.1 3 (nI n) := by
  unfold iat
  rw [ic_n0 h]
theorem wq_r0 {n : Nat} (h : n < 10) : wq (166 + 3 * n) = true := by
  have key : ∀ q : Fin 10, wq (166 + 3 * q.val) = true := by decide +kernel
  exact key ⟨n, h⟩
theorem im_r0 {M : Mx} {n : Nat} : M.1 34 (166 + 3 * nI n) = M.1 34 (nI (166 + 3 * n)) := congrArg _ ((c_nI n 166 3).trans (congrArg nI (by omega)))
theorem iat_1 {M : Mx} {n : Nat} (h : n < 30) : iat M (322 + 3 * n) = M.1 14 (nI n) := by
  unfold iat
  rw [ic_a0 h]
theorem wq_r1 {n : Nat} (h : n < 30) : wq (322 + 3 * n) = true := by
  have key : ∀ q : Fin 30, wq (322 + 3 * q.val) = true := by decide +kernel
  exact key ⟨n, h⟩
theorem im_r1 {M : Mx} {n : Nat} : M.1 34 (322 + 3 * nI n) = M.1 34 (nI (322 + 3 * n)) := congrArg _ ((c_nI n 322 3).trans (congrArg nI (by omega)))
theorem iat_2 {M : Mx} {n : Nat} (h : n < 30) : iat M (322 + 3 * n + 1) = M.1 15 (nI n) := by
  unfold iat
  rw [ic_a1 h]
theorem wq_r2 {n : Nat} (h : n < 30) : wq (322 + 3 * n + 1) = true := by
  have key : ∀ q : Fin 30, wq (322 + 3 * q.val + 1) = true := by decide +kernel
  exact key ⟨n, h⟩
theorem im_r2 {M : Mx} {n : Nat} : M.1 34 (323 + 3 * nI n) = M.1 34 (nI (322 + 3 * n + 1)) := congrArg _ ((c_nI n 323 3).trans (congrArg nI (by omega)))
theorem iat_3 {M : Mx} {n : Nat} (h : n < 30) : iat M (322 + 3 * n + 1 + 1) = M.1 16 (nI n) := by
  unfold iat
  rw [ic_a2 h]
theorem wq_r3 {n : Nat} (h : n < 30) : wq (322 + 3 * n + 1 + 1) = true := by
  have key : ∀ q : Fin 30, wq (322 + 3 * q.val + 1 + 1) = true := by decide +kernel
  exact key ⟨n, h⟩
theorem im_r3 {M : Mx} {n : Nat} : M.1 34 (324 + 3 * nI n) = M.1 34 (nI (322 + 3 * n + 1 + 1)) := congrArg _ ((c_nI n 324 3).trans (congrArg nI (by omega)))
theorem one_of {x : Int32} (h0 : 0 ≤ x) (h1 : x ≤ 1) (h : ¬ x = 0) : x = 1 := by grind
theorem rl_image {A A' B B' : Mx} {t r s : Int32} (h : Rl A B) (hT : TX A) (hA : SXi A A') (hB : SQ B B') (h01 : A.1 0 2 ≤ 1) (h00 : 0 ≤ A.1 0 2) (p : PI A A' t r) (q : PJ B B' t s) : r = s ∧ Rl A' B' := by
  obtain ⟨⟨r0, r1, r2, r3, r4, r5, r6, r7⟩, ⟨w0, w1, w2, w3⟩, im⟩ := id h
  have t7 : A'.1 158 0 = B'.1 0 30 := by rw [hA 158 0 (by decide), hB 0 30 (by decide)]; exact r7
  rcases p with ⟨p0, p1, p2, p3, p4⟩ | ⟨p0, p1, p2, p3⟩ | ⟨p0, p1, p2, p3, p4, p5⟩
  · rcases q with ⟨q0, q1, q2, q3⟩ | ⟨q0, q1, q2, q3, q4⟩
    · exact absurd q1 p0
    · have q3 := q3 p0
      have v0 : A'.1 12 0 = A.1 12 0 := p4 12 0 (by simp [isV])
      have u0 : A'.1 49 0 = A.1 12 0 := p3 12 0 (by simp [isV])
      have m0 : B'.1 0 4 = B.1 0 4 := q3 0 (by decide)
      have i0 : B'.1 0 4 = B'.1 34 0 := q2 0 (by decide)
      have v1 : A'.1 12 1 = A.1 12 1 := p4 12 1 (by simp [isV])
      have u1 : A'.1 49 1 = A.1 12 1 := p3 12 1 (by simp [isV])
      have m1 : B'.1 0 5 = B.1 0 5 := q3 1 (by decide)
      have i1 : B'.1 0 5 = B'.1 34 1 := q2 1 (by decide)
      have v2 : A'.1 12 2 = A.1 12 2 := p4 12 2 (by simp [isV])
      have u2 : A'.1 49 2 = A.1 12 2 := p3 12 2 (by simp [isV])
      have m2 : B'.1 0 16 = B.1 0 16 := q3 3 (by decide)
      have i2 : B'.1 0 16 = B'.1 34 3 := q2 3 (by decide)
      have v3 : A'.1 19 0 = A.1 19 0 := p4 19 0 (by simp [isV])
      have u3 : A'.1 56 0 = A.1 19 0 := p3 19 0 (by simp [isV])
      have m3 : B'.1 0 9 = B.1 0 9 := q3 2 (by decide)
      have i3 : B'.1 0 9 = B'.1 34 2 := q2 2 (by decide)
      have v4 : A'.1 19 3 = A.1 19 3 := p4 19 3 (by simp [isV])
      have u4 : A'.1 56 3 = A.1 19 3 := p3 19 3 (by simp [isV])
      have m4 : B'.1 0 24 = B.1 0 24 := q3 412 (by decide)
      have i4 : B'.1 0 24 = B'.1 34 412 := q2 412 (by decide)
      have v5 : A'.1 28 1 = A.1 28 1 := p4 28 1 (by simp [isV])
      have u5 : A'.1 65 1 = A.1 28 1 := p3 28 1 (by simp [isV])
      have m5 : B'.1 0 19 = B.1 0 19 := q3 321 (by decide)
      have i5 : B'.1 0 19 = B'.1 34 321 := q2 321 (by decide)
      exact ⟨p1.trans q0.symm, ⟨by rw [v0, m0]; exact r0, by rw [v1, m1]; exact r1, by rw [v2, m2]; exact r2, by rw [v3, m3]; exact r3, by rw [v4, m4]; exact r4, by rw [v5, m5]; exact r5, p2.trans q1.symm, t7⟩, ⟨fun n n1 n2 => by
        rw [p4 13 (nI n) (by have z := nI_in2 n1 (by decide); simp [isV]; exact z), ← iat_0 (M := B') n1, q3 _ (wq_r0 n1), iat_0 n1]
        exact w0 n n1 (v1 ▸ n2),
      fun n n1 n2 => by
        rw [p4 30 (nI n) (by have z := nI_in2 n1 (by decide); simp [isV]; exact z), ← iat_1 (M := B') n1, q3 _ (wq_r1 n1), iat_1 n1]
        exact w1 n n1 (v5 ▸ n2),
      fun n n1 n2 => by
        rw [p4 31 (nI n) (by have z := nI_in2 n1 (by decide); simp [isV]; exact z), ← iat_2 (M := B') n1, q3 _ (wq_r2 n1), iat_2 n1]
        exact w2 n n1 (v5 ▸ n2),
      fun n n1 n2 => by
        rw [p4 32 (nI n) (by have z := nI_in2 n1 (by decide); simp [isV]; exact z), ← iat_3 (M := B') n1, q3 _ (wq_r3 n1), iat_3 n1]
        exact w3 n n1 (v5 ▸ n2)⟩, Or.inr ⟨by rw [u0, ← i0, m0]; exact r0, by rw [u1, ← i1, m1]; exact r1, by rw [u2, ← i2, m2]; exact r2, by rw [u3, ← i3, m3]; exact r3, by rw [u4, ← i4, m4]; exact r4, by rw [u5, ← i5, m5]; exact r5, fun n n1 n2 => by
        rw [show A'.1 50 (nI n) = A.1 13 (nI n) from p3 13 (nI n) (by have z := nI_in2 n1 (by decide); simp [isV]; exact z)]
        show _ = B'.1 34 (166 + 3 * nI n)
        rw [im_r0, ← q2 _ (wq_r0 n1), q3 _ (wq_r0 n1), iat_0 n1]
        exact w0 n n1 (u1 ▸ n2),
      fun n n1 n2 => by
        rw [show A'.1 67 (nI n) = A.1 30 (nI n) from p3 30 (nI n) (by have z := nI_in2 n1 (by decide); simp [isV]; exact z)]
        show _ = B'.1 34 (322 + 3 * nI n)
        rw [im_r1, ← q2 _ (wq_r1 n1), q3 _ (wq_r1 n1), iat_1 n1]
        exact w1 n n1 (u5 ▸ n2),
      fun n n1 n2 => by
        rw [show A'.1 68 (nI n) = A.1 31 (nI n) from p3 31 (nI n) (by have z := nI_in2 n1 (by decide); simp [isV]; exact z)]
        show _ = B'.1 34 (323 + 3 * nI n)
        rw [im_r2, ← q2 _ (wq_r2 n1), q3 _ (wq_r2 n1), iat_2 n1]
        exact w2 n n1 (u5 ▸ n2),
      fun n n1 n2 => by
        rw [show A'.1 69 (nI n) = A.1 32 (nI n) from p3 32 (nI n) (by have z := nI_in2 n1 (by decide); simp [isV]; exact z)]
        show _ = B'.1 34 (324 + 3 * nI n)
        rw [im_r3, ← q2 _ (wq_r3 n1), q3 _ (wq_r3 n1), iat_3 n1]
        exact w3 n n1 (u5 ▸ n2)⟩⟩
  · rcases q with ⟨q0, q1, q2, q3⟩ | ⟨q0, q1, q2, q3, q4⟩
    · subst p3
      exact ⟨p2.trans q0.symm, rl_X_M h hT Sx.rf q3⟩
    · exact absurd (r6.symm.trans p1) (q4 p0).1
  · rcases q with ⟨q0, q1, q2, q3⟩ | ⟨q0, q1, q2, q3, q4⟩
    · exact absurd (r6.trans q2) p1
    · obtain ⟨h0, h1, h2, h3, h4, h5, h6, h7, h8, h9⟩ := im.resolve_left (q4 p0).1
      have q5 := (q4 p0).2
      have v0 : A'.1 12 0 = A.1 49 0 := p4 12 0 (by simp [isV])
      have u0 : A'.1 49 0 = A.1 49 0 := p5 12 0 (by simp [isV])
      have i0 : B'.1 0 4 = B'.1 34 0 := q2 0 (by decide)
      have v1 : A'.1 12 1 = A.1 49 1 := p4 12 1 (by simp [isV])
      have u1 : A'.1 49 1 = A.1 49 1 := p5 12 1 (by simp [isV])
      have i1 : B'.1 0 5 = B'.1 34 1 := q2 1 (by decide)
      have v2 : A'.1 12 2 = A.1 49 2 := p4 12 2 (by simp [isV])
      have u2 : A'.1 49 2 = A.1 49 2 := p5 12 2 (by simp [isV])
      have i2 : B'.1 0 16 = B'.1 34 3 := q2 3 (by decide)
      have v3 : A'.1 19 0 = A.1 56 0 := p4 19 0 (by simp [isV])
      have u3 : A'.1 56 0 = A.1 56 0 := p5 19 0 (by simp [isV])
      have i3 : B'.1 0 9 = B'.1 34 2 := q2 2 (by decide)
      have v4 : A'.1 19 3 = A.1 56 3 := p4 19 3 (by simp [isV])
      have u4 : A'.1 56 3 = A.1 56 3 := p5 19 3 (by simp [isV])
      have i4 : B'.1 0 24 = B'.1 34 412 := q2 412 (by decide)
      have v5 : A'.1 28 1 = A.1 65 1 := p4 28 1 (by simp [isV])
      have u5 : A'.1 65 1 = A.1 65 1 := p5 28 1 (by simp [isV])
      have i5 : B'.1 0 19 = B'.1 34 321 := q2 321 (by decide)
      have b1 : A.1 0 2 = 1 := one_of h00 h01 p1
      exact ⟨p2.trans q0.symm, ⟨by rw [v0, i0, q5]; exact h0, by rw [v1, i1, q5]; exact h1, by rw [v2, i2, q5]; exact h2, by rw [v3, i3, q5]; exact h3, by rw [v4, i4, q5]; exact h4, by rw [v5, i5, q5]; exact h5, (p3.trans b1).trans q1.symm, t7⟩, ⟨fun n n1 n2 => by
        rw [show A'.1 13 (nI n) = A.1 50 (nI n) from p4 13 (nI n) (by have z := nI_in2 n1 (by decide); simp [isV]; exact z), ← iat_0 (M := B') n1, q2 _ (wq_r0 n1), q5, ← im_r0]
        exact h6 n n1 (v1 ▸ n2),
      fun n n1 n2 => by
        rw [show A'.1 30 (nI n) = A.1 67 (nI n) from p4 30 (nI n) (by have z := nI_in2 n1 (by decide); simp [isV]; exact z), ← iat_1 (M := B') n1, q2 _ (wq_r1 n1), q5, ← im_r1]
        exact h7 n n1 (v5 ▸ n2),
      fun n n1 n2 => by
        rw [show A'.1 31 (nI n) = A.1 68 (nI n) from p4 31 (nI n) (by have z := nI_in2 n1 (by decide); simp [isV]; exact z), ← iat_2 (M := B') n1, q2 _ (wq_r2 n1), q5, ← im_r2]
        exact h8 n n1 (v5 ▸ n2),
      fun n n1 n2 => by
        rw [show A'.1 32 (nI n) = A.1 69 (nI n) from p4 32 (nI n) (by have z := nI_in2 n1 (by decide); simp [isV]; exact z), ← iat_3 (M := B') n1, q2 _ (wq_r3 n1), q5, ← im_r3]
        exact h9 n n1 (v5 ▸ n2)⟩, Or.inr ⟨by rw [u0, q5]; exact h0, by rw [u1, q5]; exact h1, by rw [u2, q5]; exact h2, by rw [u3, q5]; exact h3, by rw [u4, q5]; exact h4, by rw [u5, q5]; exact h5, fun n n1 n2 => by
        rw [show A'.1 50 (nI n) = A.1 50 (nI n) from p5 13 (nI n) (by have z := nI_in2 n1 (by decide); simp [isV]; exact z)]
        show _ = B'.1 34 (166 + 3 * nI n)
        rw [q5]
        exact h6 n n1 (u1 ▸ n2),
      fun n n1 n2 => by
        rw [show A'.1 67 (nI n) = A.1 67 (nI n) from p5 30 (nI n) (by have z := nI_in2 n1 (by decide); simp [isV]; exact z)]
        show _ = B'.1 34 (322 + 3 * nI n)
        rw [q5]
        exact h7 n n1 (u5 ▸ n2),
      fun n n1 n2 => by
        rw [show A'.1 68 (nI n) = A.1 68 (nI n) from p5 31 (nI n) (by have z := nI_in2 n1 (by decide); simp [isV]; exact z)]
        show _ = B'.1 34 (323 + 3 * nI n)
        rw [q5]
        exact h8 n n1 (u5 ▸ n2),
      fun n n1 n2 => by
        rw [show A'.1 69 (nI n) = A.1 69 (nI n) from p5 32 (nI n) (by have z := nI_in2 n1 (by decide); simp [isV]; exact z)]
        show _ = B'.1 34 (324 + 3 * nI n)
        rw [q5]
        exact h9 n n1 (u5 ▸ n2)⟩⟩
theorem tx_p {A A' : Mx} {r : Int32} (h : ∃ n : Nat, n ≤ 400 ∧ A.1 158 0 = nI n ∧ A'.1 158 0 = 0 ∧ RdE A' (tks (tb A) n) (rdv (tkc (tb A) n) 16 0 0) ∧ ((A'.1 157 1 = 0 ∧ r = A'.1 157 3) ∨ (¬ A'.1 157 1 = 0 ∧ r = -1))) : A'.1 158 0 = 0 := by
  obtain ⟨n, -, -, h, -⟩ := h
  exact h
/-- tapes and faults alike -/
def Rt (A B : Mx) : Prop := A.1 157 1 = B.1 0 48 ∧ A.1 157 2 = B.1 0 49 ∧ ∀ n : Nat, n ≤ 400 → A.1 158 0 = nI n → ∀ i, i < n → A.1 159 (nI i) = B.1 20 (nI i)
theorem rt_of {A A' B B' : Mx} (h : Rt A B) (a1 : A'.1 157 1 = A.1 157 1) (a2 : A'.1 157 2 = A.1 157 2) (a0 : A'.1 158 0 = A.1 158 0) (a9 : ∀ j, A'.1 159 j = A.1 159 j) (b8 : B'.1 0 48 = B.1 0 48) (b9 : B'.1 0 49 = B.1 0 49) (b20 : ∀ j, B'.1 20 j = B.1 20 j) : Rt A' B' :=
  ⟨by rw [a1, b8]; exact h.1, by rw [a2, b9]; exact h.2.1, fun n hn en i hi => by rw [a9, b20]; exact h.2.2 n hn (a0 ▸ en) i hi⟩
theorem rt_feed {A A' B B' : Mx} {a b c d e r s : Int32} (h : Rt A B) (hT : TX A) (e7 : A.1 158 0 = B.1 0 30) (hA : SXt A A') (hB : ST B B') (p : PT (A.1 158 0) (A'.1 158 0) r ∧ (∀ n : Nat, A.1 158 0 = nI n → n ≤ 380 → Pf A A' n 20 (by20 a b c d e)) ∧ (¬ A.1 158 0 ≤ 380 → ∀ j, A'.1 159 j = A.1 159 j)) (q : PT (B.1 0 30) (B'.1 0 30) s ∧ FlM B B' 20 (by20 a b c d e) ∧ (¬ B.1 0 30 ≤ 380 → ∀ j, B'.1 20 j = B.1 20 j)) : Rt A' B' := by
  obtain ⟨p1, p2, p3⟩ := p
  obtain ⟨q1, q2, q3⟩ := q
  have t := tX_158_0 hT
  obtain ⟨n0, hn0, en0⟩ := ix2 (m := 400) (mm := 400) rfl t.1 t.2
  refine ⟨by rw [hA 157 1 (by decide), hB 0 48 (by decide)]; exact h.1, by rw [hA 157 2 (by decide), hB 0 49 (by decide)]; exact h.2.1, fun n hn en i hi => ?_⟩
  by_cases c : A.1 158 0 ≤ 380
  · have c2 := c
    rw [en0] at c2
    have n380 := (nI_leI (b := 380) (by omega) (by omega)).mp c2
    have x := p2 n0 en0 n380
    have y := q2 n0 (e7.symm.trans en0) n380
    rcases p1 with ⟨-, -, z⟩ | ⟨-, z, -⟩
    · exact absurd c z
    · rw [en0, en] at z
      have z2 : n = n0 + 20 := (nI_eq (by omega) (by omega)).mp (z.trans (nI_add n0 20))
      by_cases w : i < n0
      · rw [x.2 i w, y.1.2 i w]
        exact h.2.2 n0 hn0 en0 i w
      · obtain ⟨u, rfl⟩ : ∃ u, i = n0 + u := ⟨i - n0, by omega⟩
        rw [x.1 u (by omega), y.1.1 u (by omega)]
  · have c2 := c
    rw [e7] at c2
    rw [p3 c, q3 c2]
    rcases p1 with ⟨-, z, -⟩ | ⟨-, -, z⟩
    · exact h.2.2 n hn (z ▸ en) i hi
    · exact absurd z c
theorem rt_end {A A' B B' : Mx} {k r : Int32} (h : Rt A B) (hT : TX A) (hA : SXz A A') (hB : SMt B B') (p : PE (A.1 158 0) (A'.1 158 0) k r) : Rt A' B' := by
  have t := tX_158_0 hT
  obtain ⟨n0, hn0, en0⟩ := ix2 (m := 400) (mm := 400) rfl t.1 t.2
  refine ⟨by rw [hA 157 1 (by decide), hB 0 48 (by decide)]; exact h.1, by rw [hA 157 2 (by decide), hB 0 49 (by decide)]; exact h.2.1, fun n hn en i hi => ?_⟩
  rw [hA 159 _ (by simp [aXz]), hB 20 _ (by simp [aMt])]
  refine h.2.2 n0 hn0 en0 i ?_
  rcases p with ⟨-, z1, z2, z3⟩ | ⟨-, z, -⟩
  · rw [← z1, en, en0] at z3
    have := (nI_leI (by omega) (by omega)).mp z3
    omega
  · rw [en, en0] at z
    have := (nI_eq (by omega) (by omega)).mp z
    omega
theorem rt_text {A A' B B' : Mx} {r s : Int32} (h : Rt A B) (hT : TX A) (e7 : A.1 158 0 = B.1 0 30) (p : ∃ n : Nat, n ≤ 400 ∧ A.1 158 0 = nI n ∧ A'.1 158 0 = 0 ∧ RdE A' (tks (tb A) n) (rdv (tkc (tb A) n) 16 0 0) ∧ ((A'.1 157 1 = 0 ∧ r = A'.1 157 3) ∨ (¬ A'.1 157 1 = 0 ∧ r = -1))) (q : TxM B B' s) : r = s ∧ Rt A' B' := by
  obtain ⟨n, hn, en, e0, hE, hr⟩ := p
  have t : TpM B (tb A) n := ⟨hn, e7.symm.trans en, fun i hi => ⟨(h.2.2 n hn en i hi).symm, (tX_159 hT).1, (tX_159 hT).2⟩⟩
  have key : A'.1 157 1 = B'.1 0 48 ∧ A'.1 157 2 = B'.1 0 49 ∧ r = s := by
    rcases q (tb A) n t with ⟨l, q1, q2, q3, q4⟩ | ⟨e, j, q1, q2, q3, q4, q5⟩
    · rcases hE with ⟨l2, x1, x2, x3, x4⟩ | ⟨e2, j2, x1, -⟩
      · have el : l2 = l := Except.ok.inj (x1.symm.trans q1)
        rcases hr with ⟨y1, y2⟩ | ⟨y1, y2⟩
        · exact ⟨x2.trans q3.symm, x3.trans q4.symm, by rw [y2, x4, el, q2]⟩
        · exact absurd x2 y1
      · rw [q1] at x1
        cases x1
    · rcases hE with ⟨l2, x1, -⟩ | ⟨e2, j2, x1, x2, x3, x4⟩
      · rw [q1] at x1
        cases x1
      · have ee := Except.error.inj (x1.symm.trans q1)
        have e1 : e2 = e := congrArg Prod.fst ee
        have e3 : j2 = j := congrArg Prod.snd ee
        rcases hr with ⟨y1, y2⟩ | ⟨y1, y2⟩
        · exact absurd (x2.symm.trans y1) x3
        · exact ⟨by rw [x2, q4, e1], by rw [x4, q5, e3], y2.trans q2.symm⟩
  refine ⟨key.2.2, key.1, key.2.1, fun m hm em i hi => ?_⟩
  rw [e0] at em
  have : 0 = m := (nI_eq (a := 0) (by omega) (by omega)).mp em
  omega
theorem ft_r {A B : Mx} {w r s : Int32} (h : Rt A B) (p : (w = 0 → r = A.1 157 1) ∧ (w = 1 → r = A.1 157 2) ∧ (¬ w = 0 → ¬ w = 1 → r = -1)) (q : (w = 0 → s = B.1 0 48) ∧ (w = 1 → s = B.1 0 49) ∧ (¬ w = 0 → ¬ w = 1 → s = -1)) : r = s := by
  by_cases c : w = 0
  · rw [p.1 c, q.1 c]
    exact h.1
  · by_cases d : w = 1
    · rw [p.2.1 d, q.2.1 d]
      exact h.2.1
    · rw [p.2.2 c d, q.2.2 c d]
theorem rt_X_M {A A' B B' : Mx} (h : Rt A B) (hA : SX A A') (hB : SM B B') : Rt A' B' := rt_of h (hA 157 1 (by decide)) (hA 157 2 (by decide)) (hA 158 0 (by decide)) (fun j => hA 159 j (by simp [aX])) (hB 0 48 (by decide)) (hB 0 49 (by decide)) (fun j => hB 20 j (by simp [aM]))
theorem rt_X_N {A A' B B' : Mx} (h : Rt A B) (hA : SX A A') (hB : SN B B') : Rt A' B' := rt_of h (hA 157 1 (by decide)) (hA 157 2 (by decide)) (hA 158 0 (by decide)) (fun j => hA 159 j (by simp [aX])) (hB 0 48 (by decide)) (hB 0 49 (by decide)) (fun j => hB 20 j (by simp [aN]))
theorem rt_Xa_Ma {A A' B B' : Mx} (h : Rt A B) (hA : SXa A A') (hB : SMa B B') : Rt A' B' := rt_of h (hA 157 1 (by decide)) (hA 157 2 (by decide)) (hA 158 0 (by decide)) (fun j => hA 159 j (by simp [aXa])) (hB 0 48 (by decide)) (hB 0 49 (by decide)) (fun j => hB 20 j (by simp [aMa]))
theorem rt_Xb_Mb {A A' B B' : Mx} (h : Rt A B) (hA : SXb A A') (hB : SMb B B') : Rt A' B' := rt_of h (hA 157 1 (by decide)) (hA 157 2 (by decide)) (hA 158 0 (by decide)) (fun j => hA 159 j (by simp [aXb])) (hB 0 48 (by decide)) (hB 0 49 (by decide)) (fun j => hB 20 j (by simp [aMb]))
theorem rt_Xf_F {A A' B B' : Mx} (h : Rt A B) (hA : SXf A A') (hB : SF B B') : Rt A' B' := rt_of h (hA 157 1 (by decide)) (hA 157 2 (by decide)) (hA 158 0 (by decide)) (fun j => hA 159 j (by simp [aXf])) (hB 0 48 (by decide)) (hB 0 49 (by decide)) (fun j => hB 20 j (by simp [aF]))
theorem rt_Xg_Mg {A A' B B' : Mx} (h : Rt A B) (hA : SXg A A') (hB : SMg B B') : Rt A' B' := rt_of h (hA 157 1 (by decide)) (hA 157 2 (by decide)) (hA 158 0 (by decide)) (fun j => hA 159 j (by simp [aXg])) (hB 0 48 (by decide)) (hB 0 49 (by decide)) (fun j => hB 20 j (by simp [aMg]))
theorem rt_Xi_Q {A A' B B' : Mx} (h : Rt A B) (hA : SXi A A') (hB : SQ B B') : Rt A' B' := rt_of h (hA 157 1 (by decide)) (hA 157 2 (by decide)) (hA 158 0 (by decide)) (fun j => hA 159 j (by simp [aXi])) (hB 0 48 (by decide)) (hB 0 49 (by decide)) (fun j => hB 20 j (by simp [aQ]))
theorem rt_Xl_Ml {A A' B B' : Mx} (h : Rt A B) (hA : SXl A A') (hB : SMl B B') : Rt A' B' := rt_of h (hA 157 1 (by decide)) (hA 157 2 (by decide)) (hA 158 0 (by decide)) (fun j => hA 159 j (by simp [aXl])) (hB 0 48 (by decide)) (hB 0 49 (by decide)) (fun j => hB 20 j (by simp [aMl]))
theorem rt_Xn_Z {A A' B B' : Mx} (h : Rt A B) (hA : SXn A A') (hB : SZ B B') : Rt A' B' := rt_of h (hA 157 1 (by decide)) (hA 157 2 (by decide)) (hA 158 0 (by decide)) (fun j => hA 159 j (by simp [aXn])) (hB 0 48 (by decide)) (hB 0 49 (by decide)) (fun j => hB 20 j (by simp [aZ]))
theorem rt_Xo_Mo {A A' B B' : Mx} (h : Rt A B) (hA : SXo A A') (hB : SMo B B') : Rt A' B' := rt_of h (hA 157 1 (by decide)) (hA 157 2 (by decide)) (hA 158 0 (by decide)) (fun j => hA 159 j (by simp [aXo])) (hB 0 48 (by decide)) (hB 0 49 (by decide)) (fun j => hB 20 j (by simp [aMo]))
theorem rt_Xs_Ms {A A' B B' : Mx} (h : Rt A B) (hA : SXs A A') (hB : SMs B B') : Rt A' B' := rt_of h (hA 157 1 (by decide)) (hA 157 2 (by decide)) (hA 158 0 (by decide)) (fun j => hA 159 j (by simp [aXs])) (hB 0 48 (by decide)) (hB 0 49 (by decide)) (fun j => hB 20 j (by simp [aMs]))
theorem bp_01 {P : Prop} {r : Int32} (h : (r = 1 ∧ P) ∨ (r = 0 ∧ ¬ P)) : r = 0 ∨ r = 1 := h.elim (fun z => Or.inr z.1) (fun z => Or.inl z.1)
theorem nt_r {n r s : Int32} (p : (r = 1 ∧ (8 ≤ n ∧ n ≤ 40 ∧ n - n / 2 * 2 = 0)) ∨ (r = 0 ∧ ¬ (8 ≤ n ∧ n ≤ 40 ∧ n - n / 2 * 2 = 0))) (q : (s = 1 ∧ (8 ≤ n ∧ n ≤ 40 ∧ ¬ n - n / 2 * 2 = 1)) ∨ (s = 0 ∧ ¬ (8 ≤ n ∧ n ≤ 40 ∧ ¬ n - n / 2 * 2 = 1))) : r = s := by
  have hp := fun a b => par2 (n := n) a b
  grind
def Iv (A B : Mx) : Prop := TX A ∧ IM B ∧ Rl A B ∧ Rt A B
