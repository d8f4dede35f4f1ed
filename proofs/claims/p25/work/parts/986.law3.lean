theorem agX {A B : Mx} : Agr (jn 182 A B) 0 shX.length A := by rw [lenX]; exact jn_1
theorem agM {A B : Mx} : Agr (jn 182 A B) 182 shM.length B := jn_2
theorem lenL : shLaw.length = 217 := by rw [shLaw, WB_len lenX lenM]
section R11
variable {G : Cx} {cc : ByteArray} {nL : Nat} {own : String} {ret : Option FieldType} {d : Nat} {ad : Nat → Nat} {cs sl : Nat} {A B : Mx} {pc : Nat} {lv : List (Nat × Value)} {st : List Value}
theorem aw_cX (K : Ok G cc nL own ret d) {idx n mL dd : Nat} {y : MethodName} {c : ByteArray} {r : Option FieldType} {As rest : List Value} {P : Int32 → Mx → Prop} (hl : LV own idx RX11 y c mL r n) (hd : decode cc pc = .ok (.invokevirtual idx, 3)) (hc : Ct (xk G, sw (ad, shLaw) 0 shX) y c mL r dd 0 0 (.ref 0 :: As) A (Rs (xk G, sw (ad, shLaw) 0 shX) (RI P))) (hst : st = As.reverse ++ .ref 0 :: rest) (hAs : As.map (cvv (ga (xk G, (ad, shLaw)))) = As.map (cvv (ga (xk G, sw (ad, shLaw) 0 shX)))) (hn : As.length = n) (hrest : (rest.map fun v => v.category).sum ≤ 8) (hdd : dd < d) (hmL : mL ≤ 40) (hcs : cs ≤ xmc G) (hsl : sl ≤ xms G)
    (kk : ∀ (v : Int32) (N : Mx), P v N → AW G nL (ad, shLaw) cs sl (jn 182 N B) (pc + 3) lv (.int v :: rest)) : AW G nL (ad, shLaw) cs sl (jn 182 A B) pc lv st :=
  aw_cVs (Fm := fun N => jn 182 N B) K subX agX (fun _ => agX) (fun N a _ h => jn_o1 (by rw [lenX] at h; omega)) cf11 hl hd s0 hc hst hAs hn hrest hdd hmL hcs hsl kk
theorem aw_cM (K : Ok G cc nL own ret d) {idx n mL dd : Nat} {y : MethodName} {c : ByteArray} {r : Option FieldType} {As rest : List Value} {P : Int32 → Mx → Prop} (hl : LV own idx RX12 y c mL r n) (hd : decode cc pc = .ok (.invokevirtual idx, 3)) (hc : Ct (xk G, sw (ad, shLaw) 182 shM) y c mL r dd 0 0 (.ref 0 :: As) B (Rs (xk G, sw (ad, shLaw) 182 shM) (RI P))) (hst : st = As.reverse ++ .ref 182 :: rest) (hAs : As.map (cvv (ga (xk G, (ad, shLaw)))) = As.map (cvv (ga (xk G, sw (ad, shLaw) 182 shM)))) (hn : As.length = n) (hrest : (rest.map fun v => v.category).sum ≤ 8) (hdd : dd < d) (hmL : mL ≤ 40) (hcs : cs ≤ xmc G) (hsl : sl ≤ xms G)
    (kk : ∀ (v : Int32) (N : Mx), P v N → AW G nL (ad, shLaw) cs sl (jn 182 A N) (pc + 3) lv (.int v :: rest)) : AW G nL (ad, shLaw) cs sl (jn 182 A B) pc lv st :=
  aw_cVs (Fm := fun N => jn 182 A N) K subM agM (fun _ => agM) (fun N a ha h => jn_o2 (by
    have ha : a < shLaw.length := ha
    rw [lenL] at ha
    rw [lenM] at h
    omega)) cf12 hl hd m0 hc hst hAs hn hrest hdd hmL hcs hsl kk
end R11
theorem par2 {n : Int32} (h0 : 8 ≤ n) (h1 : n ≤ 40) : n - n / 2 * 2 = 0 ∨ n - n / 2 * 2 = 1 := by
  obtain ⟨j, hj, rfl⟩ := nI_of (x := n) (by grind)
  have h : j ≤ 40 := by
    rw [Int32.le_iff_toInt_le, nI_toInt hj] at h1
    have : (40 : Int32).toInt = 40 := rfl
    omega
  have key : ∀ q : Fin 41, Int32.ofNat q.val - Int32.ofNat q.val / 2 * 2 = 0 ∨ Int32.ofNat q.val - Int32.ofNat q.val / 2 * 2 = 1 := by decide +kernel
  exact key ⟨j, by omega⟩
/-- what the reference keeps -/
def IM (B : Mx) : Prop := TM B ∧ B.1 1 3 ≤ 23 ∧ WL B ∧ Wd B ∧ WI B
theorem im_of {B N : Mx} (h : IM B) (hT : TM N) (h3 : N.1 1 3 ≤ 23) (h36 : N.1 0 36 = B.1 0 36) (h59 : N.1 0 59 = B.1 0 59) (e21 : ∀ j, N.1 21 j = B.1 21 j) (e22 : ∀ j, N.1 22 j = B.1 22 j) (e23 : ∀ j, N.1 23 j = B.1 23 j) (e24 : ∀ j, N.1 24 j = B.1 24 j) (e25 : ∀ j, N.1 25 j = B.1 25 j) (e26 : ∀ j, N.1 26 j = B.1 26 j) (e34 : ∀ j, N.1 34 j = B.1 34 j) : IM N := ⟨hT, h3, WL_of h36 e22 e23 e24 e25 e26 h.2.2.1, fun k h0 h1 => (e21 k).trans (h.2.2.2.1 k h0 h1), WI_of h59 e34 h.2.2.2.2⟩
theorem im_M {B N : Mx} (h : IM B) (hT : TM N) (hS : SM B N) : IM N := im_of h hT (by rw [hS 1 3 (by decide)]; exact h.2.1) (hS 0 36 (by decide)) (hS 0 59 (by decide)) (fun j => hS 21 j (by simp [aM])) (fun j => hS 22 j (by simp [aM])) (fun j => hS 23 j (by simp [aM])) (fun j => hS 24 j (by simp [aM])) (fun j => hS 25 j (by simp [aM])) (fun j => hS 26 j (by simp [aM])) (fun j => hS 34 j (by simp [aM]))
theorem im_F {B N : Mx} (h : IM B) (hT : TM N) (hS : SF B N) : IM N := im_of h hT (by rw [hS 1 3 (by decide)]; exact h.2.1) (hS 0 36 (by decide)) (hS 0 59 (by decide)) (fun j => hS 21 j (by simp [aF])) (fun j => hS 22 j (by simp [aF])) (fun j => hS 23 j (by simp [aF])) (fun j => hS 24 j (by simp [aF])) (fun j => hS 25 j (by simp [aF])) (fun j => hS 26 j (by simp [aF])) (fun j => hS 34 j (by simp [aF]))
theorem im_T {B N : Mx} (h : IM B) (hT : TM N) (hS : ST B N) : IM N := im_of h hT (by rw [hS 1 3 (by decide)]; exact h.2.1) (hS 0 36 (by decide)) (hS 0 59 (by decide)) (fun j => hS 21 j (by simp [aT])) (fun j => hS 22 j (by simp [aT])) (fun j => hS 23 j (by simp [aT])) (fun j => hS 24 j (by simp [aT])) (fun j => hS 25 j (by simp [aT])) (fun j => hS 26 j (by simp [aT])) (fun j => hS 34 j (by simp [aT]))
theorem im_Mb {B N : Mx} (h : IM B) (hT : TM N) (hS : SMb B N) : IM N := im_of h hT (by rw [hS 1 3 (by decide)]; exact h.2.1) (hS 0 36 (by decide)) (hS 0 59 (by decide)) (fun j => hS 21 j (by simp [aMb])) (fun j => hS 22 j (by simp [aMb])) (fun j => hS 23 j (by simp [aMb])) (fun j => hS 24 j (by simp [aMb])) (fun j => hS 25 j (by simp [aMb])) (fun j => hS 26 j (by simp [aMb])) (fun j => hS 34 j (by simp [aMb]))
theorem im_Ms {B N : Mx} (h : IM B) (hT : TM N) (hS : SMs B N) : IM N := im_of h hT (by rw [hS 1 3 (by decide)]; exact h.2.1) (hS 0 36 (by decide)) (hS 0 59 (by decide)) (fun j => hS 21 j (by simp [aMs])) (fun j => hS 22 j (by simp [aMs])) (fun j => hS 23 j (by simp [aMs])) (fun j => hS 24 j (by simp [aMs])) (fun j => hS 25 j (by simp [aMs])) (fun j => hS 26 j (by simp [aMs])) (fun j => hS 34 j (by simp [aMs]))
theorem im_Ma {B N : Mx} (h : IM B) (hT : TM N) (hS : SMa B N) : IM N := im_of h hT (by rw [hS 1 3 (by decide)]; exact h.2.1) (hS 0 36 (by decide)) (hS 0 59 (by decide)) (fun j => hS 21 j (by simp [aMa])) (fun j => hS 22 j (by simp [aMa])) (fun j => hS 23 j (by simp [aMa])) (fun j => hS 24 j (by simp [aMa])) (fun j => hS 25 j (by simp [aMa])) (fun j => hS 26 j (by simp [aMa])) (fun j => hS 34 j (by simp [aMa]))
theorem im_Mg {B N : Mx} (h : IM B) (hT : TM N) (hS : SMg B N) : IM N := im_of h hT (by rw [hS 1 3 (by decide)]; exact h.2.1) (hS 0 36 (by decide)) (hS 0 59 (by decide)) (fun j => hS 21 j (by simp [aMg])) (fun j => hS 22 j (by simp [aMg])) (fun j => hS 23 j (by simp [aMg])) (fun j => hS 24 j (by simp [aMg])) (fun j => hS 25 j (by simp [aMg])) (fun j => hS 26 j (by simp [aMg])) (fun j => hS 34 j (by simp [aMg]))
theorem im_Mo {B N : Mx} (h : IM B) (hT : TM N) (hS : SMo B N) : IM N := im_of h hT (by rw [hS 1 3 (by decide)]; exact h.2.1) (hS 0 36 (by decide)) (hS 0 59 (by decide)) (fun j => hS 21 j (by simp [aMo])) (fun j => hS 22 j (by simp [aMo])) (fun j => hS 23 j (by simp [aMo])) (fun j => hS 24 j (by simp [aMo])) (fun j => hS 25 j (by simp [aMo])) (fun j => hS 26 j (by simp [aMo])) (fun j => hS 34 j (by simp [aMo]))
theorem im_Ml {B N : Mx} (h : IM B) (hT : TM N) (hS : SMl B N) : IM N := im_of h hT (by rw [hS 1 3 (by decide)]; exact h.2.1) (hS 0 36 (by decide)) (hS 0 59 (by decide)) (fun j => hS 21 j (by simp [aMl])) (fun j => hS 22 j (by simp [aMl])) (fun j => hS 23 j (by simp [aMl])) (fun j => hS 24 j (by simp [aMl])) (fun j => hS 25 j (by simp [aMl])) (fun j => hS 26 j (by simp [aMl])) (fun j => hS 34 j (by simp [aMl]))
theorem im_Mt {B N : Mx} (h : IM B) (hT : TM N) (hS : SMt B N) : IM N := im_of h hT (by rw [hS 1 3 (by decide)]; exact h.2.1) (hS 0 36 (by decide)) (hS 0 59 (by decide)) (fun j => hS 21 j (by simp [aMt])) (fun j => hS 22 j (by simp [aMt])) (fun j => hS 23 j (by simp [aMt])) (fun j => hS 24 j (by simp [aMt])) (fun j => hS 25 j (by simp [aMt])) (fun j => hS 26 j (by simp [aMt])) (fun j => hS 34 j (by simp [aMt]))
theorem im_N {B N : Mx} (h : IM B) (hT : TM N) (hS : SN B N) (h3 : N.1 1 3 ≤ 23) : IM N := im_of h hT h3 (hS 0 36 (by decide)) (hS 0 59 (by decide)) (fun j => hS 21 j (by simp [aN])) (fun j => hS 22 j (by simp [aN])) (fun j => hS 23 j (by simp [aN])) (fun j => hS 24 j (by simp [aN])) (fun j => hS 25 j (by simp [aN])) (fun j => hS 26 j (by simp [aN])) (fun j => hS 34 j (by simp [aN]))
theorem sy_t {B N : Mx} (h : SY (up B 0 30 0) N) : N.1 0 30 = 0 ∧ ∀ a j, aY a j = true → ¬ (a = 0 ∧ j = 30) → N.1 a j = B.1 a j :=
  ⟨(h 0 30 (by decide)).trans (by simp [up]), fun a j q z => (h a j q).trans (if_neg z)⟩
theorem im_Y {B N : Mx} (h : IM B) (hT : TM N) (hS : SY (up B 0 30 0) N) (w : WL N) : IM N := by
  obtain ⟨-, e⟩ := sy_t hS
  exact ⟨hT, by rw [e 1 3 (by decide) (by decide)]; exact h.2.1, w, fun k h0 h1 => (e 21 k (by simp [aY]) (by simp)).trans (h.2.2.2.1 k h0 h1), WI_of (e 0 59 (by decide) (by decide)) (fun j => e 34 j (by simp [aY]) (by simp)) h.2.2.2.2⟩
theorem im_Q {B N : Mx} (h : IM B) (hT : TM N) (hS : SQ B N) (w : N.1 1 3 ≤ 23 ∧ WL N ∧ WI N) : IM N := ⟨hT, w.1, w.2.1, fun k h0 h1 => (hS 21 k (by simp [aQ])).trans (h.2.2.2.1 k h0 h1), w.2.2⟩
theorem im_Z {B N : Mx} {n r : Int32} (h : IM B) (hT : TM N) (hS : SZ B N) (hr : r = 0 ∨ r = 1) (w1 : r = 1 → NZ N n) (w0 : r = 0 → SM B N) : IM N := by
  rcases hr with e | e
  · exact im_M h hT (w0 e)
  · obtain ⟨z1, z2, -⟩ := w1 e
    exact ⟨hT, z2, fun l l0 l1 => by rw [z1] at l1; exact absurd (Int32.lt_of_le_of_lt l0 l1) (by decide), fun k h0 h1 => (hS 21 k (by simp [aZ])).trans (h.2.2.2.1 k h0 h1), WI_of (hS 0 59 (by decide)) (fun j => hS 34 j (by simp [aZ])) h.2.2.2.2⟩
/-- rows alike below m -/
def Rw (k : Nat) (m : Int32) (V W : Int32 → Int32) : Prop := ∀ n : Nat, n < k → nI n < m → V (nI n) = W (nI n)
theorem rw_0 {k : Nat} {V W : Int32 → Int32} (hk : k < 2 ^ 31) : Rw k 0 V W := fun n h1 h => absurd h (nI_pos (Nat.lt_trans h1 hk))
theorem rw_e {k : Nat} {m m' : Int32} {V V' W W' : Int32 → Int32} (h : Rw k m V W) (hm : m' = m) (e : ∀ j, V' j = V j) (f : ∀ j, W' j = W j) : Rw k m' V' W' := fun n h1 h2 => by
  rw [e, f]
  exact h n h1 (hm ▸ h2)
theorem rw_add {k : Nat} {m m' a : Int32} {V V' W W' : Int32 → Int32} (h : Rw k m V W) (hm : m ≤ 1000) (em : m' = m + 1) (hv : V' m = a) (hw : W' m = a) (e : ∀ j, ¬ j = m → V' j = V j) (f : ∀ j, ¬ j = m → W' j = W j) : Rw k m' V' W' := fun n h1 h2 => by
  by_cases q : nI n = m
  · rw [q, hv, hw]
  · rw [e _ q, f _ q]
    rw [em] at h2
    exact h n h1 ((lt_k1 hm h2).resolve_right q)
theorem rw_b {k : Nat} {m b : Int32} {V W : Int32 → Int32} (h : Rw k m V W) (hk : k < 2 ^ 31) (hm : m ≤ nI k) (b0 : 0 ≤ b) (b1 : b < m) : V b = W b := by
  obtain ⟨n, hn, e⟩ := nI_of (x := b) (Int32.not_lt.mpr b0)
  subst e
  exact h n ((nI_ltI hn hk).mp (Int32.lt_of_lt_of_le b1 hm)) b1
theorem Tk_c {m a : Int32} {V W : Int32 → Int32} (h : Rw 10 m V W) (hm : m ≤ 10) : Tk V m a ↔ Tk W m a :=
  ⟨fun ⟨b, b0, b1, b2⟩ => ⟨b, b0, b1, (rw_b h (by decide) hm b0 b1).symm.trans b2⟩, fun ⟨b, b0, b1, b2⟩ => ⟨b, b0, b1, (rw_b h (by decide) hm b0 b1).trans b2⟩⟩
theorem Bd_c {m f d : Int32} {V1 V2 V3 W1 W2 W3 : Int32 → Int32} (h1 : Rw 30 m V1 W1) (h2 : Rw 30 m V2 W2) (h3 : Rw 30 m V3 W3) (hm : m ≤ 30) : Bd V1 V2 V3 m f d ↔ Bd W1 W2 W3 m f d :=
  ⟨fun ⟨b, b0, b1, b2, b3⟩ => ⟨b, b0, b1, (rw_b h2 (by decide) hm b0 b1).symm.trans b2, by rw [← rw_b h1 (by decide) hm b0 b1, ← rw_b h3 (by decide) hm b0 b1]; exact b3⟩, fun ⟨b, b0, b1, b2, b3⟩ => ⟨b, b0, b1, (rw_b h2 (by decide) hm b0 b1).trans b2, by rw [rw_b h1 (by decide) hm b0 b1, rw_b h3 (by decide) hm b0 b1]; exact b3⟩⟩
theorem pb_r {V V' W W' : Int32 → Int32} {n n1 n2 nt a b c r s : Int32} (h : Rw 10 n V W) (hn : n ≤ 10) (p : PB V V' n n1 nt a b c r) (q : PB W W' n n2 nt a b c s) : r = s ∧ n1 = n2 ∧ Rw 10 n1 V' W' := by
  have e : CB V n nt a b c ↔ CB W n nt a b c := by
    unfold CB
    rw [Tk_c h hn]
  rcases p with ⟨p1, p2, p3, p4⟩ | ⟨p1, p2, p3, p4, p5⟩
  · rcases q with ⟨q1, q2, q3, q4⟩ | ⟨q1, q2, q3, q4, q5⟩
    · exact ⟨p1.trans q1.symm, p2.trans q2.symm, rw_e h p2 p3 q3⟩
    · exact absurd (e.mpr q5) p4
  · rcases q with ⟨q1, q2, q3, q4⟩ | ⟨q1, q2, q3, q4, q5⟩
    · exact absurd (e.mp p5) q4
    · exact ⟨p1.trans q1.symm, p2.trans q2.symm, rw_add h (Int32.le_trans hn (by decide)) p2 p3 q3 p4 q4⟩
theorem pa_r {V1 V2 V3 X1 X2 X3 W1 W2 W3 Y1 Y2 Y3 : Int32 → Int32} {F n n1 n2 a d b r s : Int32} (h1 : Rw 30 n V1 W1) (h2 : Rw 30 n V2 W2) (h3 : Rw 30 n V3 W3) (hn : n ≤ 30) (p : PA V1 V2 V3 X1 X2 X3 F n n1 a d b r) (q : PA W1 W2 W3 Y1 Y2 Y3 F n n2 a d b s) : r = s ∧ n1 = n2 ∧ Rw 30 n1 X1 Y1 ∧ Rw 30 n1 X2 Y2 ∧ Rw 30 n1 X3 Y3 := by
  have e : CA V1 V2 V3 F n a d b ↔ CA W1 W2 W3 F n a d b := by
    unfold CA CA0
    rw [Bd_c h1 h2 h3 hn, Bd_c h1 h2 h3 hn]
  have hm : n ≤ 1000 := Int32.le_trans hn (by decide)
  rcases p with ⟨p1, p2, p3, p4⟩ | ⟨p1, p2, ⟨p3, p4, p5⟩, p6, p7⟩
  · rcases q with ⟨q1, q2, q3, q4⟩ | ⟨q1, q2, q3, q4, q5⟩
    · exact ⟨p1.trans q1.symm, p2.trans q2.symm, rw_e h1 p2 (fun j => (p3 j).1) (fun j => (q3 j).1), rw_e h2 p2 (fun j => (p3 j).2.1) (fun j => (q3 j).2.1), rw_e h3 p2 (fun j => (p3 j).2.2) (fun j => (q3 j).2.2)⟩
    · exact absurd (e.mpr q5) p4
  · rcases q with ⟨q1, q2, q3, q4⟩ | ⟨q1, q2, ⟨q3, q4, q5⟩, q6, q7⟩
    · exact absurd (e.mp p7) q4
    · exact ⟨p1.trans q1.symm, p2.trans q2.symm, rw_add h1 hm p2 p3 q3 (fun j z => (p6 j z).1) (fun j z => (q6 j z).1), rw_add h2 hm p2 p4 q4 (fun j z => (p6 j z).2.1) (fun j z => (q6 j z).2.1), rw_add h3 hm p2 p5 q5 (fun j z => (p6 j z).2.2) (fun j z => (q6 j z).2.2)⟩
theorem pf_r {n n1 n2 a b c d r s : Int32} (p : PF n n1 a b c d r) (q : PF n n2 a b c d s) : r = s ∧ n1 = n2 := by unfold PF at p q; grind
theorem ps_r {n n1 n2 a b c r s : Int32} (p : PS n n1 a b c r) (q : PS n n2 a b c s) : r = s ∧ n1 = n2 := by unfold PS at p q; grind
theorem pg_r {n n1 n2 F f v r s : Int32} (p : PG n n1 F f v r) (q : PG n n2 F f v s) : r = s ∧ n1 = n2 := by unfold PG at p q; grind
theorem pt_r {n n1 n2 r s : Int32} (p : PT n n1 r) (q : PT n n2 s) : r = s ∧ n1 = n2 := by unfold PT at p q; grind
theorem pe_r {n n1 n2 k r s : Int32} (p : PE n n1 k r) (q : PE n n2 k s) : r = s ∧ n1 = n2 := by unfold PE at p q; grind
theorem bp_r {P Q : Prop} {r s : Int32} (e : P ↔ Q) (p : (r = 1 ∧ P) ∨ (r = 0 ∧ ¬ P)) (q : (s = 1 ∧ Q) ∨ (s = 0 ∧ ¬ Q)) : r = s := by grind
/-- the picture and the image alike -/
def Rp (A B : Mx) : Prop := A.1 49 0 = B.1 34 0 ∧ A.1 49 1 = B.1 34 1 ∧ A.1 49 2 = B.1 34 3 ∧ A.1 56 0 = B.1 34 2 ∧ A.1 56 3 = B.1 34 412 ∧ A.1 65 1 = B.1 34 321 ∧ Rw 10 (A.1 49 1) (A.1 50) (fun j => B.1 34 (166 + 3 * j)) ∧ Rw 30 (A.1 65 1) (A.1 67) (fun j => B.1 34 (322 + 3 * j)) ∧ Rw 30 (A.1 65 1) (A.1 68) (fun j => B.1 34 (323 + 3 * j)) ∧ Rw 30 (A.1 65 1) (A.1 69) (fun j => B.1 34 (324 + 3 * j))
/-- class and reference alike -/
def Rl (A B : Mx) : Prop := (A.1 12 0 = B.1 0 4 ∧ A.1 12 1 = B.1 0 5 ∧ A.1 12 2 = B.1 0 16 ∧ A.1 19 0 = B.1 0 9 ∧ A.1 19 3 = B.1 0 24 ∧ A.1 28 1 = B.1 0 19 ∧ A.1 0 2 = B.1 0 59 ∧ A.1 158 0 = B.1 0 30) ∧ (Rw 10 (A.1 12 1) (A.1 13) (B.1 3) ∧ Rw 30 (A.1 28 1) (A.1 30) (B.1 14) ∧ Rw 30 (A.1 28 1) (A.1 31) (B.1 15) ∧ Rw 30 (A.1 28 1) (A.1 32) (B.1 16)) ∧ (B.1 0 59 = 0 ∨ Rp A B)
theorem rp_of {A A' B B' : Mx} (h : Rp A B) (e0 : A'.1 49 0 = A.1 49 0) (e1 : A'.1 49 1 = A.1 49 1) (e2 : A'.1 49 2 = A.1 49 2) (e3 : A'.1 56 0 = A.1 56 0) (e4 : A'.1 56 3 = A.1 56 3) (e5 : A'.1 65 1 = A.1 65 1) (f0 : ∀ j, A'.1 50 j = A.1 50 j) (f1 : ∀ j, A'.1 67 j = A.1 67 j) (f2 : ∀ j, A'.1 68 j = A.1 68 j) (f3 : ∀ j, A'.1 69 j = A.1 69 j) (g : ∀ j, B'.1 34 j = B.1 34 j) : Rp A' B' := by
  obtain ⟨h0, h1, h2, h3, h4, h5, h6, h7, h8, h9⟩ := h
  exact ⟨by rw [e0, g]; exact h0, by rw [e1, g]; exact h1, by rw [e2, g]; exact h2, by rw [e3, g]; exact h3, by rw [e4, g]; exact h4, by rw [e5, g]; exact h5, rw_e h6 e1 f0 (fun j => g _), rw_e h7 e5 f1 (fun j => g _), rw_e h8 e5 f2 (fun j => g _), rw_e h9 e5 f3 (fun j => g _)⟩
theorem rl_pic {A A' B B' : Mx} (h : B.1 0 59 = 0 ∨ Rp A B) (h59 : B'.1 0 59 = B.1 0 59) (e0 : A'.1 49 0 = A.1 49 0) (e1 : A'.1 49 1 = A.1 49 1) (e2 : A'.1 49 2 = A.1 49 2) (e3 : A'.1 56 0 = A.1 56 0) (e4 : A'.1 56 3 = A.1 56 3) (e5 : A'.1 65 1 = A.1 65 1) (f0 : ∀ j, A'.1 50 j = A.1 50 j) (f1 : ∀ j, A'.1 67 j = A.1 67 j) (f2 : ∀ j, A'.1 68 j = A.1 68 j) (f3 : ∀ j, A'.1 69 j = A.1 69 j) (g : ∀ j, B'.1 34 j = B.1 34 j) : B'.1 0 59 = 0 ∨ Rp A' B' :=
  h.elim (fun z => Or.inl (h59.trans z)) (fun z => Or.inr (rp_of z e0 e1 e2 e3 e4 e5 f0 f1 f2 f3 g))
theorem rl_X_M {A A' B B' : Mx} (h : Rl A B) (hT : TX A) (hA : SX A A') (hB : SM B B')  : Rl A' B' := by
  obtain ⟨⟨r0, r1, r2, r3, r4, r5, r6, r7⟩, ⟨w0, w1, w2, w3⟩, im⟩ := h
  exact ⟨⟨by rw [hA 12 0 (by decide), hB 0 4 (by decide)]; exact r0, by rw [hA 12 1 (by decide), hB 0 5 (by decide)]; exact r1, by rw [hA 12 2 (by decide), hB 0 16 (by decide)]; exact r2, by rw [hA 19 0 (by decide), hB 0 9 (by decide)]; exact r3, by rw [hA 19 3 (by decide), hB 0 24 (by decide)]; exact r4, by rw [hA 28 1 (by decide), hB 0 19 (by decide)]; exact r5, by rw [hA 0 2 (by decide), hB 0 59 (by decide)]; exact r6, by rw [hA 158 0 (by decide), hB 0 30 (by decide)]; exact r7⟩, ⟨rw_e w0 (hA 12 1 (by decide)) (fun j => hA 13 j (by simp [aX])) (fun j => hB 3 j (by simp [aM])), rw_e w1 (hA 28 1 (by decide)) (fun j => hA 30 j (by simp [aX])) (fun j => hB 14 j (by simp [aM])), rw_e w2 (hA 28 1 (by decide)) (fun j => hA 31 j (by simp [aX])) (fun j => hB 15 j (by simp [aM])), rw_e w3 (hA 28 1 (by decide)) (fun j => hA 32 j (by simp [aX])) (fun j => hB 16 j (by simp [aM]))⟩, rl_pic im (hB 0 59 (by decide)) (hA 49 0 (by decide)) (hA 49 1 (by decide)) (hA 49 2 (by decide)) (hA 56 0 (by decide)) (hA 56 3 (by decide)) (hA 65 1 (by decide)) (fun j => hA 50 j (by simp [aX])) (fun j => hA 67 j (by simp [aX])) (fun j => hA 68 j (by simp [aX])) (fun j => hA 69 j (by simp [aX])) (fun j => hB 34 j (by simp [aM]))⟩
theorem rl_X_N {A A' B B' : Mx} (h : Rl A B) (hT : TX A) (hA : SX A A') (hB : SN B B')  : Rl A' B' := by
  obtain ⟨⟨r0, r1, r2, r3, r4, r5, r6, r7⟩, ⟨w0, w1, w2, w3⟩, im⟩ := h
  exact ⟨⟨by rw [hA 12 0 (by decide), hB 0 4 (by decide)]; exact r0, by rw [hA 12 1 (by decide), hB 0 5 (by decide)]; exact r1, by rw [hA 12 2 (by decide), hB 0 16 (by decide)]; exact r2, by rw [hA 19 0 (by decide), hB 0 9 (by decide)]; exact r3, by rw [hA 19 3 (by decide), hB 0 24 (by decide)]; exact r4, by rw [hA 28 1 (by decide), hB 0 19 (by decide)]; exact r5, by rw [hA 0 2 (by decide), hB 0 59 (by decide)]; exact r6, by rw [hA 158 0 (by decide), hB 0 30 (by decide)]; exact r7⟩, ⟨rw_e w0 (hA 12 1 (by decide)) (fun j => hA 13 j (by simp [aX])) (fun j => hB 3 j (by simp [aN])), rw_e w1 (hA 28 1 (by decide)) (fun j => hA 30 j (by simp [aX])) (fun j => hB 14 j (by simp [aN])), rw_e w2 (hA 28 1 (by decide)) (fun j => hA 31 j (by simp [aX])) (fun j => hB 15 j (by simp [aN])), rw_e w3 (hA 28 1 (by decide)) (fun j => hA 32 j (by simp [aX])) (fun j => hB 16 j (by simp [aN]))⟩, rl_pic im (hB 0 59 (by decide)) (hA 49 0 (by decide)) (hA 49 1 (by decide)) (hA 49 2 (by decide)) (hA 56 0 (by decide)) (hA 56 3 (by decide)) (hA 65 1 (by decide)) (fun j => hA 50 j (by simp [aX])) (fun j => hA 67 j (by simp [aX])) (fun j => hA 68 j (by simp [aX])) (fun j => hA 69 j (by simp [aX])) (fun j => hB 34 j (by simp [aN]))⟩
theorem rl_Xo_Mo {A A' B B' : Mx} (h : Rl A B) (hT : TX A) (hA : SXo A A') (hB : SMo B B')  : Rl A' B' := by
  obtain ⟨⟨r0, r1, r2, r3, r4, r5, r6, r7⟩, ⟨w0, w1, w2, w3⟩, im⟩ := h
  exact ⟨⟨by rw [hA 12 0 (by decide), hB 0 4 (by decide)]; exact r0, by rw [hA 12 1 (by decide), hB 0 5 (by decide)]; exact r1, by rw [hA 12 2 (by decide), hB 0 16 (by decide)]; exact r2, by rw [hA 19 0 (by decide), hB 0 9 (by decide)]; exact r3, by rw [hA 19 3 (by decide), hB 0 24 (by decide)]; exact r4, by rw [hA 28 1 (by decide), hB 0 19 (by decide)]; exact r5, by rw [hA 0 2 (by decide), hB 0 59 (by decide)]; exact r6, by rw [hA 158 0 (by decide), hB 0 30 (by decide)]; exact r7⟩, ⟨rw_e w0 (hA 12 1 (by decide)) (fun j => hA 13 j (by simp [aXo])) (fun j => hB 3 j (by simp [aMo])), rw_e w1 (hA 28 1 (by decide)) (fun j => hA 30 j (by simp [aXo])) (fun j => hB 14 j (by simp [aMo])), rw_e w2 (hA 28 1 (by decide)) (fun j => hA 31 j (by simp [aXo])) (fun j => hB 15 j (by simp [aMo])), rw_e w3 (hA 28 1 (by decide)) (fun j => hA 32 j (by simp [aXo])) (fun j => hB 16 j (by simp [aMo]))⟩, rl_pic im (hB 0 59 (by decide)) (hA 49 0 (by decide)) (hA 49 1 (by decide)) (hA 49 2 (by decide)) (hA 56 0 (by decide)) (hA 56 3 (by decide)) (hA 65 1 (by decide)) (fun j => hA 50 j (by simp [aXo])) (fun j => hA 67 j (by simp [aXo])) (fun j => hA 68 j (by simp [aXo])) (fun j => hA 69 j (by simp [aXo])) (fun j => hB 34 j (by simp [aMo]))⟩
theorem rl_Xl_Ml {A A' B B' : Mx} (h : Rl A B) (hT : TX A) (hA : SXl A A') (hB : SMl B B')  : Rl A' B' := by
  obtain ⟨⟨r0, r1, r2, r3, r4, r5, r6, r7⟩, ⟨w0, w1, w2, w3⟩, im⟩ := h
  exact ⟨⟨by rw [hA 12 0 (by decide), hB 0 4 (by decide)]; exact r0, by rw [hA 12 1 (by decide), hB 0 5 (by decide)]; exact r1, by rw [hA 12 2 (by decide), hB 0 16 (by decide)]; exact r2, by rw [hA 19 0 (by decide), hB 0 9 (by decide)]; exact r3, by rw [hA 19 3 (by decide), hB 0 24 (by decide)]; exact r4, by rw [hA 28 1 (by decide), hB 0 19 (by decide)]; exact r5, by rw [hA 0 2 (by decide), hB 0 59 (by decide)]; exact r6, by rw [hA 158 0 (by decide), hB 0 30 (by decide)]; exact r7⟩, ⟨rw_e w0 (hA 12 1 (by decide)) (fun j => hA 13 j (by simp [aXl])) (fun j => hB 3 j (by simp [aMl])), rw_e w1 (hA 28 1 (by decide)) (fun j => hA 30 j (by simp [aXl])) (fun j => hB 14 j (by simp [aMl])), rw_e w2 (hA 28 1 (by decide)) (fun j => hA 31 j (by simp [aXl])) (fun j => hB 15 j (by simp [aMl])), rw_e w3 (hA 28 1 (by decide)) (fun j => hA 32 j (by simp [aXl])) (fun j => hB 16 j (by simp [aMl]))⟩, rl_pic im (hB 0 59 (by decide)) (hA 49 0 (by decide)) (hA 49 1 (by decide)) (hA 49 2 (by decide)) (hA 56 0 (by decide)) (hA 56 3 (by decide)) (hA 65 1 (by decide)) (fun j => hA 50 j (by simp [aXl])) (fun j => hA 67 j (by simp [aXl])) (fun j => hA 68 j (by simp [aXl])) (fun j => hA 69 j (by simp [aXl])) (fun j => hB 34 j (by simp [aMl]))⟩
theorem rl_farm {A A' B B' : Mx} {a b c d r s : Int32} (h : Rl A B) (hT : TX A) (hA : SXf A A') (hB : SF B B') (p : PF (A.1 19 0) (A'.1 19 0) a b c d r) (q : PF (B.1 0 9) (B'.1 0 9) a b c d s) : r = s ∧ Rl A' B' := by
  obtain ⟨⟨r0, r1, r2, r3, r4, r5, r6, r7⟩, ⟨w0, w1, w2, w3⟩, im⟩ := h
  rw [← r3] at q
  have k := pf_r p q
  exact ⟨k.1, ⟨⟨by rw [hA 12 0 (by decide), hB 0 4 (by decide)]; exact r0, by rw [hA 12 1 (by decide), hB 0 5 (by decide)]; exact r1, by rw [hA 12 2 (by decide), hB 0 16 (by decide)]; exact r2, k.2, by rw [hA 19 3 (by decide), hB 0 24 (by decide)]; exact r4, by rw [hA 28 1 (by decide), hB 0 19 (by decide)]; exact r5, by rw [hA 0 2 (by decide), hB 0 59 (by decide)]; exact r6, by rw [hA 158 0 (by decide), hB 0 30 (by decide)]; exact r7⟩, ⟨rw_e w0 (hA 12 1 (by decide)) (fun j => hA 13 j (by simp [aXf])) (fun j => hB 3 j (by simp [aF])), rw_e w1 (hA 28 1 (by decide)) (fun j => hA 30 j (by simp [aXf])) (fun j => hB 14 j (by simp [aF])), rw_e w2 (hA 28 1 (by decide)) (fun j => hA 31 j (by simp [aXf])) (fun j => hB 15 j (by simp [aF])), rw_e w3 (hA 28 1 (by decide)) (fun j => hA 32 j (by simp [aXf])) (fun j => hB 16 j (by simp [aF]))⟩, rl_pic im (hB 0 59 (by decide)) (hA 49 0 (by decide)) (hA 49 1 (by decide)) (hA 49 2 (by decide)) (hA 56 0 (by decide)) (hA 56 3 (by decide)) (hA 65 1 (by decide)) (fun j => hA 50 j (by simp [aXf])) (fun j => hA 67 j (by simp [aXf])) (fun j => hA 68 j (by simp [aXf])) (fun j => hA 69 j (by simp [aXf])) (fun j => hB 34 j (by simp [aF]))⟩⟩
theorem rl_log {A A' B B' : Mx} {f v r s : Int32} (h : Rl A B) (hT : TX A) (hA : SXg A A') (hB : SMg B B') (p : PG (A.1 19 3) (A'.1 19 3) (A.1 19 0) f v r) (q : PG (B.1 0 24) (B'.1 0 24) (B.1 0 9) f v s) : r = s ∧ Rl A' B' := by
  obtain ⟨⟨r0, r1, r2, r3, r4, r5, r6, r7⟩, ⟨w0, w1, w2, w3⟩, im⟩ := h
  rw [← r3, ← r4] at q
  have k := pg_r p q
  exact ⟨k.1, ⟨⟨by rw [hA 12 0 (by decide), hB 0 4 (by decide)]; exact r0, by rw [hA 12 1 (by decide), hB 0 5 (by decide)]; exact r1, by rw [hA 12 2 (by decide), hB 0 16 (by decide)]; exact r2, by rw [hA 19 0 (by decide), hB 0 9 (by decide)]; exact r3, k.2, by rw [hA 28 1 (by decide), hB 0 19 (by decide)]; exact r5, by rw [hA 0 2 (by decide), hB 0 59 (by decide)]; exact r6, by rw [hA 158 0 (by decide), hB 0 30 (by decide)]; exact r7⟩, ⟨rw_e w0 (hA 12 1 (by decide)) (fun j => hA 13 j (by simp [aXg])) (fun j => hB 3 j (by simp [aMg])), rw_e w1 (hA 28 1 (by decide)) (fun j => hA 30 j (by simp [aXg])) (fun j => hB 14 j (by simp [aMg])), rw_e w2 (hA 28 1 (by decide)) (fun j => hA 31 j (by simp [aXg])) (fun j => hB 15 j (by simp [aMg])), rw_e w3 (hA 28 1 (by decide)) (fun j => hA 32 j (by simp [aXg])) (fun j => hB 16 j (by simp [aMg]))⟩, rl_pic im (hB 0 59 (by decide)) (hA 49 0 (by decide)) (hA 49 1 (by decide)) (hA 49 2 (by decide)) (hA 56 0 (by decide)) (hA 56 3 (by decide)) (hA 65 1 (by decide)) (fun j => hA 50 j (by simp [aXg])) (fun j => hA 67 j (by simp [aXg])) (fun j => hA 68 j (by simp [aXg])) (fun j => hA 69 j (by simp [aXg])) (fun j => hB 34 j (by simp [aMg]))⟩⟩
theorem rl_splice {A A' B B' : Mx} {a b c r s : Int32} (h : Rl A B) (hT : TX A) (hA : SXs A A') (hB : SMs B B') (p : PS (A.1 12 2) (A'.1 12 2) a b c r) (q : PS (B.1 0 16) (B'.1 0 16) a b c s) : r = s ∧ Rl A' B' := by
  obtain ⟨⟨r0, r1, r2, r3, r4, r5, r6, r7⟩, ⟨w0, w1, w2, w3⟩, im⟩ := h
  rw [← r2] at q
  have k := ps_r p q
  exact ⟨k.1, ⟨⟨by rw [hA 12 0 (by decide), hB 0 4 (by decide)]; exact r0, by rw [hA 12 1 (by decide), hB 0 5 (by decide)]; exact r1, k.2, by rw [hA 19 0 (by decide), hB 0 9 (by decide)]; exact r3, by rw [hA 19 3 (by decide), hB 0 24 (by decide)]; exact r4, by rw [hA 28 1 (by decide), hB 0 19 (by decide)]; exact r5, by rw [hA 0 2 (by decide), hB 0 59 (by decide)]; exact r6, by rw [hA 158 0 (by decide), hB 0 30 (by decide)]; exact r7⟩, ⟨rw_e w0 (hA 12 1 (by decide)) (fun j => hA 13 j (by simp [aXs])) (fun j => hB 3 j (by simp [aMs])), rw_e w1 (hA 28 1 (by decide)) (fun j => hA 30 j (by simp [aXs])) (fun j => hB 14 j (by simp [aMs])), rw_e w2 (hA 28 1 (by decide)) (fun j => hA 31 j (by simp [aXs])) (fun j => hB 15 j (by simp [aMs])), rw_e w3 (hA 28 1 (by decide)) (fun j => hA 32 j (by simp [aXs])) (fun j => hB 16 j (by simp [aMs]))⟩, rl_pic im (hB 0 59 (by decide)) (hA 49 0 (by decide)) (hA 49 1 (by decide)) (hA 49 2 (by decide)) (hA 56 0 (by decide)) (hA 56 3 (by decide)) (hA 65 1 (by decide)) (fun j => hA 50 j (by simp [aXs])) (fun j => hA 67 j (by simp [aXs])) (fun j => hA 68 j (by simp [aXs])) (fun j => hA 69 j (by simp [aXs])) (fun j => hB 34 j (by simp [aMs]))⟩⟩
theorem rl_feed {A A' B B' : Mx} {r s : Int32} (h : Rl A B) (hT : TX A) (hA : SXt A A') (hB : ST B B') (p : PT (A.1 158 0) (A'.1 158 0) r) (q : PT (B.1 0 30) (B'.1 0 30) s) : r = s ∧ Rl A' B' := by
  obtain ⟨⟨r0, r1, r2, r3, r4, r5, r6, r7⟩, ⟨w0, w1, w2, w3⟩, im⟩ := h
  rw [← r7] at q
  have k := pt_r p q
  exact ⟨k.1, ⟨⟨by rw [hA 12 0 (by decide), hB 0 4 (by decide)]; exact r0, by rw [hA 12 1 (by decide), hB 0 5 (by decide)]; exact r1, by rw [hA 12 2 (by decide), hB 0 16 (by decide)]; exact r2, by rw [hA 19 0 (by decide), hB 0 9 (by decide)]; exact r3, by rw [hA 19 3 (by decide), hB 0 24 (by decide)]; exact r4, by rw [hA 28 1 (by decide), hB 0 19 (by decide)]; exact r5, by rw [hA 0 2 (by decide), hB 0 59 (by decide)]; exact r6, k.2⟩, ⟨rw_e w0 (hA 12 1 (by decide)) (fun j => hA 13 j (by simp [aXt])) (fun j => hB 3 j (by simp [aT])), rw_e w1 (hA 28 1 (by decide)) (fun j => hA 30 j (by simp [aXt])) (fun j => hB 14 j (by simp [aT])), rw_e w2 (hA 28 1 (by decide)) (fun j => hA 31 j (by simp [aXt])) (fun j => hB 15 j (by simp [aT])), rw_e w3 (hA 28 1 (by decide)) (fun j => hA 32 j (by simp [aXt])) (fun j => hB 16 j (by simp [aT]))⟩, rl_pic im (hB 0 59 (by decide)) (hA 49 0 (by decide)) (hA 49 1 (by decide)) (hA 49 2 (by decide)) (hA 56 0 (by decide)) (hA 56 3 (by decide)) (hA 65 1 (by decide)) (fun j => hA 50 j (by simp [aXt])) (fun j => hA 67 j (by simp [aXt])) (fun j => hA 68 j (by simp [aXt])) (fun j => hA 69 j (by simp [aXt])) (fun j => hB 34 j (by simp [aT]))⟩⟩
theorem rl_end {A A' B B' : Mx} {n r s : Int32} (h : Rl A B) (hT : TX A) (hA : SXt A A') (hB : SMt B B') (p : PE (A.1 158 0) (A'.1 158 0) n r) (q : PE (B.1 0 30) (B'.1 0 30) n s) : r = s ∧ Rl A' B' := by
  obtain ⟨⟨r0, r1, r2, r3, r4, r5, r6, r7⟩, ⟨w0, w1, w2, w3⟩, im⟩ := h
  rw [← r7] at q
  have k := pe_r p q
  exact ⟨k.1, ⟨⟨by rw [hA 12 0 (by decide), hB 0 4 (by decide)]; exact r0, by rw [hA 12 1 (by decide), hB 0 5 (by decide)]; exact r1, by rw [hA 12 2 (by decide), hB 0 16 (by decide)]; exact r2, by rw [hA 19 0 (by decide), hB 0 9 (by decide)]; exact r3, by rw [hA 19 3 (by decide), hB 0 24 (by decide)]; exact r4, by rw [hA 28 1 (by decide), hB 0 19 (by decide)]; exact r5, by rw [hA 0 2 (by decide), hB 0 59 (by decide)]; exact r6, k.2⟩, ⟨rw_e w0 (hA 12 1 (by decide)) (fun j => hA 13 j (by simp [aXt])) (fun j => hB 3 j (by simp [aMt])), rw_e w1 (hA 28 1 (by decide)) (fun j => hA 30 j (by simp [aXt])) (fun j => hB 14 j (by simp [aMt])), rw_e w2 (hA 28 1 (by decide)) (fun j => hA 31 j (by simp [aXt])) (fun j => hB 15 j (by simp [aMt])), rw_e w3 (hA 28 1 (by decide)) (fun j => hA 32 j (by simp [aXt])) (fun j => hB 16 j (by simp [aMt]))⟩, rl_pic im (hB 0 59 (by decide)) (hA 49 0 (by decide)) (hA 49 1 (by decide)) (hA 49 2 (by decide)) (hA 56 0 (by decide)) (hA 56 3 (by decide)) (hA 65 1 (by decide)) (fun j => hA 50 j (by simp [aXt])) (fun j => hA 67 j (by simp [aXt])) (fun j => hA 68 j (by simp [aXt])) (fun j => hA 69 j (by simp [aXt])) (fun j => hB 34 j (by simp [aMt]))⟩⟩
theorem rl_bucket {A A' B B' : Mx} {a b c r s : Int32} (h : Rl A B) (hT : TX A) (hA : SXb A A') (hB : SMb B B') (p : PB (A.1 13) (A'.1 13) (A.1 12 1) (A'.1 12 1) (A.1 12 0) a b c r) (q : PB (B.1 3) (B'.1 3) (B.1 0 5) (B'.1 0 5) (B.1 0 4) a b c s) : r = s ∧ Rl A' B' := by
  obtain ⟨⟨r0, r1, r2, r3, r4, r5, r6, r7⟩, ⟨w0, w1, w2, w3⟩, im⟩ := h
  rw [← r0, ← r1] at q
  have k := pb_r w0 (tX_12_1 hT).2 p q
  exact ⟨k.1, ⟨⟨by rw [hA 12 0 (by decide), hB 0 4 (by decide)]; exact r0, k.2.1, by rw [hA 12 2 (by decide), hB 0 16 (by decide)]; exact r2, by rw [hA 19 0 (by decide), hB 0 9 (by decide)]; exact r3, by rw [hA 19 3 (by decide), hB 0 24 (by decide)]; exact r4, by rw [hA 28 1 (by decide), hB 0 19 (by decide)]; exact r5, by rw [hA 0 2 (by decide), hB 0 59 (by decide)]; exact r6, by rw [hA 158 0 (by decide), hB 0 30 (by decide)]; exact r7⟩, ⟨k.2.2, rw_e w1 (hA 28 1 (by decide)) (fun j => hA 30 j (by simp [aXb])) (fun j => hB 14 j (by simp [aMb])), rw_e w2 (hA 28 1 (by decide)) (fun j => hA 31 j (by simp [aXb])) (fun j => hB 15 j (by simp [aMb])), rw_e w3 (hA 28 1 (by decide)) (fun j => hA 32 j (by simp [aXb])) (fun j => hB 16 j (by simp [aMb]))⟩, rl_pic im (hB 0 59 (by decide)) (hA 49 0 (by decide)) (hA 49 1 (by decide)) (hA 49 2 (by decide)) (hA 56 0 (by decide)) (hA 56 3 (by decide)) (hA 65 1 (by decide)) (fun j => hA 50 j (by simp [aXb])) (fun j => hA 67 j (by simp [aXb])) (fun j => hA 68 j (by simp [aXb])) (fun j => hA 69 j (by simp [aXb])) (fun j => hB 34 j (by simp [aMb]))⟩⟩
theorem rl_absent {A A' B B' : Mx} {a d b r s : Int32} (h : Rl A B) (hT : TX A) (hA : SXa A A') (hB : SMa B B') (p : PA (A.1 30) (A.1 31) (A.1 32) (A'.1 30) (A'.1 31) (A'.1 32) (A.1 19 0) (A.1 28 1) (A'.1 28 1) a d b r) (q : PA (B.1 14) (B.1 15) (B.1 16) (B'.1 14) (B'.1 15) (B'.1 16) (B.1 0 9) (B.1 0 19) (B'.1 0 19) a d b s) : r = s ∧ Rl A' B' := by
  obtain ⟨⟨r0, r1, r2, r3, r4, r5, r6, r7⟩, ⟨w0, w1, w2, w3⟩, im⟩ := h
  rw [← r3, ← r5] at q
  have k := pa_r w1 w2 w3 (tX_28_1 hT).2 p q
  exact ⟨k.1, ⟨⟨by rw [hA 12 0 (by decide), hB 0 4 (by decide)]; exact r0, by rw [hA 12 1 (by decide), hB 0 5 (by decide)]; exact r1, by rw [hA 12 2 (by decide), hB 0 16 (by decide)]; exact r2, by rw [hA 19 0 (by decide), hB 0 9 (by decide)]; exact r3, by rw [hA 19 3 (by decide), hB 0 24 (by decide)]; exact r4, k.2.1, by rw [hA 0 2 (by decide), hB 0 59 (by decide)]; exact r6, by rw [hA 158 0 (by decide), hB 0 30 (by decide)]; exact r7⟩, ⟨rw_e w0 (hA 12 1 (by decide)) (fun j => hA 13 j (by simp [aXa])) (fun j => hB 3 j (by simp [aMa])), k.2.2.1, k.2.2.2.1, k.2.2.2.2⟩, rl_pic im (hB 0 59 (by decide)) (hA 49 0 (by decide)) (hA 49 1 (by decide)) (hA 49 2 (by decide)) (hA 56 0 (by decide)) (hA 56 3 (by decide)) (hA 65 1 (by decide)) (fun j => hA 50 j (by simp [aXa])) (fun j => hA 67 j (by simp [aXa])) (fun j => hA 68 j (by simp [aXa])) (fun j => hA 69 j (by simp [aXa])) (fun j => hB 34 j (by simp [aMa]))⟩⟩
theorem rl_text {A A' B B' : Mx} (h : Rl A B) (hT : TX A) (hA : SXt A A') (hB : SY (up B 0 30 0) B') (p : A'.1 158 0 = 0) : Rl A' B' := by
  obtain ⟨⟨r0, r1, r2, r3, r4, r5, r6, r7⟩, ⟨w0, w1, w2, w3⟩, im⟩ := h
  obtain ⟨k, hB⟩ := sy_t hB
  exact ⟨⟨by rw [hA 12 0 (by decide), hB 0 4 (by decide) (by decide)]; exact r0, by rw [hA 12 1 (by decide), hB 0 5 (by decide) (by decide)]; exact r1, by rw [hA 12 2 (by decide), hB 0 16 (by decide) (by decide)]; exact r2, by rw [hA 19 0 (by decide), hB 0 9 (by decide) (by decide)]; exact r3, by rw [hA 19 3 (by decide), hB 0 24 (by decide) (by decide)]; exact r4, by rw [hA 28 1 (by decide), hB 0 19 (by decide) (by decide)]; exact r5, by rw [hA 0 2 (by decide), hB 0 59 (by decide) (by decide)]; exact r6, p.trans k.symm⟩, ⟨rw_e w0 (hA 12 1 (by decide)) (fun j => hA 13 j (by simp [aXt])) (fun j => hB 3 j (by simp [aY]) (by simp)), rw_e w1 (hA 28 1 (by decide)) (fun j => hA 30 j (by simp [aXt])) (fun j => hB 14 j (by simp [aY]) (by simp)), rw_e w2 (hA 28 1 (by decide)) (fun j => hA 31 j (by simp [aXt])) (fun j => hB 15 j (by simp [aY]) (by simp)), rw_e w3 (hA 28 1 (by decide)) (fun j => hA 32 j (by simp [aXt])) (fun j => hB 16 j (by simp [aY]) (by simp))⟩, rl_pic im (hB 0 59 (by decide) (by decide)) (hA 49 0 (by decide)) (hA 49 1 (by decide)) (hA 49 2 (by decide)) (hA 56 0 (by decide)) (hA 56 3 (by decide)) (hA 65 1 (by decide)) (fun j => hA 50 j (by simp [aXt])) (fun j => hA 67 j (by simp [aXt])) (fun j => hA 68 j (by simp [aXt])) (fun j => hA 69 j (by simp [aXt])) (fun j => hB 34 j (by simp [aY]) (by simp))⟩
theorem rl_notches {A A' B B' : Mx} {n r s : Int32} (h : Rl A B) (hT : TX A) (hA : SXn A A') (hB : SZ B B') (e : r = s) (p1 : r = 1 → A'.1 12 0 = n ∧ A'.1 12 1 = 0 ∧ A'.1 12 2 = 0 ∧ A'.1 19 0 = 0 ∧ A'.1 19 3 = 0 ∧ A'.1 28 1 = 0) (p0 : r = 0 → A' = A) (q1 : s = 1 → NZ B' n) (q0 : s = 0 → SM B B') (hr : r = 0 ∨ r = 1) : Rl A' B' := by
  rcases hr with hr | hr
  · have e1 := p0 hr
    subst e1
    exact rl_X_M h hT Sx.rf (q0 (e.symm.trans hr))
  · obtain ⟨⟨r0, r1, r2, r3, r4, r5, r6, r7⟩, ⟨w0, w1, w2, w3⟩, im⟩ := h
    obtain ⟨a0, a1, a2, a3, a4, a5⟩ := p1 hr
    obtain ⟨-, -, b0, b1, b2, b3, b4, b5⟩ := q1 (e.symm.trans hr)
    exact ⟨⟨a0.trans b0.symm, a1.trans b1.symm, a2.trans b2.symm, a3.trans b3.symm, a4.trans b4.symm, a5.trans b5.symm, by rw [hA 0 2 (by decide), hB 0 59 (by decide)]; exact r6, by rw [hA 158 0 (by decide), hB 0 30 (by decide)]; exact r7⟩, ⟨by rw [a1]; exact rw_0 (by decide), by rw [a5]; exact rw_0 (by decide), by rw [a5]; exact rw_0 (by decide), by rw [a5]; exact rw_0 (by decide)⟩, rl_pic im (hB 0 59 (by decide)) (hA 49 0 (by decide)) (hA 49 1 (by decide)) (hA 49 2 (by decide)) (hA 56 0 (by decide)) (hA 56 3 (by decide)) (hA 65 1 (by decide)) (fun j => hA 50 j (by simp [aXn])) (fun j => hA 67 j (by simp [aXn])) (fun j => hA 68 j (by simp [aXn])) (fun j => hA 69 j (by simp [aXn])) (fun j => hB 34 j (by simp [aZ]))⟩
theorem c_nI (n e f : Nat) : nI e + nI f * nI n = nI (e + f * n) := by
  rw [← nI_add]
  exact congrArg _ (Int32.ofNat_mul f n).symm
theorem nI_in2 {n k : Nat} (h : n < k) (hk : k < 2 ^ 31) : 0 ≤ nI n ∧ nI n < nI k := ⟨nI_pos' (by omega), nI_lt h hk⟩
theorem iat_0 {M : Mx} {n : Nat} (h : n < 10) : iat M (166 + 3 * n) = M.1 3 (nI n) := by
  unfold iat
  rw [ic_n0 h]
theorem wq_r0 {n : Nat} (h : n < 10) : wq (166 + 3 * n) = true := by
  have key : ∀ q : Fin 10, wq (166 + 3 * q.val) = true := by decide +kernel
  exact key ⟨n, h⟩
theorem im_r0 {M : Mx} {n : Nat} : M.1 34 (166 + 3 * nI n) = M.1 34 (nI (166 + 3 * n)) := congrArg _ ((c_nI n 166 3).trans (congrArg nI (by omega)))
theorem iat_1 {M : Mx} {n : Nat} (h : n < 30) : iat M (322 + 3 * n) = M.1 14 (nI n) := by
  unfold iat
  rw [ic_a0 h]
theorem wq_r1 {n : Nat} (h : n < 30) : wq (322 + 3 * n) = true := by
  have key : ∀ q : Fin 30, wq (322 + 3 * q.val) = true := by decide +kernel
  exact key ⟨n, h⟩
theorem im_r1 {M : Mx} {n : Nat} : M.1 34 (322 + 3 * nI n) = M.1 34 (nI (322 + 3 * n)) := congrArg _ ((c_nI n 322 3).trans (congrArg nI (by omega)))
theorem iat_2 {M : Mx} {n : Nat} (h : n < 30) : iat M (322 + 3 * n + 1) = M.1 15 (nI n) := by
  unfold iat
  rw [ic_a1 h]
theorem wq_r2 {n : Nat} (h : n < 30) : wq (322 + 3 * n + 1) = true := by
  have key : ∀ q : Fin 30, wq (322 + 3 * q.val + 1) = true := by decide +kernel
  exact key ⟨n, h⟩
theorem im_r2 {M : Mx} {n : Nat} : M.1 34 (323 + 3 * nI n) = M.1 34 (nI (322 + 3 * n + 1)) := congrArg _ ((c_nI n 323 3).trans (congrArg nI (by omega)))
theorem iat_3 {M : Mx} {n : Nat} (h : n < 30) : iat M (322 + 3 * n + 1 + 1) = M.1 16 (nI n) := by
  unfold iat
  rw [ic_a2 h]
theorem wq_r3 {n : Nat} (h : n < 30) : wq (322 + 3 * n + 1 + 1) = true := by
  have key : ∀ q : Fin 30, wq (322 + 3 * q.val + 1 + 1) = true := by decide +kernel
  exact key ⟨n, h⟩
theorem im_r3 {M : Mx} {n : Nat} : M.1 34 (324 + 3 * nI n) = M.1 34 (nI (322 + 3 * n + 1 + 1)) := congrArg _ ((c_nI n 324 3).trans (congrArg nI (by omega)))
theorem one_of {x : Int32} (h0 : 0 ≤ x) (h1 : x ≤ 1) (h : ¬ x = 0) : x = 1 := by grind
theorem rl_image {A A' B B' : Mx} {t r s : Int32} (h : Rl A B) (hT : TX A) (hA : SXi A A') (hB : SQ B B') (h01 : A.1 0 2 ≤ 1) (h00 : 0 ≤ A.1 0 2) (p : PI A A' t r) (q : PJ B B' t s) : r = s ∧ Rl A' B' := by
  obtain ⟨⟨r0, r1, r2, r3, r4, r5, r6, r7⟩, ⟨w0, w1, w2, w3⟩, im⟩ := id h
  have t7 : A'.1 158 0 = B'.1 0 30 := by rw [hA 158 0 (by decide), hB 0 30 (by decide)]; exact r7
  rcases p with ⟨p0, p1, p2, p3, p4⟩ | ⟨p0, p1, p2, p3⟩ | ⟨p0, p1, p2, p3, p4, p5⟩
  · rcases q with ⟨q0, q1, q2, q3⟩ | ⟨q0, q1, q2, q3, q4⟩
    · exact absurd q1 p0
    · have q3 := q3 p0
      have v0 : A'.1 12 0 = A.1 12 0 := p4 12 0 (by simp [isV])
      have u0 : A'.1 49 0 = A.1 12 0 := p3 12 0 (by simp [isV])
      have m0 : B'.1 0 4 = B.1 0 4 := q3 0 (by decide)
      have i0 : B'.1 0 4 = B'.1 34 0 := q2 0 (by decide)
      have v1 : A'.1 12 1 = A.1 12 1 := p4 12 1 (by simp [isV])
      have u1 : A'.1 49 1 = A.1 12 1 := p3 12 1 (by simp [isV])
      have m1 : B'.1 0 5 = B.1 0 5 := q3 1 (by decide)
      have i1 : B'.1 0 5 = B'.1 34 1 := q2 1 (by decide)
      have v2 : A'.1 12 2 = A.1 12 2 := p4 12 2 (by simp [isV])
      have u2 : A'.1 49 2 = A.1 12 2 := p3 12 2 (by simp [isV])
      have m2 : B'.1 0 16 = B.1 0 16 := q3 3 (by decide)
      have i2 : B'.1 0 16 = B'.1 34 3 := q2 3 (by decide)
      have v3 : A'.1 19 0 = A.1 19 0 := p4 19 0 (by simp [isV])
      have u3 : A'.1 56 0 = A.1 19 0 := p3 19 0 (by simp [isV])
      have m3 : B'.1 0 9 = B.1 0 9 := q3 2 (by decide)
      have i3 : B'.1 0 9 = B'.1 34 2 := q2 2 (by decide)
      have v4 : A'.1 19 3 = A.1 19 3 := p4 19 3 (by simp [isV])
      have u4 : A'.1 56 3 = A.1 19 3 := p3 19 3 (by simp [isV])
      have m4 : B'.1 0 24 = B.1 0 24 := q3 412 (by decide)
      have i4 : B'.1 0 24 = B'.1 34 412 := q2 412 (by decide)
      have v5 : A'.1 28 1 = A.1 28 1 := p4 28 1 (by simp [isV])
      have u5 : A'.1 65 1 = A.1 28 1 := p3 28 1 (by simp [isV])
      have m5 : B'.1 0 19 = B.1 0 19 := q3 321 (by decide)
      have i5 : B'.1 0 19 = B'.1 34 321 := q2 321 (by decide)
      exact ⟨p1.trans q0.symm, ⟨by rw [v0, m0]; exact r0, by rw [v1, m1]; exact r1, by rw [v2, m2]; exact r2, by rw [v3, m3]; exact r3, by rw [v4, m4]; exact r4, by rw [v5, m5]; exact r5, p2.trans q1.symm, t7⟩, ⟨fun n n1 n2 => by
        rw [p4 13 (nI n) (by have z := nI_in2 n1 (by decide); simp [isV]; exact z), ← iat_0 (M := B') n1, q3 _ (wq_r0 n1), iat_0 n1]
        exact w0 n n1 (v1 ▸ n2),
      fun n n1 n2 => by
        rw [p4 30 (nI n) (by have z := nI_in2 n1 (by decide); simp [isV]; exact z), ← iat_1 (M := B') n1, q3 _ (wq_r1 n1), iat_1 n1]
        exact w1 n n1 (v5 ▸ n2),
      fun n n1 n2 => by
        rw [p4 31 (nI n) (by have z := nI_in2 n1 (by decide); simp [isV]; exact z), ← iat_2 (M := B') n1, q3 _ (wq_r2 n1), iat_2 n1]
        exact w2 n n1 (v5 ▸ n2),
      fun n n1 n2 => by
        rw [p4 32 (nI n) (by have z := nI_in2 n1 (by decide); simp [isV]; exact z), ← iat_3 (M := B') n1, q3 _ (wq_r3 n1), iat_3 n1]
        exact w3 n n1 (v5 ▸ n2)⟩, Or.inr ⟨by rw [u0, ← i0, m0]; exact r0, by rw [u1, ← i1, m1]; exact r1, by rw [u2, ← i2, m2]; exact r2, by rw [u3, ← i3, m3]; exact r3, by rw [u4, ← i4, m4]; exact r4, by rw [u5, ← i5, m5]; exact r5, fun n n1 n2 => by
        rw [show A'.1 50 (nI n) = A.1 13 (nI n) from p3 13 (nI n) (by have z := nI_in2 n1 (by decide); simp [isV]; exact z)]
        show _ = B'.1 34 (166 + 3 * nI n)
        rw [im_r0, ← q2 _ (wq_r0 n1), q3 _ (wq_r0 n1), iat_0 n1]
        exact w0 n n1 (u1 ▸ n2),
      fun n n1 n2 => by
        rw [show A'.1 67 (nI n) = A.1 30 (nI n) from p3 30 (nI n) (by have z := nI_in2 n1 (by decide); simp [isV]; exact z)]
        show _ = B'.1 34 (322 + 3 * nI n)
        rw [im_r1, ← q2 _ (wq_r1 n1), q3 _ (wq_r1 n1), iat_1 n1]
        exact w1 n n1 (u5 ▸ n2),
      fun n n1 n2 => by
        rw [show A'.1 68 (nI n) = A.1 31 (nI n) from p3 31 (nI n) (by have z := nI_in2 n1 (by decide); simp [isV]; exact z)]
        show _ = B'.1 34 (323 + 3 * nI n)
        rw [im_r2, ← q2 _ (wq_r2 n1), q3 _ (wq_r2 n1), iat_2 n1]
        exact w2 n n1 (u5 ▸ n2),
      fun n n1 n2 => by
        rw [show A'.1 69 (nI n) = A.1 32 (nI n) from p3 32 (nI n) (by have z := nI_in2 n1 (by decide); simp [isV]; exact z)]
        show _ = B'.1 34 (324 + 3 * nI n)
        rw [im_r3, ← q2 _ (wq_r3 n1), q3 _ (wq_r3 n1), iat_3 n1]
        exact w3 n n1 (u5 ▸ n2)⟩⟩
  · rcases q with ⟨q0, q1, q2, q3⟩ | ⟨q0, q1, q2, q3, q4⟩
    · subst p3
      exact ⟨p2.trans q0.symm, rl_X_M h hT Sx.rf q3⟩
    · exact absurd (r6.symm.trans p1) (q4 p0).1
  · rcases q with ⟨q0, q1, q2, q3⟩ | ⟨q0, q1, q2, q3, q4⟩
    · exact absurd (r6.trans q2) p1
    · obtain ⟨h0, h1, h2, h3, h4, h5, h6, h7, h8, h9⟩ := im.resolve_left (q4 p0).1
      have q5 := (q4 p0).2
      have v0 : A'.1 12 0 = A.1 49 0 := p4 12 0 (by simp [isV])
      have u0 : A'.1 49 0 = A.1 49 0 := p5 12 0 (by simp [isV])
      have i0 : B'.1 0 4 = B'.1 34 0 := q2 0 (by decide)
      have v1 : A'.1 12 1 = A.1 49 1 := p4 12 1 (by simp [isV])
      have u1 : A'.1 49 1 = A.1 49 1 := p5 12 1 (by simp [isV])
      have i1 : B'.1 0 5 = B'.1 34 1 := q2 1 (by decide)
      have v2 : A'.1 12 2 = A.1 49 2 := p4 12 2 (by simp [isV])
      have u2 : A'.1 49 2 = A.1 49 2 := p5 12 2 (by simp [isV])
      have i2 : B'.1 0 16 = B'.1 34 3 := q2 3 (by decide)
      have v3 : A'.1 19 0 = A.1 56 0 := p4 19 0 (by simp [isV])
      have u3 : A'.1 56 0 = A.1 56 0 := p5 19 0 (by simp [isV])
      have i3 : B'.1 0 9 = B'.1 34 2 := q2 2 (by decide)
      have v4 : A'.1 19 3 = A.1 56 3 := p4 19 3 (by simp [isV])
      have u4 : A'.1 56 3 = A.1 56 3 := p5 19 3 (by simp [isV])
      have i4 : B'.1 0 24 = B'.1 34 412 := q2 412 (by decide)
      have v5 : A'.1 28 1 = A.1 65 1 := p4 28 1 (by simp [isV])
      have u5 : A'.1 65 1 = A.1 65 1 := p5 28 1 (by simp [isV])
      have i5 : B'.1 0 19 = B'.1 34 321 := q2 321 (by decide)
      have b1 : A.1 0 2 = 1 := one_of h00 h01 p1
      exact ⟨p2.trans q0.symm, ⟨by rw [v0, i0, q5]; exact h0, by rw [v1, i1, q5]; exact h1, by rw [v2, i2, q5]; exact h2, by rw [v3, i3, q5]; exact h3, by rw [v4, i4, q5]; exact h4, by rw [v5, i5, q5]; exact h5, (p3.trans b1).trans q1.symm, t7⟩, ⟨fun n n1 n2 => by
        rw [show A'.1 13 (nI n) = A.1 50 (nI n) from p4 13 (nI n) (by have z := nI_in2 n1 (by decide); simp [isV]; exact z), ← iat_0 (M := B') n1, q2 _ (wq_r0 n1), q5, ← im_r0]
        exact h6 n n1 (v1 ▸ n2),
      fun n n1 n2 => by
        rw [show A'.1 30 (nI n) = A.1 67 (nI n) from p4 30 (nI n) (by have z := nI_in2 n1 (by decide); simp [isV]; exact z), ← iat_1 (M := B') n1, q2 _ (wq_r1 n1), q5, ← im_r1]
        exact h7 n n1 (v5 ▸ n2),
      fun n n1 n2 => by
        rw [show A'.1 31 (nI n) = A.1 68 (nI n) from p4 31 (nI n) (by have z := nI_in2 n1 (by decide); simp [isV]; exact z), ← iat_2 (M := B') n1, q2 _ (wq_r2 n1), q5, ← im_r2]
        exact h8 n n1 (v5 ▸ n2),
      fun n n1 n2 => by
        rw [show A'.1 32 (nI n) = A.1 69 (nI n) from p4 32 (nI n) (by have z := nI_in2 n1 (by decide); simp [isV]; exact z), ← iat_3 (M := B') n1, q2 _ (wq_r3 n1), q5, ← im_r3]
        exact h9 n n1 (v5 ▸ n2)⟩, Or.inr ⟨by rw [u0, q5]; exact h0, by rw [u1, q5]; exact h1, by rw [u2, q5]; exact h2, by rw [u3, q5]; exact h3, by rw [u4, q5]; exact h4, by rw [u5, q5]; exact h5, fun n n1 n2 => by
        rw [show A'.1 50 (nI n) = A.1 50 (nI n) from p5 13 (nI n) (by have z := nI_in2 n1 (by decide); simp [isV]; exact z)]
        show _ = B'.1 34 (166 + 3 * nI n)
        rw [q5]
        exact h6 n n1 (u1 ▸ n2),
      fun n n1 n2 => by
        rw [show A'.1 67 (nI n) = A.1 67 (nI n) from p5 30 (nI n) (by have z := nI_in2 n1 (by decide); simp [isV]; exact z)]
        show _ = B'.1 34 (322 + 3 * nI n)
        rw [q5]
        exact h7 n n1 (u5 ▸ n2),
      fun n n1 n2 => by
        rw [show A'.1 68 (nI n) = A.1 68 (nI n) from p5 31 (nI n) (by have z := nI_in2 n1 (by decide); simp [isV]; exact z)]
        show _ = B'.1 34 (323 + 3 * nI n)
        rw [q5]
        exact h8 n n1 (u5 ▸ n2),
      fun n n1 n2 => by
        rw [show A'.1 69 (nI n) = A.1 69 (nI n) from p5 32 (nI n) (by have z := nI_in2 n1 (by decide); simp [isV]; exact z)]
        show _ = B'.1 34 (324 + 3 * nI n)
        rw [q5]
        exact h9 n n1 (u5 ▸ n2)⟩⟩
theorem bp_01 {P : Prop} {r : Int32} (h : (r = 1 ∧ P) ∨ (r = 0 ∧ ¬ P)) : r = 0 ∨ r = 1 := h.elim (fun z => Or.inr z.1) (fun z => Or.inl z.1)
theorem nt_r {n r s : Int32} (p : (r = 1 ∧ (8 ≤ n ∧ n ≤ 40 ∧ n - n / 2 * 2 = 0)) ∨ (r = 0 ∧ ¬ (8 ≤ n ∧ n ≤ 40 ∧ n - n / 2 * 2 = 0))) (q : (s = 1 ∧ (8 ≤ n ∧ n ≤ 40 ∧ ¬ n - n / 2 * 2 = 1)) ∨ (s = 0 ∧ ¬ (8 ≤ n ∧ n ≤ 40 ∧ ¬ n - n / 2 * 2 = 1))) : r = s := by
  have hp := fun a b => par2 (n := n) a b
  grind
def lgR (lo hi : Int32) (VF VS : Int32 → Int32) (g f : Int32) : Prop := (∀ k : Nat, k < 40 → nI k < g → VF (nI k) = f → lo ≤ VS (nI k) ∧ VS (nI k) ≤ hi) ∧ (lo = 61 ∨ ∃ k : Nat, k < 40 ∧ nI k < g ∧ VF (nI k) = f ∧ VS (nI k) = lo) ∧ (hi = 0 ∨ ∃ k : Nat, k < 40 ∧ nI k < g ∧ VF (nI k) = f ∧ VS (nI k) = hi)
/-- fewest and most of the logs -/
def Lg (lo hi VF VS : Int32 → Int32) (g : Int32) : Prop := ∀ f : Nat, f < 9 → lgR (lo (nI f)) (hi (nI f)) VF VS g (nI f)
theorem lgR_e {lo hi lo' hi' : Int32} {VF VS VF' VS' : Int32 → Int32} {g g' f : Int32} (h : lgR lo hi VF VS g f) (e1 : lo' = lo) (e2 : hi' = hi) (e3 : ∀ k : Nat, k < 40 → VF' (nI k) = VF (nI k)) (e4 : ∀ k : Nat, k < 40 → VS' (nI k) = VS (nI k)) (e5 : g' = g) : lgR lo' hi' VF' VS' g' f := by
  subst e1 e2 e5
  obtain ⟨h1, h2, h3⟩ := h
  refine ⟨fun k hk hg e => ?_, h2.imp id (fun ⟨k, q1, q2, q3, q4⟩ => ⟨k, q1, q2, (e3 k q1).trans q3, (e4 k q1).trans q4⟩), h3.imp id (fun ⟨k, q1, q2, q3, q4⟩ => ⟨k, q1, q2, (e3 k q1).trans q3, (e4 k q1).trans q4⟩)⟩
  rw [e4 k hk]
  exact h1 k hk hg ((e3 k hk).symm.trans e)
theorem lg_e {lo hi VF VS lo' hi' VF' VS' : Int32 → Int32} {g g' : Int32} (h : Lg lo hi VF VS g) (e1 : ∀ f : Nat, f < 9 → lo' (nI f) = lo (nI f)) (e2 : ∀ f : Nat, f < 9 → hi' (nI f) = hi (nI f)) (e3 : ∀ k : Nat, k < 40 → VF' (nI k) = VF (nI k)) (e4 : ∀ k : Nat, k < 40 → VS' (nI k) = VS (nI k)) (e5 : g' = g) : Lg lo' hi' VF' VS' g' := fun f hf => lgR_e (h f hf) (e1 f hf) (e2 f hf) e3 e4 e5
theorem lg_0 {lo hi VF VS : Int32 → Int32} {g : Int32} (hg : g = 0) (h : ∀ j, 0 ≤ j → j < 9 → lo j = 61 ∧ hi j = 0) : Lg lo hi VF VS g := fun f hf => by
  subst hg
  have q := nI_in2 hf (by decide)
  obtain ⟨h1, h2⟩ := h (nI f) q.1 q.2
  exact ⟨fun k hk hg => absurd hg (nI_pos (by omega)), Or.inl h1, Or.inl h2⟩
theorem lg_add {lo hi VF VS lo' hi' VF' VS' : Int32 → Int32} {g g' f0 v : Int32} (h : Lg lo hi VF VS g) (hg0 : 0 ≤ g) (hg : g ≤ 39) (eg : g' = g + 1) (f00 : 0 ≤ f0) (f08 : f0 ≤ 8) (hv : 0 ≤ v ∧ v ≤ 60) (a1 : lo' f0 = if v < lo f0 then v else lo f0) (a2 : ∀ j, ¬ j = f0 → lo' j = lo j) (b1 : hi' f0 = if hi f0 < v then v else hi f0) (b2 : ∀ j, ¬ j = f0 → hi' j = hi j) (c1 : VF' g = f0) (c2 : ∀ j, ¬ j = g → VF' j = VF j) (d1 : VS' g = v) (d2 : ∀ j, ¬ j = g → VS' j = VS j) : Lg lo' hi' VF' VS' g' := fun f hf => by
  obtain ⟨h1, h2, h3⟩ := h f hf
  obtain ⟨gn, hgn, egn⟩ := nI_of2 (M := 39) (n := 39) rfl (Int32.not_lt.mpr hg0) hg
  have lt : ∀ k : Nat, k < 40 → nI k < g → nI k < g' ∧ ¬ nI k = g := fun k hk q => ⟨by rw [eg]; grind, by grind⟩
  have self : nI gn < g' := by rw [eg, ← egn]; grind
  have old : ∀ k : Nat, k < 40 → nI k < g' → ¬ nI k = g → nI k < g := fun k hk q1 q2 => by
    rw [eg] at q1
    exact (lt_k1 (Int32.le_trans hg (by decide)) q1).resolve_right q2
  by_cases e : nI f = f0
  · rw [e] at h1 h2 h3 ⊢
    rw [a1, b1]
    refine ⟨fun k hk q1 q2 => ?_, ?_, ?_⟩
    · by_cases z : nI k = g
      · rw [z, d1]
        clear h1 h2 h3 a2 b2 c2 d2 lt old
        constructor <;> split <;> grind
      · rw [d2 _ z]
        rw [c2 _ z] at q2
        obtain ⟨g1, g2⟩ := h1 k hk (old k hk q1 z) q2
        clear h1 h2 h3 a2 b2 c2 d2 lt old
        constructor <;> split <;> grind
    · by_cases z : v < lo f0
      · rw [if_pos z]
        exact Or.inr ⟨gn, by omega, self, by rw [← egn]; exact c1, by rw [← egn]; exact d1⟩
      · rw [if_neg z]
        exact h2.imp id (fun ⟨k, q1, q2, q3, q4⟩ => ⟨k, q1, (lt k q1 q2).1, (c2 _ (lt k q1 q2).2).trans q3, (d2 _ (lt k q1 q2).2).trans q4⟩)
    · by_cases z : hi f0 < v
      · rw [if_pos z]
        exact Or.inr ⟨gn, by omega, self, by rw [← egn]; exact c1, by rw [← egn]; exact d1⟩
      · rw [if_neg z]
        exact h3.imp id (fun ⟨k, q1, q2, q3, q4⟩ => ⟨k, q1, (lt k q1 q2).1, (c2 _ (lt k q1 q2).2).trans q3, (d2 _ (lt k q1 q2).2).trans q4⟩)
  · rw [a2 _ e, b2 _ e]
    refine ⟨fun k hk q1 q2 => ?_, h2.imp id (fun ⟨k, q1, q2, q3, q4⟩ => ⟨k, q1, (lt k q1 q2).1, (c2 _ (lt k q1 q2).2).trans q3, (d2 _ (lt k q1 q2).2).trans q4⟩), h3.imp id (fun ⟨k, q1, q2, q3, q4⟩ => ⟨k, q1, (lt k q1 q2).1, (c2 _ (lt k q1 q2).2).trans q3, (d2 _ (lt k q1 q2).2).trans q4⟩)⟩
    by_cases z : nI k = g
    · rw [z, c1] at q2
      exact absurd q2.symm e
    · rw [d2 _ z]
      rw [c2 _ z] at q2
      exact h1 k hk (old k hk q1 z) q2
/-- a told place -/
theorem rw_ut {k : Nat} {m m' i v : Int32} {c d : Prop} {V V' W W' : Int32 → Int32} (h : Rw k m V W) (e : m' = m) (cd : c ↔ d) (p : UT c V V' i v) (q : UT d W W' i v) : Rw k m' V' W' := fun n h1 h2 => by
  rw [e] at h2
  rcases p with ⟨p1, p2, p3⟩ | ⟨p1, p2⟩
  · rcases q with ⟨q1, q2, q3⟩ | ⟨q1, q2⟩
    · by_cases z : nI n = i
      · rw [z, p2, q2]
      · rw [p3 _ z, q3 _ z]
        exact h n h1 h2
    · exact absurd (cd.mp p1) q1
  · rcases q with ⟨q1, q2, q3⟩ | ⟨q1, q2⟩
    · exact absurd (cd.mpr q1) p1
    · rw [p2, q2]
      exact h n h1 h2
/-- a row grown -/
theorem rw_gr {k : Nat} {m m' v r s : Int32} {V V' W W' : Int32 → Int32} (h : Rw k m V W) (hm : m ≤ 1000) (e : r = s) (em : (r = -1 ∧ m' = m) ∨ (¬ r = -1 ∧ m' = m + 1)) (p : UT (¬ r = -1) V V' m v) (q : UT (¬ s = -1) W W' m v) : Rw k m' V' W' := by
  subst e
  rcases em with ⟨e1, e2⟩ | ⟨e1, e2⟩
  · exact rw_ut h e2 Iff.rfl p q
  · rcases p with ⟨p1, p2, p3⟩ | ⟨p1, p2⟩
    · rcases q with ⟨q1, q2, q3⟩ | ⟨q1, q2⟩
      · exact rw_add h hm e2 p2 q2 p3 q3
      · exact absurd e1 q1
    · exact absurd e1 p1
def Rxp (A B : Mx) : Prop := Rw 9 (A.1 56 0) (A.1 58) (fun j => B.1 34 (196 + 5 * j)) ∧ Rw 9 (A.1 56 0) (A.1 60) (fun j => B.1 34 (198 + 5 * j)) ∧ Lg (A.1 63) (A.1 64) (fun j => B.1 34 (413 + 2 * j)) (fun j => B.1 34 (414 + 2 * j)) (B.1 34 412)
/-- traits and logs alike -/
def Rx (A B : Mx) : Prop := Rw 9 (A.1 19 0) (A.1 21) (B.1 6) ∧ Rw 9 (A.1 19 0) (A.1 23) (B.1 8) ∧ Lg (A.1 26) (A.1 27) (B.1 18) (B.1 19) (B.1 0 24) ∧ (B.1 0 59 = 0 ∨ Rxp A B)
theorem rxp_of {A A' B B' : Mx} (h : B.1 0 59 = 0 ∨ Rxp A B) (h59 : B'.1 0 59 = B.1 0 59) (e : A'.1 56 0 = A.1 56 0) (f1 : ∀ j, A'.1 58 j = A.1 58 j) (f2 : ∀ j, A'.1 60 j = A.1 60 j) (f3 : ∀ j, A'.1 63 j = A.1 63 j) (f4 : ∀ j, A'.1 64 j = A.1 64 j) (g : ∀ j, B'.1 34 j = B.1 34 j) : B'.1 0 59 = 0 ∨ Rxp A' B' :=
  h.elim (fun z => Or.inl (h59.trans z)) (fun ⟨z1, z2, z3⟩ => Or.inr ⟨rw_e z1 e f1 (fun j => g _), rw_e z2 e f2 (fun j => g _), lg_e z3 (fun f _ => f3 _) (fun f _ => f4 _) (fun k _ => g _) (fun k _ => g _) (g _)⟩)
theorem rx_X_M {A A' B B' : Mx} (h : Rx A B) (hA : SX A A') (hB : SM B B') : Rx A' B' := by
  obtain ⟨w1, w2, w3, im⟩ := h
  exact ⟨rw_e w1 (hA 19 0 (by decide)) (fun j => hA 21 j (by simp [aX])) (fun j => hB 6 j (by simp [aM])), rw_e w2 (hA 19 0 (by decide)) (fun j => hA 23 j (by simp [aX])) (fun j => hB 8 j (by simp [aM])), lg_e w3 (fun f _ => hA 26 _ (by simp [aX])) (fun f _ => hA 27 _ (by simp [aX])) (fun k _ => hB 18 _ (by simp [aM])) (fun k _ => hB 19 _ (by simp [aM])) (hB 0 24 (by decide)), rxp_of im (hB 0 59 (by decide)) (hA 56 0 (by decide)) (fun j => hA 58 j (by simp [aX])) (fun j => hA 60 j (by simp [aX])) (fun j => hA 63 j (by simp [aX])) (fun j => hA 64 j (by simp [aX])) (fun j => hB 34 j (by simp [aM]))⟩
theorem rx_X_N {A A' B B' : Mx} (h : Rx A B) (hA : SX A A') (hB : SN B B') : Rx A' B' := by
  obtain ⟨w1, w2, w3, im⟩ := h
  exact ⟨rw_e w1 (hA 19 0 (by decide)) (fun j => hA 21 j (by simp [aX])) (fun j => hB 6 j (by simp [aN])), rw_e w2 (hA 19 0 (by decide)) (fun j => hA 23 j (by simp [aX])) (fun j => hB 8 j (by simp [aN])), lg_e w3 (fun f _ => hA 26 _ (by simp [aX])) (fun f _ => hA 27 _ (by simp [aX])) (fun k _ => hB 18 _ (by simp [aN])) (fun k _ => hB 19 _ (by simp [aN])) (hB 0 24 (by decide)), rxp_of im (hB 0 59 (by decide)) (hA 56 0 (by decide)) (fun j => hA 58 j (by simp [aX])) (fun j => hA 60 j (by simp [aX])) (fun j => hA 63 j (by simp [aX])) (fun j => hA 64 j (by simp [aX])) (fun j => hB 34 j (by simp [aN]))⟩
theorem rx_Xo_Mo {A A' B B' : Mx} (h : Rx A B) (hA : SXo A A') (hB : SMo B B') : Rx A' B' := by
  obtain ⟨w1, w2, w3, im⟩ := h
  exact ⟨rw_e w1 (hA 19 0 (by decide)) (fun j => hA 21 j (by simp [aXo])) (fun j => hB 6 j (by simp [aMo])), rw_e w2 (hA 19 0 (by decide)) (fun j => hA 23 j (by simp [aXo])) (fun j => hB 8 j (by simp [aMo])), lg_e w3 (fun f _ => hA 26 _ (by simp [aXo])) (fun f _ => hA 27 _ (by simp [aXo])) (fun k _ => hB 18 _ (by simp [aMo])) (fun k _ => hB 19 _ (by simp [aMo])) (hB 0 24 (by decide)), rxp_of im (hB 0 59 (by decide)) (hA 56 0 (by decide)) (fun j => hA 58 j (by simp [aXo])) (fun j => hA 60 j (by simp [aXo])) (fun j => hA 63 j (by simp [aXo])) (fun j => hA 64 j (by simp [aXo])) (fun j => hB 34 j (by simp [aMo]))⟩
theorem rx_Xb_Mb {A A' B B' : Mx} (h : Rx A B) (hA : SXb A A') (hB : SMb B B') : Rx A' B' := by
  obtain ⟨w1, w2, w3, im⟩ := h
  exact ⟨rw_e w1 (hA 19 0 (by decide)) (fun j => hA 21 j (by simp [aXb])) (fun j => hB 6 j (by simp [aMb])), rw_e w2 (hA 19 0 (by decide)) (fun j => hA 23 j (by simp [aXb])) (fun j => hB 8 j (by simp [aMb])), lg_e w3 (fun f _ => hA 26 _ (by simp [aXb])) (fun f _ => hA 27 _ (by simp [aXb])) (fun k _ => hB 18 _ (by simp [aMb])) (fun k _ => hB 19 _ (by simp [aMb])) (hB 0 24 (by decide)), rxp_of im (hB 0 59 (by decide)) (hA 56 0 (by decide)) (fun j => hA 58 j (by simp [aXb])) (fun j => hA 60 j (by simp [aXb])) (fun j => hA 63 j (by simp [aXb])) (fun j => hA 64 j (by simp [aXb])) (fun j => hB 34 j (by simp [aMb]))⟩
theorem rx_Xs_Ms {A A' B B' : Mx} (h : Rx A B) (hA : SXs A A') (hB : SMs B B') : Rx A' B' := by
  obtain ⟨w1, w2, w3, im⟩ := h
  exact ⟨rw_e w1 (hA 19 0 (by decide)) (fun j => hA 21 j (by simp [aXs])) (fun j => hB 6 j (by simp [aMs])), rw_e w2 (hA 19 0 (by decide)) (fun j => hA 23 j (by simp [aXs])) (fun j => hB 8 j (by simp [aMs])), lg_e w3 (fun f _ => hA 26 _ (by simp [aXs])) (fun f _ => hA 27 _ (by simp [aXs])) (fun k _ => hB 18 _ (by simp [aMs])) (fun k _ => hB 19 _ (by simp [aMs])) (hB 0 24 (by decide)), rxp_of im (hB 0 59 (by decide)) (hA 56 0 (by decide)) (fun j => hA 58 j (by simp [aXs])) (fun j => hA 60 j (by simp [aXs])) (fun j => hA 63 j (by simp [aXs])) (fun j => hA 64 j (by simp [aXs])) (fun j => hB 34 j (by simp [aMs]))⟩
theorem rx_Xa_Ma {A A' B B' : Mx} (h : Rx A B) (hA : SXa A A') (hB : SMa B B') : Rx A' B' := by
  obtain ⟨w1, w2, w3, im⟩ := h
  exact ⟨rw_e w1 (hA 19 0 (by decide)) (fun j => hA 21 j (by simp [aXa])) (fun j => hB 6 j (by simp [aMa])), rw_e w2 (hA 19 0 (by decide)) (fun j => hA 23 j (by simp [aXa])) (fun j => hB 8 j (by simp [aMa])), lg_e w3 (fun f _ => hA 26 _ (by simp [aXa])) (fun f _ => hA 27 _ (by simp [aXa])) (fun k _ => hB 18 _ (by simp [aMa])) (fun k _ => hB 19 _ (by simp [aMa])) (hB 0 24 (by decide)), rxp_of im (hB 0 59 (by decide)) (hA 56 0 (by decide)) (fun j => hA 58 j (by simp [aXa])) (fun j => hA 60 j (by simp [aXa])) (fun j => hA 63 j (by simp [aXa])) (fun j => hA 64 j (by simp [aXa])) (fun j => hB 34 j (by simp [aMa]))⟩
theorem rx_Xt_T {A A' B B' : Mx} (h : Rx A B) (hA : SXt A A') (hB : ST B B') : Rx A' B' := by
  obtain ⟨w1, w2, w3, im⟩ := h
  exact ⟨rw_e w1 (hA 19 0 (by decide)) (fun j => hA 21 j (by simp [aXt])) (fun j => hB 6 j (by simp [aT])), rw_e w2 (hA 19 0 (by decide)) (fun j => hA 23 j (by simp [aXt])) (fun j => hB 8 j (by simp [aT])), lg_e w3 (fun f _ => hA 26 _ (by simp [aXt])) (fun f _ => hA 27 _ (by simp [aXt])) (fun k _ => hB 18 _ (by simp [aT])) (fun k _ => hB 19 _ (by simp [aT])) (hB 0 24 (by decide)), rxp_of im (hB 0 59 (by decide)) (hA 56 0 (by decide)) (fun j => hA 58 j (by simp [aXt])) (fun j => hA 60 j (by simp [aXt])) (fun j => hA 63 j (by simp [aXt])) (fun j => hA 64 j (by simp [aXt])) (fun j => hB 34 j (by simp [aT]))⟩
theorem rx_Xt_Mt {A A' B B' : Mx} (h : Rx A B) (hA : SXt A A') (hB : SMt B B') : Rx A' B' := by
  obtain ⟨w1, w2, w3, im⟩ := h
  exact ⟨rw_e w1 (hA 19 0 (by decide)) (fun j => hA 21 j (by simp [aXt])) (fun j => hB 6 j (by simp [aMt])), rw_e w2 (hA 19 0 (by decide)) (fun j => hA 23 j (by simp [aXt])) (fun j => hB 8 j (by simp [aMt])), lg_e w3 (fun f _ => hA 26 _ (by simp [aXt])) (fun f _ => hA 27 _ (by simp [aXt])) (fun k _ => hB 18 _ (by simp [aMt])) (fun k _ => hB 19 _ (by simp [aMt])) (hB 0 24 (by decide)), rxp_of im (hB 0 59 (by decide)) (hA 56 0 (by decide)) (fun j => hA 58 j (by simp [aXt])) (fun j => hA 60 j (by simp [aXt])) (fun j => hA 63 j (by simp [aXt])) (fun j => hA 64 j (by simp [aXt])) (fun j => hB 34 j (by simp [aMt]))⟩
theorem rx_Xt_Y {A A' B B' : Mx} (h : Rx A B) (hA : SXt A A') (hB : SY (up B 0 30 0) B') : Rx A' B' := by
  obtain ⟨w1, w2, w3, im⟩ := h
  obtain ⟨-, hB⟩ := sy_t hB
  exact ⟨rw_e w1 (hA 19 0 (by decide)) (fun j => hA 21 j (by simp [aXt])) (fun j => hB 6 j (by simp [aY]) (by simp)), rw_e w2 (hA 19 0 (by decide)) (fun j => hA 23 j (by simp [aXt])) (fun j => hB 8 j (by simp [aY]) (by simp)), lg_e w3 (fun f _ => hA 26 _ (by simp [aXt])) (fun f _ => hA 27 _ (by simp [aXt])) (fun k _ => hB 18 _ (by simp [aY]) (by simp)) (fun k _ => hB 19 _ (by simp [aY]) (by simp)) (hB 0 24 (by decide) (by decide)), rxp_of im (hB 0 59 (by decide) (by decide)) (hA 56 0 (by decide)) (fun j => hA 58 j (by simp [aXt])) (fun j => hA 60 j (by simp [aXt])) (fun j => hA 63 j (by simp [aXt])) (fun j => hA 64 j (by simp [aXt])) (fun j => hB 34 j (by simp [aY]) (by simp))⟩
theorem rx_tell {A A' B B' : Mx} {w i v : Int32} (h : Rx A B) (hF : A.1 19 0 = B.1 0 9) (hA : SXl A A') (hB : SMl B B') (p : UT (w = 0 ∧ 0 ≤ i ∧ i ≤ A.1 19 0 - 1 ∧ 0 ≤ v ∧ v ≤ 60) (A.1 21) (A'.1 21) i v ∧ UT (w = 2 ∧ 0 ≤ i ∧ i ≤ A.1 19 0 - 1 ∧ 0 ≤ v ∧ v ≤ 9) (A.1 23) (A'.1 23) i v) (q : UT (w = 0 ∧ 0 ≤ i ∧ i ≤ B.1 0 9 - 1 ∧ 0 ≤ v ∧ v ≤ 60) (B.1 6) (B'.1 6) i v ∧ UT (w = 2 ∧ 0 ≤ i ∧ i ≤ B.1 0 9 - 1 ∧ 0 ≤ v ∧ v ≤ 9) (B.1 8) (B'.1 8) i v) : Rx A' B' := by
  obtain ⟨w1, w2, w3, im⟩ := h
  rw [← hF] at q
  exact ⟨rw_ut w1 (hA 19 0 (by decide)) Iff.rfl p.1 q.1, rw_ut w2 (hA 19 0 (by decide)) Iff.rfl p.2 q.2, lg_e w3 (fun f _ => hA 26 _ (by simp [aXl])) (fun f _ => hA 27 _ (by simp [aXl])) (fun k _ => hB 18 _ (by simp [aMl])) (fun k _ => hB 19 _ (by simp [aMl])) (hB 0 24 (by decide)), rxp_of im (hB 0 59 (by decide)) (hA 56 0 (by decide)) (fun j => hA 58 j (by simp [aXl])) (fun j => hA 60 j (by simp [aXl])) (fun j => hA 63 j (by simp [aXl])) (fun j => hA 64 j (by simp [aXl])) (fun j => hB 34 j (by simp [aMl]))⟩
theorem pf_n {n n' a b c d r : Int32} (p : PF n n' a b c d r) (n0 : 0 ≤ n) : (r = -1 ∧ n' = n) ∨ (¬ r = -1 ∧ n' = n + 1) := by
  rcases p with ⟨p1, p2, -⟩ | ⟨p1, p2, -⟩
  · exact Or.inl ⟨p1, p2⟩
  · exact Or.inr ⟨by rw [p1]; grind, p2⟩
theorem rx_farm {A A' B B' : Mx} {a b c d r s : Int32} (h : Rx A B) (hT : TX A) (hF : A.1 19 0 = B.1 0 9) (hA : SXf A A') (hB : SF B B') (e : r = s) (p : PF (A.1 19 0) (A'.1 19 0) a b c d r) (p1 : UT (¬ r = -1) (A.1 21) (A'.1 21) (A.1 19 0) a) (p2 : UT (¬ r = -1) (A.1 23) (A'.1 23) (A.1 19 0) c) (q1 : UT (¬ s = -1) (B.1 6) (B'.1 6) (B.1 0 9) a) (q2 : UT (¬ s = -1) (B.1 8) (B'.1 8) (B.1 0 9) c) : Rx A' B' := by
  obtain ⟨w1, w2, w3, im⟩ := h
  rw [← hF] at q1 q2
  have z := tX_19_0 hT
  have m := pf_n p z.1
  have l := Int32.le_trans z.2 (by decide : (9 : Int32) ≤ 1000)
  exact ⟨rw_gr w1 l e m p1 q1, rw_gr w2 l e m p2 q2, lg_e w3 (fun f _ => hA 26 _ (by simp [aXf])) (fun f _ => hA 27 _ (by simp [aXf])) (fun k _ => hB 18 _ (by simp [aF])) (fun k _ => hB 19 _ (by simp [aF])) (hB 0 24 (by decide)), rxp_of im (hB 0 59 (by decide)) (hA 56 0 (by decide)) (fun j => hA 58 j (by simp [aXf])) (fun j => hA 60 j (by simp [aXf])) (fun j => hA 63 j (by simp [aXf])) (fun j => hA 64 j (by simp [aXf])) (fun j => hB 34 j (by simp [aF]))⟩
theorem rx_log {A A' B B' : Mx} {f v r s : Int32} (h : Rx A B) (hT : TX A) (hTM : TM B) (hg : A.1 19 3 = B.1 0 24) (hA : SXg A A') (hB : SMg B B') (e : r = s) (q : PG (B.1 0 24) (B'.1 0 24) (B.1 0 9) f v s) (p1 : UT (r = 1) (A.1 26) (A'.1 26) f (if v < A.1 26 f then v else A.1 26 f)) (p2 : UT (r = 1) (A.1 27) (A'.1 27) f (if A.1 27 f < v then v else A.1 27 f)) (q1 : UT (s = 1) (B.1 18) (B'.1 18) (B.1 0 24) f) (q2 : UT (s = 1) (B.1 19) (B'.1 19) (B.1 0 24) v) : Rx A' B' := by
  obtain ⟨w1, w2, w3, im⟩ := h
  subst e
  have F9 := tM_0_9 hTM
  have g0 := tM_0_24 hTM
  refine ⟨rw_e w1 (hA 19 0 (by decide)) (fun j => hA 21 j (by simp [aXg])) (fun j => hB 6 j (by simp [aMg])), rw_e w2 (hA 19 0 (by decide)) (fun j => hA 23 j (by simp [aXg])) (fun j => hB 8 j (by simp [aMg])), ?_, rxp_of im (hB 0 59 (by decide)) (hA 56 0 (by decide)) (fun j => hA 58 j (by simp [aXg])) (fun j => hA 60 j (by simp [aXg])) (fun j => hA 63 j (by simp [aXg])) (fun j => hA 64 j (by simp [aXg])) (fun j => hB 34 j (by simp [aMg]))⟩
  rcases q with ⟨r1, g1, f0, f1, v0, v1, g39⟩ | ⟨r0, g1, -⟩
  · have f8 : f ≤ 8 := by clear w1 w2 w3 im p1 p2 q1 q2; grind
    rcases p1 with ⟨-, a1, a2⟩ | ⟨z, -⟩
    · rcases p2 with ⟨-, b1, b2⟩ | ⟨z, -⟩
      · rcases q1 with ⟨-, c1, c2⟩ | ⟨z, -⟩
        · rcases q2 with ⟨-, d1, d2⟩ | ⟨z, -⟩
          · exact lg_add w3 g0.1 g39 g1 f0 f8 ⟨v0, v1⟩ a1 a2 b1 b2 c1 c2 d1 d2
          · exact absurd r1 z
        · exact absurd r1 z
      · exact absurd r1 z
    · exact absurd r1 z
  · have n1 : ¬ r = 1 := by rw [r0]; decide
    rcases p1 with ⟨z, -⟩ | ⟨-, a2⟩
    · exact absurd z n1
    · rcases p2 with ⟨z, -⟩ | ⟨-, b2⟩
      · exact absurd z n1
      · rcases q1 with ⟨z, -⟩ | ⟨-, c2⟩
        · exact absurd z n1
        · rcases q2 with ⟨z, -⟩ | ⟨-, d2⟩
          · exact absurd z n1
          · exact lg_e w3 (fun f _ => a2 _) (fun f _ => b2 _) (fun k _ => c2 _) (fun k _ => d2 _) g1
theorem rx_notches {A A' B B' : Mx} {n r s : Int32} (h : Rx A B) (hA : SXn A A') (hB : SZ B B') (e : r = s) (p1 : r = 1 → A'.1 19 0 = 0 ∧ ∀ j, 0 ≤ j → j < 9 → A'.1 26 j = 61 ∧ A'.1 27 j = 0) (p0 : r = 0 → A' = A) (q1 : s = 1 → NZ B' n) (q0 : s = 0 → SM B B') (hr : r = 0 ∨ r = 1) : Rx A' B' := by
  rcases hr with hr | hr
  · have e1 := p0 hr
    subst e1
    exact rx_X_M h Sx.rf (q0 (e.symm.trans hr))
  · obtain ⟨w1, w2, w3, im⟩ := h
    obtain ⟨a0, a1⟩ := p1 hr
    obtain ⟨-, -, b0, b1, b2, b3, b4, b5⟩ := q1 (e.symm.trans hr)
    exact ⟨by rw [a0]; exact rw_0 (by decide), by rw [a0]; exact rw_0 (by decide), lg_0 b4 a1, rxp_of im (hB 0 59 (by decide)) (hA 56 0 (by decide)) (fun j => hA 58 j (by simp [aXn])) (fun j => hA 60 j (by simp [aXn])) (fun j => hA 63 j (by simp [aXn])) (fun j => hA 64 j (by simp [aXn])) (fun j => hB 34 j (by simp [aZ]))⟩
theorem iat_f0 {M : Mx} {n : Nat} (h : n < 9) : iat M (196 + 5 * n) = M.1 6 (nI n) := by
  unfold iat
  rw [ic_f0 h]
theorem wq_f0 {n : Nat} (h : n < 9) : wq (196 + 5 * n) = true := by
  have key : ∀ q : Fin 9, wq (196 + 5 * q.val) = true := by decide +kernel
  exact key ⟨n, h⟩
theorem imr_f0 {M : Mx} {n : Nat} : M.1 34 (196 + 5 * nI n) = M.1 34 (nI (196 + 5 * n)) := congrArg _ ((c_nI n 196 5).trans (congrArg nI (by omega)))
theorem iat_f2 {M : Mx} {n : Nat} (h : n < 9) : iat M (196 + 5 * n + 1 + 1) = M.1 8 (nI n) := by
  unfold iat
  rw [ic_f2 h]
theorem wq_f2 {n : Nat} (h : n < 9) : wq (196 + 5 * n + 1 + 1) = true := by
  have key : ∀ q : Fin 9, wq (196 + 5 * q.val + 1 + 1) = true := by decide +kernel
  exact key ⟨n, h⟩
theorem imr_f2 {M : Mx} {n : Nat} : M.1 34 (198 + 5 * nI n) = M.1 34 (nI (196 + 5 * n + 1 + 1)) := congrArg _ ((c_nI n 198 5).trans (congrArg nI (by omega)))
theorem iat_l0 {M : Mx} {n : Nat} (h : n < 40) : iat M (413 + 2 * n) = M.1 18 (nI n) := by
  unfold iat
  rw [ic_l0 h]
theorem wq_l0 {n : Nat} (h : n < 40) : wq (413 + 2 * n) = true := by
  have key : ∀ q : Fin 40, wq (413 + 2 * q.val) = true := by decide +kernel
  exact key ⟨n, h⟩
theorem imr_l0 {M : Mx} {n : Nat} : M.1 34 (413 + 2 * nI n) = M.1 34 (nI (413 + 2 * n)) := congrArg _ ((c_nI n 413 2).trans (congrArg nI (by omega)))
theorem iat_l1 {M : Mx} {n : Nat} (h : n < 40) : iat M (413 + 2 * n + 1) = M.1 19 (nI n) := by
  unfold iat
  rw [ic_l1 h]
theorem wq_l1 {n : Nat} (h : n < 40) : wq (413 + 2 * n + 1) = true := by
  have key : ∀ q : Fin 40, wq (413 + 2 * q.val + 1) = true := by decide +kernel
  exact key ⟨n, h⟩
theorem imr_l1 {M : Mx} {n : Nat} : M.1 34 (414 + 2 * nI n) = M.1 34 (nI (413 + 2 * n + 1)) := congrArg _ ((c_nI n 414 2).trans (congrArg nI (by omega)))
theorem rx_image {A A' B B' : Mx} {t r s : Int32} (h : Rx A B) (r6 : A.1 0 2 = B.1 0 59) (hT : TX A) (hA : SXi A A') (hB : SQ B B') (p : PI A A' t r) (q : PJ B B' t s) : Rx A' B' := by
  obtain ⟨w1, w2, w3, im⟩ := id h
  rcases p with ⟨p0, p1, p2, p3, p4⟩ | ⟨p0, p1, p2, p3⟩ | ⟨p0, p1, p2, p3, p4, p5⟩
  · rcases q with ⟨q0, q1, q2, q3⟩ | ⟨q0, q1, q2, q3, q4⟩
    · exact absurd q1 p0
    · have q3 := q3 p0
      have v : A'.1 19 0 = A.1 19 0 := p4 19 0 (by simp [isV])
      have u : A'.1 56 0 = A.1 19 0 := p3 19 0 (by simp [isV])
      have g1 : B'.1 0 24 = B.1 0 24 := q3 412 (by decide)
      have g2 : B'.1 0 24 = B'.1 34 412 := q2 412 (by decide)
      exact ⟨fun n n1 n2 => by
        rw [p4 21 (nI n) (by have z := nI_in2 n1 (by decide); simp [isV]; exact z), ← iat_f0 (M := B') n1, q3 _ (wq_f0 n1), iat_f0 n1]
        exact w1 n n1 (v ▸ n2),
      fun n n1 n2 => by
        rw [p4 23 (nI n) (by have z := nI_in2 n1 (by decide); simp [isV]; exact z), ← iat_f2 (M := B') n1, q3 _ (wq_f2 n1), iat_f2 n1]
        exact w2 n n1 (v ▸ n2),
      lg_e w3 (fun f n1 => p4 26 (nI f) (by have z := nI_in2 n1 (by decide); simp [isV]; exact z)) (fun f n1 => p4 27 (nI f) (by have z := nI_in2 n1 (by decide); simp [isV]; exact z)) (fun k n1 => by rw [← iat_l0 (M := B') n1, q3 _ (wq_l0 n1), iat_l0 n1]) (fun k n1 => by rw [← iat_l1 (M := B') n1, q3 _ (wq_l1 n1), iat_l1 n1]) g1, Or.inr ⟨fun n n1 n2 => by
        rw [show A'.1 58 (nI n) = A.1 21 (nI n) from p3 21 (nI n) (by have z := nI_in2 n1 (by decide); simp [isV]; exact z)]
        show _ = B'.1 34 (196 + 5 * nI n)
        rw [imr_f0, ← q2 _ (wq_f0 n1), q3 _ (wq_f0 n1), iat_f0 n1]
        exact w1 n n1 (u ▸ n2),
      fun n n1 n2 => by
        rw [show A'.1 60 (nI n) = A.1 23 (nI n) from p3 23 (nI n) (by have z := nI_in2 n1 (by decide); simp [isV]; exact z)]
        show _ = B'.1 34 (198 + 5 * nI n)
        rw [imr_f2, ← q2 _ (wq_f2 n1), q3 _ (wq_f2 n1), iat_f2 n1]
        exact w2 n n1 (u ▸ n2),
      lg_e w3 (fun f n1 => p3 26 (nI f) (by have z := nI_in2 n1 (by decide); simp [isV]; exact z)) (fun f n1 => p3 27 (nI f) (by have z := nI_in2 n1 (by decide); simp [isV]; exact z)) (fun k n1 => by
        show B'.1 34 (413 + 2 * nI k) = _
        rw [imr_l0, ← q2 _ (wq_l0 n1), q3 _ (wq_l0 n1), iat_l0 n1]) (fun k n1 => by
        show B'.1 34 (414 + 2 * nI k) = _
        rw [imr_l1, ← q2 _ (wq_l1 n1), q3 _ (wq_l1 n1), iat_l1 n1]) (g2.symm.trans g1)⟩⟩
  · rcases q with ⟨q0, q1, q2, q3⟩ | ⟨q0, q1, q2, q3, q4⟩
    · subst p3
      exact rx_X_M h Sx.rf q3
    · exact absurd (r6.symm.trans p1) (q4 p0).1
  · rcases q with ⟨q0, q1, q2, q3⟩ | ⟨q0, q1, q2, q3, q4⟩
    · exact absurd (r6.trans q2) p1
    · obtain ⟨h1, h2, h3⟩ := im.resolve_left (q4 p0).1
      have q5 := (q4 p0).2
      have v : A'.1 19 0 = A.1 56 0 := p4 19 0 (by simp [isV])
      have u : A'.1 56 0 = A.1 56 0 := p5 19 0 (by simp [isV])
      have g2 : B'.1 0 24 = B'.1 34 412 := q2 412 (by decide)
      exact ⟨fun n n1 n2 => by
        rw [show A'.1 21 (nI n) = A.1 58 (nI n) from p4 21 (nI n) (by have z := nI_in2 n1 (by decide); simp [isV]; exact z), ← iat_f0 (M := B') n1, q2 _ (wq_f0 n1), q5, ← imr_f0]
        exact h1 n n1 (v ▸ n2),
      fun n n1 n2 => by
        rw [show A'.1 23 (nI n) = A.1 60 (nI n) from p4 23 (nI n) (by have z := nI_in2 n1 (by decide); simp [isV]; exact z), ← iat_f2 (M := B') n1, q2 _ (wq_f2 n1), q5, ← imr_f2]
        exact h2 n n1 (v ▸ n2),
      lg_e h3 (fun f n1 => p4 26 (nI f) (by have z := nI_in2 n1 (by decide); simp [isV]; exact z)) (fun f n1 => p4 27 (nI f) (by have z := nI_in2 n1 (by decide); simp [isV]; exact z)) (fun k n1 => by
        show _ = B.1 34 (413 + 2 * nI k)
        rw [← iat_l0 (M := B') n1, q2 _ (wq_l0 n1), q5, ← imr_l0]) (fun k n1 => by
        show _ = B.1 34 (414 + 2 * nI k)
        rw [← iat_l1 (M := B') n1, q2 _ (wq_l1 n1), q5, ← imr_l1]) (g2.trans (q5 _)), Or.inr ⟨fun n n1 n2 => by
        rw [show A'.1 58 (nI n) = A.1 58 (nI n) from p5 21 (nI n) (by have z := nI_in2 n1 (by decide); simp [isV]; exact z)]
        show _ = B'.1 34 (196 + 5 * nI n)
        rw [q5]
        exact h1 n n1 (u ▸ n2),
      fun n n1 n2 => by
        rw [show A'.1 60 (nI n) = A.1 60 (nI n) from p5 23 (nI n) (by have z := nI_in2 n1 (by decide); simp [isV]; exact z)]
        show _ = B'.1 34 (198 + 5 * nI n)
        rw [q5]
        exact h2 n n1 (u ▸ n2),
      lg_e h3 (fun f n1 => p5 26 (nI f) (by have z := nI_in2 n1 (by decide); simp [isV]; exact z)) (fun f n1 => p5 27 (nI f) (by have z := nI_in2 n1 (by decide); simp [isV]; exact z)) (fun k n1 => q5 _) (fun k n1 => q5 _) (q5 _)⟩⟩
theorem sw_c {V W : Int32 → Int32} {f F : Int32} (h : Rw 9 F V W) {n : Nat} (hn : n < 2 ^ 30) (e : nI n = F) (h9 : n ≤ 9) : ∀ m : Nat, m ≤ n → Sw V f m = Sw W f m
  | 0, _ => rfl
  | m + 1, hm => by
    have q := sw_c (f := f) h hn e h9 m (by omega)
    simp only [Sw]
    rw [q, h m (by omega) (by rw [← e]; exact nI_lt (by omega) (by omega))]
theorem sl_r {lo hi z l m l' m' f : Int32} {VF VS : Int32 → Int32} {g : Nat} (hg : g ≤ 40) (hz : -100 ≤ z ∧ z ≤ 60) (hV : ∀ j, 0 ≤ VS j ∧ VS j ≤ 60) (hl : 0 ≤ lo ∧ lo ≤ 61) (hh : 0 ≤ hi ∧ hi ≤ 60) (p1 : LsP lo z l) (p2 : MsP hi z m) (q : LI VF VS f z g l' m') (r : lgR lo hi VF VS (nI g) f) : l = l' ∧ m = m' := by
  obtain ⟨⟨a1, a2, a3, a4⟩, b, c1, c2⟩ := q
  obtain ⟨d, e1, e2⟩ := r
  have lt : ∀ k : Nat, k < g → nI k < nI g := fun k hk => nI_lt hk (by omega)
  have gt : ∀ k : Nat, k < 40 → nI k < nI g → k < g := fun k hk q => (nI_ltI (by omega) (by omega)).mp q
  constructor
  · rcases c1 with c1 | ⟨k, k1, k2, k3⟩
    · rcases e1 with e1 | ⟨k, k1, k2, k3, k4⟩
      · clear b c2 d e2 lt gt
        unfold LsP at p1
        grind
      · have q := (b k (gt k k1 k2) k3).1
        rw [k4] at q
        clear b c2 d e2 lt gt
        unfold LsP at p1
        grind
    · have q := d k (by omega) (lt k k1) k2
      have v := hV (nI k)
      rcases e1 with e1 | ⟨j, j1, j2, j3, j4⟩
      · rw [e1] at q
        clear b c2 d e2 lt gt p1 p2
        grind
      · have q2 := (b j (gt j j1 j2) j3).1
        rw [j4] at q2
        clear b c2 d e2 lt gt p2
        unfold LsP at p1
        generalize VS (nI k) = x at *
        grind
  · rcases c2 with c2 | ⟨k, k1, k2, k3, k4⟩
    · rcases e2 with e2 | ⟨k, k1, k2, k3, k4⟩
      · clear b c1 d e1 lt gt
        unfold MsP at p2
        grind
      · by_cases h0 : hi = 0
        · clear b c1 d e1 lt gt
          unfold MsP at p2
          grind
        · have q := (b k (gt k k1 k2) k3).2 (by rw [k4]; grind)
          rw [k4] at q
          clear b c1 d e1 lt gt
          unfold MsP at p2
          grind
    · have q := d k (by omega) (lt k k1) k2
      have v := hV (nI k)
      rcases e2 with e2 | ⟨j, j1, j2, j3, j4⟩
      · rw [e2] at q
        clear b c1 d e1 lt gt p1 p2
        grind
      · by_cases h0 : hi = 0
        · rw [h0] at q
          clear b c1 d e1 lt gt p1 p2
          grind
        · have q2 := (b j (gt j j1 j2) j3).2 (by rw [j4]; grind)
          rw [j4] at q2
          clear b c1 d e1 lt gt p1
          unfold MsP at p2
          generalize VS (nI k) = x at *
          grind
theorem an_r {w l m r s : Int32} (p : AnP w l m r) (q : AnP w l m s) : r = s := by unfold AnP at p q; grind
theorem sl_eq {A B : Mx} {f w r s : Int32} (hT : TX A) (hTM : TM B) (hF : A.1 19 0 = B.1 0 9) (h : Rx A B) (p : (¬ (0 ≤ f ∧ f ≤ A.1 19 0 - 1 ∧ 0 ≤ w ∧ w ≤ 1) ∧ r = -1) ∨ ((0 ≤ f ∧ f ≤ A.1 19 0 - 1 ∧ 0 ≤ w ∧ w ≤ 1) ∧ ∀ n : Nat, n < 2 ^ 30 → nI n = A.1 19 0 → ∃ l m, LsP (A.1 26 f) (A.1 21 f - Sw (A.1 23) f n) l ∧ MsP (A.1 27 f) (A.1 21 f - Sw (A.1 23) f n) m ∧ AnP w l m r)) (q : (¬ (0 ≤ f ∧ f ≤ B.1 0 9 - 1 ∧ 0 ≤ w ∧ w ≤ 1) ∧ s = -1) ∨ ((0 ≤ f ∧ f ≤ B.1 0 9 - 1 ∧ 0 ≤ w ∧ w ≤ 1) ∧ ∀ n : Nat, n < 2 ^ 30 → nI n = B.1 0 9 → ∀ g : Nat, g < 2 ^ 30 → nI g = B.1 0 24 → ∃ l m, LI (B.1 18) (B.1 19) f (B.1 6 f - Sw (B.1 8) f n) g l m ∧ AnP w l m s)) : r = s := by
  obtain ⟨w1, w2, w3, -⟩ := h
  rw [← hF] at q
  have F9 := tX_19_0 hT
  rcases p with ⟨p1, p2⟩ | ⟨p1, p2⟩
  · rcases q with ⟨q1, q2⟩ | ⟨q1, q2⟩
    · exact p2.trans q2.symm
    · exact absurd q1 p1
  · rcases q with ⟨q1, q2⟩ | ⟨q1, q2⟩
    · exact absurd p1 q1
    · obtain ⟨n, hn, en⟩ := nI_of2 (M := 9) (n := 9) rfl (Int32.not_lt.mpr F9.1) F9.2
      have g40 := tM_0_24 hTM
      obtain ⟨g, hg, eg⟩ := nI_of2 (M := 40) (n := 40) rfl (Int32.not_lt.mpr g40.1) g40.2
      obtain ⟨l, m, a1, a2, a3⟩ := p2 n (by omega) en.symm
      obtain ⟨l', m', b1, b3⟩ := q2 n (by omega) en.symm g (by omega) eg.symm
      have f8 : 0 ≤ f ∧ f ≤ 8 := by clear p2 q2 w1 w2 w3 a1 a2 a3 b1 b3; grind
      obtain ⟨fn, hfn, efn⟩ := nI_of2 (M := 8) (n := 8) rfl (Int32.not_lt.mpr f8.1) f8.2
      have ff : f < A.1 19 0 := by clear p2 q2 w1 w2 w3 a1 a2 a3 b1 b3; grind
      rw [efn] at ff
      have e1 := w1 fn (by omega) ff
      rw [← efn] at e1
      rw [← e1, ← sw_c (f := f) w2 (by omega) en.symm hn n (Nat.le_refl _)] at b1
      have sb := sw_b (f := f) (V := A.1 23) (fun j => tX_23 hT) n (by omega)
      have ab := tX_21 (j := f) hT
      have n9 : nI n ≤ 9 := nI_le (b := 9) (by omega) (by decide)
      have n0 : 0 ≤ nI n := nI_pos' (by omega)
      have lg := w3 fn (by omega)
      rw [← efn, eg] at lg
      have k := sl_r hg (z := A.1 21 f - Sw (A.1 23) f n) (by
        clear a1 a2 a3 b1 b3 p2 q2 w1 w2 w3 lg e1
        generalize Sw (A.1 23) f n = x at *
        generalize nI n = y at *
        grind) (fun j => tM_19 hTM) (tX_26 hT) (tX_27 hT) a1 a2 b1 lg
      rw [k.1, k.2] at a3
      exact an_r a3 b3
theorem nt_6 {a b c d e f g : Prop} (h : a ∧ b ∧ c ∧ d ∧ e ∧ f ∧ g) : a ∧ b ∧ c ∧ d ∧ e ∧ f := ⟨h.1, h.2.1, h.2.2.1, h.2.2.2.1, h.2.2.2.2.1, h.2.2.2.2.2.1⟩
def Iv (A B : Mx) : Prop := TX A ∧ IM B ∧ Rl A B ∧ Rx A B
