theorem agX {A B : Mx} : Agr (jn 182 A B) 0 shX.length A := by rw [lenX]; exact jn_1
theorem agM {A B : Mx} : Agr (jn 182 A B) 182 shM.length B := jn_2
theorem lenL : shLaw.length = 217 := by rw [shLaw, WB_len lenX lenM]
section R11
variable {G : Cx} {cc : ByteArray} {nL : Nat} {own : String} {ret : Option FieldType} {d : Nat} {ad : Nat → Nat} {cs sl : Nat} {A B : Mx} {pc : Nat} {lv : List (Nat × Value)} {st : List Value}
theorem aw_cX (K : Ok G cc nL own ret d) {idx n mL dd : Nat} {y : MethodName} {c : ByteArray} {r : Option FieldType} {As rest : List Value} {P : Int32 → Mx → Prop} (hl : LV own idx RX11 y c mL r n) (hd : decode cc pc = .ok (.invokevirtual idx, 3)) (hc : Ct (xk G, sw (ad, shLaw) 0 shX) y c mL r dd 0 0 (.ref 0 :: As) A (Rs (xk G, sw (ad, shLaw) 0 shX) (RI P))) (hst : st = As.reverse ++ .ref 0 :: rest) (hAs : As.map (cvv (ga (xk G, (ad, shLaw)))) = As.map (cvv (ga (xk G, sw (ad, shLaw) 0 shX)))) (hn : As.length = n) (hrest : (rest.map fun v => v.category).sum ≤ 8) (hdd : dd < d) (hmL : mL ≤ 40) (hcs : cs ≤ xmc G) (hsl : sl ≤ xms G)
    (kk : ∀ (v : Int32) (N : Mx), P v N → AW G nL (ad, shLaw) cs sl (jn 182 N B) (pc + 3) lv (.int v :: rest)) : AW G nL (ad, shLaw) cs sl (jn 182 A B) pc lv st :=
  aw_cVs (Fm := fun N => jn 182 N B) K subX agX (fun _ => agX) (fun N a _ h => jn_o1 (by rw [lenX] at h; omega)) cf11 hl hd s0 hc hst hAs hn hrest hdd hmL hcs hsl kk
theorem aw_cM (K : Ok G cc nL own ret d) {idx n mL dd : Nat} {y : MethodName} {c : ByteArray} {r : Option FieldType} {As rest : List Value} {P : Int32 → Mx → Prop} (hl : LV own idx RX12 y c mL r n) (hd : decode cc pc = .ok (.invokevirtual idx, 3)) (hc : Ct (xk G, sw (ad, shLaw) 182 shM) y c mL r dd 0 0 (.ref 0 :: As) B (Rs (xk G, sw (ad, shLaw) 182 shM) (RI P))) (hst : st = As.reverse ++ .ref 182 :: rest) (hAs : As.map (cvv (ga (xk G, (ad, shLaw)))) = As.map (cvv (ga (xk G, sw (ad, shLaw) 182 shM)))) (hn : As.length = n) (hrest : (rest.map fun v => v.category).sum ≤ 8) (hdd : dd < d) (hmL : mL ≤ 40) (hcs : cs ≤ xmc G) (hsl : sl ≤ xms G)
    (kk : ∀ (v : Int32) (N : Mx), P v N → AW G nL (ad, shLaw) cs sl (jn 182 A N) (pc + 3) lv (.int v :: rest)) : AW G nL (ad, shLaw) cs sl (jn 182 A B) pc lv st :=
  aw_cVs (Fm := fun N => jn 182 A N) K subM agM (fun _ => agM) (fun N a ha h => jn_o2 (by
    have ha : a < shLaw.length := ha
    rw [lenL] at ha
    rw [lenM] at h
    omega)) cf12 hl hd m0 hc hst hAs hn hrest hdd hmL hcs hsl kk
end R11
theorem par2 {n : Int32} (h0 : 8 ≤ n) (h1 : n ≤ 40) : n - n / 2 * 2 = 0 ∨ n - n / 2 * 2 = 1 := by
  obtain ⟨j, hj, rfl⟩ := nI_of (x := n) (by grind)
  have h : j ≤ 40 := by
    rw [Int32.le_iff_toInt_le, nI_toInt hj] at h1
    have : (40 : Int32).toInt = 40 := rfl
    omega
  have key : ∀ q : Fin 41, Int32.ofNat q.val - Int32.ofNat q.val / 2 * 2 = 0 ∨ Int32.ofNat q.val - Int32.ofNat q.val / 2 * 2 = 1 := by decide +kernel
  exact key ⟨j, by omega⟩
/-- what the reference keeps -/
def IM (B : Mx) : Prop := TM B ∧ B.1 1 3 ≤ 23 ∧ WL B ∧ Wd B ∧ WI B
theorem im_of {B N : Mx} (h : IM B) (hT : TM N) (h3 : N.1 1 3 ≤ 23) (h36 : N.1 0 36 = B.1 0 36) (h59 : N.1 0 59 = B.1 0 59) (e21 : ∀ j, N.1 21 j = B.1 21 j) (e22 : ∀ j, N.1 22 j = B.1 22 j) (e23 : ∀ j, N.1 23 j = B.1 23 j) (e24 : ∀ j, N.1 24 j = B.1 24 j) (e25 : ∀ j, N.1 25 j = B.1 25 j) (e26 : ∀ j, N.1 26 j = B.1 26 j) (e34 : ∀ j, N.1 34 j = B.1 34 j) : IM N := ⟨hT, h3, WL_of h36 e22 e23 e24 e25 e26 h.2.2.1, fun k h0 h1 => (e21 k).trans (h.2.2.2.1 k h0 h1), WI_of h59 e34 h.2.2.2.2⟩
theorem im_M {B N : Mx} (h : IM B) (hT : TM N) (hS : SM B N) : IM N := im_of h hT (by rw [hS 1 3 (by decide)]; exact h.2.1) (hS 0 36 (by decide)) (hS 0 59 (by decide)) (fun j => hS 21 j (by simp [aM])) (fun j => hS 22 j (by simp [aM])) (fun j => hS 23 j (by simp [aM])) (fun j => hS 24 j (by simp [aM])) (fun j => hS 25 j (by simp [aM])) (fun j => hS 26 j (by simp [aM])) (fun j => hS 34 j (by simp [aM]))
theorem im_Mz {B N : Mx} (h : IM B) (hT : TM N) (hS : SMz B N) : IM N := im_of h hT (by rw [hS 1 3 (by decide)]; exact h.2.1) (hS 0 36 (by decide)) (hS 0 59 (by decide)) (fun j => hS 21 j (by simp [aMz])) (fun j => hS 22 j (by simp [aMz])) (fun j => hS 23 j (by simp [aMz])) (fun j => hS 24 j (by simp [aMz])) (fun j => hS 25 j (by simp [aMz])) (fun j => hS 26 j (by simp [aMz])) (fun j => hS 34 j (by simp [aMz]))
theorem im_F {B N : Mx} (h : IM B) (hT : TM N) (hS : SF B N) : IM N := im_of h hT (by rw [hS 1 3 (by decide)]; exact h.2.1) (hS 0 36 (by decide)) (hS 0 59 (by decide)) (fun j => hS 21 j (by simp [aF])) (fun j => hS 22 j (by simp [aF])) (fun j => hS 23 j (by simp [aF])) (fun j => hS 24 j (by simp [aF])) (fun j => hS 25 j (by simp [aF])) (fun j => hS 26 j (by simp [aF])) (fun j => hS 34 j (by simp [aF]))
theorem im_T {B N : Mx} (h : IM B) (hT : TM N) (hS : ST B N) : IM N := im_of h hT (by rw [hS 1 3 (by decide)]; exact h.2.1) (hS 0 36 (by decide)) (hS 0 59 (by decide)) (fun j => hS 21 j (by simp [aT])) (fun j => hS 22 j (by simp [aT])) (fun j => hS 23 j (by simp [aT])) (fun j => hS 24 j (by simp [aT])) (fun j => hS 25 j (by simp [aT])) (fun j => hS 26 j (by simp [aT])) (fun j => hS 34 j (by simp [aT]))
theorem im_Mb {B N : Mx} (h : IM B) (hT : TM N) (hS : SMb B N) : IM N := im_of h hT (by rw [hS 1 3 (by decide)]; exact h.2.1) (hS 0 36 (by decide)) (hS 0 59 (by decide)) (fun j => hS 21 j (by simp [aMb])) (fun j => hS 22 j (by simp [aMb])) (fun j => hS 23 j (by simp [aMb])) (fun j => hS 24 j (by simp [aMb])) (fun j => hS 25 j (by simp [aMb])) (fun j => hS 26 j (by simp [aMb])) (fun j => hS 34 j (by simp [aMb]))
theorem im_Ms {B N : Mx} (h : IM B) (hT : TM N) (hS : SMs B N) : IM N := im_of h hT (by rw [hS 1 3 (by decide)]; exact h.2.1) (hS 0 36 (by decide)) (hS 0 59 (by decide)) (fun j => hS 21 j (by simp [aMs])) (fun j => hS 22 j (by simp [aMs])) (fun j => hS 23 j (by simp [aMs])) (fun j => hS 24 j (by simp [aMs])) (fun j => hS 25 j (by simp [aMs])) (fun j => hS 26 j (by simp [aMs])) (fun j => hS 34 j (by simp [aMs]))
theorem im_Ma {B N : Mx} (h : IM B) (hT : TM N) (hS : SMa B N) : IM N := im_of h hT (by rw [hS 1 3 (by decide)]; exact h.2.1) (hS 0 36 (by decide)) (hS 0 59 (by decide)) (fun j => hS 21 j (by simp [aMa])) (fun j => hS 22 j (by simp [aMa])) (fun j => hS 23 j (by simp [aMa])) (fun j => hS 24 j (by simp [aMa])) (fun j => hS 25 j (by simp [aMa])) (fun j => hS 26 j (by simp [aMa])) (fun j => hS 34 j (by simp [aMa]))
theorem im_Mg {B N : Mx} (h : IM B) (hT : TM N) (hS : SMg B N) : IM N := im_of h hT (by rw [hS 1 3 (by decide)]; exact h.2.1) (hS 0 36 (by decide)) (hS 0 59 (by decide)) (fun j => hS 21 j (by simp [aMg])) (fun j => hS 22 j (by simp [aMg])) (fun j => hS 23 j (by simp [aMg])) (fun j => hS 24 j (by simp [aMg])) (fun j => hS 25 j (by simp [aMg])) (fun j => hS 26 j (by simp [aMg])) (fun j => hS 34 j (by simp [aMg]))
theorem im_Mo {B N : Mx} (h : IM B) (hT : TM N) (hS : SMo B N) : IM N := im_of h hT (by rw [hS 1 3 (by decide)]; exact h.2.1) (hS 0 36 (by decide)) (hS 0 59 (by decide)) (fun j => hS 21 j (by simp [aMo])) (fun j => hS 22 j (by simp [aMo])) (fun j => hS 23 j (by simp [aMo])) (fun j => hS 24 j (by simp [aMo])) (fun j => hS 25 j (by simp [aMo])) (fun j => hS 26 j (by simp [aMo])) (fun j => hS 34 j (by simp [aMo]))
theorem im_Ml {B N : Mx} (h : IM B) (hT : TM N) (hS : SMl B N) : IM N := im_of h hT (by rw [hS 1 3 (by decide)]; exact h.2.1) (hS 0 36 (by decide)) (hS 0 59 (by decide)) (fun j => hS 21 j (by simp [aMl])) (fun j => hS 22 j (by simp [aMl])) (fun j => hS 23 j (by simp [aMl])) (fun j => hS 24 j (by simp [aMl])) (fun j => hS 25 j (by simp [aMl])) (fun j => hS 26 j (by simp [aMl])) (fun j => hS 34 j (by simp [aMl]))
theorem im_Mt {B N : Mx} (h : IM B) (hT : TM N) (hS : SMt B N) : IM N := im_of h hT (by rw [hS 1 3 (by decide)]; exact h.2.1) (hS 0 36 (by decide)) (hS 0 59 (by decide)) (fun j => hS 21 j (by simp [aMt])) (fun j => hS 22 j (by simp [aMt])) (fun j => hS 23 j (by simp [aMt])) (fun j => hS 24 j (by simp [aMt])) (fun j => hS 25 j (by simp [aMt])) (fun j => hS 26 j (by simp [aMt])) (fun j => hS 34 j (by simp [aMt]))
theorem im_N {B N : Mx} (h : IM B) (hT : TM N) (hS : SN B N) (h3 : N.1 1 3 ≤ 23) : IM N := im_of h hT h3 (hS 0 36 (by decide)) (hS 0 59 (by decide)) (fun j => hS 21 j (by simp [aN])) (fun j => hS 22 j (by simp [aN])) (fun j => hS 23 j (by simp [aN])) (fun j => hS 24 j (by simp [aN])) (fun j => hS 25 j (by simp [aN])) (fun j => hS 26 j (by simp [aN])) (fun j => hS 34 j (by simp [aN]))
theorem im_Nb {B N : Mx} (h : IM B) (hT : TM N) (hS : SNb B N) (h3 : N.1 1 3 ≤ 23) : IM N := im_of h hT h3 (hS 0 36 (by decide)) (hS 0 59 (by decide)) (fun j => hS 21 j (by simp [aNb])) (fun j => hS 22 j (by simp [aNb])) (fun j => hS 23 j (by simp [aNb])) (fun j => hS 24 j (by simp [aNb])) (fun j => hS 25 j (by simp [aNb])) (fun j => hS 26 j (by simp [aNb])) (fun j => hS 34 j (by simp [aNb]))
theorem im_Nh {B N : Mx} (h : IM B) (hT : TM N) (hS : SNh B N) (h3 : N.1 1 3 ≤ 23) : IM N := im_of h hT h3 (hS 0 36 (by decide)) (hS 0 59 (by decide)) (fun j => hS 21 j (by simp [aNh])) (fun j => hS 22 j (by simp [aNh])) (fun j => hS 23 j (by simp [aNh])) (fun j => hS 24 j (by simp [aNh])) (fun j => hS 25 j (by simp [aNh])) (fun j => hS 26 j (by simp [aNh])) (fun j => hS 34 j (by simp [aNh]))
theorem im_Nu {B N : Mx} (h : IM B) (hT : TM N) (hS : SNu B N) (h3 : N.1 1 3 ≤ 23) : IM N := im_of h hT h3 (hS 0 36 (by decide)) (hS 0 59 (by decide)) (fun j => hS 21 j (by simp [aNu])) (fun j => hS 22 j (by simp [aNu])) (fun j => hS 23 j (by simp [aNu])) (fun j => hS 24 j (by simp [aNu])) (fun j => hS 25 j (by simp [aNu])) (fun j => hS 26 j (by simp [aNu])) (fun j => hS 34 j (by simp [aNu]))
theorem sy_t {B N : Mx} (h : SY (up B 0 30 0) N) : N.1 0 30 = 0 ∧ ∀ a j, aY a j = true → ¬ (a = 0 ∧ j = 30) → N.1 a j = B.1 a j :=
  ⟨(h 0 30 (by decide)).trans (by simp [up]), fun a j q z => (h a j q).trans (if_neg z)⟩
theorem im_Y {B N : Mx} (h : IM B) (hT : TM N) (hS : SY (up B 0 30 0) N) (w : WL N) : IM N := by
  obtain ⟨-, e⟩ := sy_t hS
  exact ⟨hT, by rw [e 1 3 (by decide) (by decide)]; exact h.2.1, w, fun k h0 h1 => (e 21 k (by simp [aY]) (by simp)).trans (h.2.2.2.1 k h0 h1), WI_of (e 0 59 (by decide) (by decide)) (fun j => e 34 j (by simp [aY]) (by simp)) h.2.2.2.2⟩
theorem im_Q {B N : Mx} (h : IM B) (hT : TM N) (hS : SQ B N) (w : N.1 1 3 ≤ 23 ∧ WL N ∧ WI N) : IM N := ⟨hT, w.1, w.2.1, fun k h0 h1 => (hS 21 k (by simp [aQ])).trans (h.2.2.2.1 k h0 h1), w.2.2⟩
theorem im_Z {B N : Mx} {n r : Int32} (h : IM B) (hT : TM N) (hS : SZ B N) (hr : r = 0 ∨ r = 1) (w1 : r = 1 → NZ N n) (w0 : r = 0 → SM B N) : IM N := by
  rcases hr with e | e
  · exact im_M h hT (w0 e)
  · obtain ⟨z1, z2, -⟩ := w1 e
    exact ⟨hT, z2, fun l l0 l1 => by rw [z1] at l1; exact absurd (Int32.lt_of_le_of_lt l0 l1) (by decide), fun k h0 h1 => (hS 21 k (by simp [aZ])).trans (h.2.2.2.1 k h0 h1), WI_of (hS 0 59 (by decide)) (fun j => hS 34 j (by simp [aZ])) h.2.2.2.2⟩
/-- rows alike below m -/
def Rw (k : Nat) (m : Int32) (V W : Int32 → Int32) : Prop := ∀ n : Nat, n < k → nI n < m → V (nI n) = W (nI n)
theorem rw_0 {k : Nat} {V W : Int32 → Int32} (hk : k < 2 ^ 31) : Rw k 0 V W := fun n h1 h => absurd h (nI_pos (Nat.lt_trans h1 hk))
theorem rw_e {k : Nat} {m m' : Int32} {V V' W W' : Int32 → Int32} (h : Rw k m V W) (hm : m' = m) (e : ∀ j, V' j = V j) (f : ∀ j, W' j = W j) : Rw k m' V' W' := fun n h1 h2 => by
  rw [e, f]
  exact h n h1 (hm ▸ h2)
theorem rw_add {k : Nat} {m m' a : Int32} {V V' W W' : Int32 → Int32} (h : Rw k m V W) (hm : m ≤ 1000) (em : m' = m + 1) (hv : V' m = a) (hw : W' m = a) (e : ∀ j, ¬ j = m → V' j = V j) (f : ∀ j, ¬ j = m → W' j = W j) : Rw k m' V' W' := fun n h1 h2 => by
  by_cases q : nI n = m
  · rw [q, hv, hw]
  · rw [e _ q, f _ q]
    rw [em] at h2
    exact h n h1 ((lt_k1 hm h2).resolve_right q)
theorem rw_b {k : Nat} {m b : Int32} {V W : Int32 → Int32} (h : Rw k m V W) (hk : k < 2 ^ 31) (hm : m ≤ nI k) (b0 : 0 ≤ b) (b1 : b < m) : V b = W b := by
  obtain ⟨n, hn, e⟩ := nI_of (x := b) (Int32.not_lt.mpr b0)
  subst e
  exact h n ((nI_ltI hn hk).mp (Int32.lt_of_lt_of_le b1 hm)) b1
theorem Tk_c {m a : Int32} {V W : Int32 → Int32} (h : Rw 10 m V W) (hm : m ≤ 10) : Tk V m a ↔ Tk W m a :=
  ⟨fun ⟨b, b0, b1, b2⟩ => ⟨b, b0, b1, (rw_b h (by decide) hm b0 b1).symm.trans b2⟩, fun ⟨b, b0, b1, b2⟩ => ⟨b, b0, b1, (rw_b h (by decide) hm b0 b1).trans b2⟩⟩
theorem Bd_c {m f d : Int32} {V1 V2 V3 W1 W2 W3 : Int32 → Int32} (h1 : Rw 30 m V1 W1) (h2 : Rw 30 m V2 W2) (h3 : Rw 30 m V3 W3) (hm : m ≤ 30) : Bd V1 V2 V3 m f d ↔ Bd W1 W2 W3 m f d :=
  ⟨fun ⟨b, b0, b1, b2, b3⟩ => ⟨b, b0, b1, (rw_b h2 (by decide) hm b0 b1).symm.trans b2, by rw [← rw_b h1 (by decide) hm b0 b1, ← rw_b h3 (by decide) hm b0 b1]; exact b3⟩, fun ⟨b, b0, b1, b2, b3⟩ => ⟨b, b0, b1, (rw_b h2 (by decide) hm b0 b1).trans b2, by rw [rw_b h1 (by decide) hm b0 b1, rw_b h3 (by decide) hm b0 b1]; exact b3⟩⟩
theorem pb_r {V V' W W' : Int32 → Int32} {n n1 n2 nt a b c r s : Int32} (h : Rw 10 n V W) (hn : n ≤ 10) (p : PB V V' n n1 nt a b c r) (q : PB W W' n n2 nt a b c s) : r = s ∧ n1 = n2 ∧ Rw 10 n1 V' W' := by
  have e : CB V n nt a b c ↔ CB W n nt a b c := by
    unfold CB
    rw [Tk_c h hn]
  rcases p with ⟨p1, p2, p3, p4⟩ | ⟨p1, p2, p3, p4, p5⟩
  · rcases q with ⟨q1, q2, q3, q4⟩ | ⟨q1, q2, q3, q4, q5⟩
    · exact ⟨p1.trans q1.symm, p2.trans q2.symm, rw_e h p2 p3 q3⟩
    · exact absurd (e.mpr q5) p4
  · rcases q with ⟨q1, q2, q3, q4⟩ | ⟨q1, q2, q3, q4, q5⟩
    · exact absurd (e.mp p5) q4
    · exact ⟨p1.trans q1.symm, p2.trans q2.symm, rw_add h (Int32.le_trans hn (by decide)) p2 p3 q3 p4 q4⟩
theorem pa_r {V1 V2 V3 X1 X2 X3 W1 W2 W3 Y1 Y2 Y3 : Int32 → Int32} {F n n1 n2 a d b r s : Int32} (h1 : Rw 30 n V1 W1) (h2 : Rw 30 n V2 W2) (h3 : Rw 30 n V3 W3) (hn : n ≤ 30) (p : PA V1 V2 V3 X1 X2 X3 F n n1 a d b r) (q : PA W1 W2 W3 Y1 Y2 Y3 F n n2 a d b s) : r = s ∧ n1 = n2 ∧ Rw 30 n1 X1 Y1 ∧ Rw 30 n1 X2 Y2 ∧ Rw 30 n1 X3 Y3 := by
  have e : CA V1 V2 V3 F n a d b ↔ CA W1 W2 W3 F n a d b := by
    unfold CA CA0
    rw [Bd_c h1 h2 h3 hn, Bd_c h1 h2 h3 hn]
  have hm : n ≤ 1000 := Int32.le_trans hn (by decide)
  rcases p with ⟨p1, p2, p3, p4⟩ | ⟨p1, p2, ⟨p3, p4, p5⟩, p6, p7⟩
  · rcases q with ⟨q1, q2, q3, q4⟩ | ⟨q1, q2, q3, q4, q5⟩
    · exact ⟨p1.trans q1.symm, p2.trans q2.symm, rw_e h1 p2 (fun j => (p3 j).1) (fun j => (q3 j).1), rw_e h2 p2 (fun j => (p3 j).2.1) (fun j => (q3 j).2.1), rw_e h3 p2 (fun j => (p3 j).2.2) (fun j => (q3 j).2.2)⟩
    · exact absurd (e.mpr q5) p4
  · rcases q with ⟨q1, q2, q3, q4⟩ | ⟨q1, q2, ⟨q3, q4, q5⟩, q6, q7⟩
    · exact absurd (e.mp p7) q4
    · exact ⟨p1.trans q1.symm, p2.trans q2.symm, rw_add h1 hm p2 p3 q3 (fun j z => (p6 j z).1) (fun j z => (q6 j z).1), rw_add h2 hm p2 p4 q4 (fun j z => (p6 j z).2.1) (fun j z => (q6 j z).2.1), rw_add h3 hm p2 p5 q5 (fun j z => (p6 j z).2.2) (fun j z => (q6 j z).2.2)⟩
theorem pf_r {n n1 n2 a b c d r s : Int32} (p : PF n n1 a b c d r) (q : PF n n2 a b c d s) : r = s ∧ n1 = n2 := by unfold PF at p q; grind
theorem ps_r {n n1 n2 a b c r s : Int32} (p : PS n n1 a b c r) (q : PS n n2 a b c s) : r = s ∧ n1 = n2 := by unfold PS at p q; grind
theorem pg_r {n n1 n2 F f v r s : Int32} (p : PG n n1 F f v r) (q : PG n n2 F f v s) : r = s ∧ n1 = n2 := by unfold PG at p q; grind
theorem pt_r {n n1 n2 r s : Int32} (p : PT n n1 r) (q : PT n n2 s) : r = s ∧ n1 = n2 := by unfold PT at p q; grind
theorem pe_r {n n1 n2 k r s : Int32} (p : PE n n1 k r) (q : PE n n2 k s) : r = s ∧ n1 = n2 := by unfold PE at p q; grind
theorem bp_r {P Q : Prop} {r s : Int32} (e : P ↔ Q) (p : (r = 1 ∧ P) ∨ (r = 0 ∧ ¬ P)) (q : (s = 1 ∧ Q) ∨ (s = 0 ∧ ¬ Q)) : r = s := by grind
/-- the picture and the image alike -/
def Rp (A B : Mx) : Prop := A.1 49 0 = B.1 34 0 ∧ A.1 49 1 = B.1 34 1 ∧ A.1 49 2 = B.1 34 3 ∧ A.1 56 0 = B.1 34 2 ∧ A.1 56 3 = B.1 34 412 ∧ A.1 65 1 = B.1 34 321 ∧ Rw 10 (A.1 49 1) (A.1 50) (fun j => B.1 34 (166 + 3 * j)) ∧ Rw 30 (A.1 65 1) (A.1 67) (fun j => B.1 34 (322 + 3 * j)) ∧ Rw 30 (A.1 65 1) (A.1 68) (fun j => B.1 34 (323 + 3 * j)) ∧ Rw 30 (A.1 65 1) (A.1 69) (fun j => B.1 34 (324 + 3 * j))
/-- class and reference alike -/
def Rl (A B : Mx) : Prop := (A.1 12 0 = B.1 0 4 ∧ A.1 12 1 = B.1 0 5 ∧ A.1 12 2 = B.1 0 16 ∧ A.1 19 0 = B.1 0 9 ∧ A.1 19 3 = B.1 0 24 ∧ A.1 28 1 = B.1 0 19 ∧ A.1 0 2 = B.1 0 59 ∧ A.1 158 0 = B.1 0 30) ∧ (Rw 10 (A.1 12 1) (A.1 13) (B.1 3) ∧ Rw 30 (A.1 28 1) (A.1 30) (B.1 14) ∧ Rw 30 (A.1 28 1) (A.1 31) (B.1 15) ∧ Rw 30 (A.1 28 1) (A.1 32) (B.1 16)) ∧ (B.1 0 59 = 0 ∨ Rp A B)
theorem rp_of {A A' B B' : Mx} (h : Rp A B) (e0 : A'.1 49 0 = A.1 49 0) (e1 : A'.1 49 1 = A.1 49 1) (e2 : A'.1 49 2 = A.1 49 2) (e3 : A'.1 56 0 = A.1 56 0) (e4 : A'.1 56 3 = A.1 56 3) (e5 : A'.1 65 1 = A.1 65 1) (f0 : ∀ j, A'.1 50 j = A.1 50 j) (f1 : ∀ j, A'.1 67 j = A.1 67 j) (f2 : ∀ j, A'.1 68 j = A.1 68 j) (f3 : ∀ j, A'.1 69 j = A.1 69 j) (g : ∀ j, B'.1 34 j = B.1 34 j) : Rp A' B' := by
  obtain ⟨h0, h1, h2, h3, h4, h5, h6, h7, h8, h9⟩ := h
  exact ⟨by rw [e0, g]; exact h0, by rw [e1, g]; exact h1, by rw [e2, g]; exact h2, by rw [e3, g]; exact h3, by rw [e4, g]; exact h4, by rw [e5, g]; exact h5, rw_e h6 e1 f0 (fun j => g _), rw_e h7 e5 f1 (fun j => g _), rw_e h8 e5 f2 (fun j => g _), rw_e h9 e5 f3 (fun j => g _)⟩
theorem rl_pic {A A' B B' : Mx} (h : B.1 0 59 = 0 ∨ Rp A B) (h59 : B'.1 0 59 = B.1 0 59) (e0 : A'.1 49 0 = A.1 49 0) (e1 : A'.1 49 1 = A.1 49 1) (e2 : A'.1 49 2 = A.1 49 2) (e3 : A'.1 56 0 = A.1 56 0) (e4 : A'.1 56 3 = A.1 56 3) (e5 : A'.1 65 1 = A.1 65 1) (f0 : ∀ j, A'.1 50 j = A.1 50 j) (f1 : ∀ j, A'.1 67 j = A.1 67 j) (f2 : ∀ j, A'.1 68 j = A.1 68 j) (f3 : ∀ j, A'.1 69 j = A.1 69 j) (g : ∀ j, B'.1 34 j = B.1 34 j) : B'.1 0 59 = 0 ∨ Rp A' B' :=
  h.elim (fun z => Or.inl (h59.trans z)) (fun z => Or.inr (rp_of z e0 e1 e2 e3 e4 e5 f0 f1 f2 f3 g))
theorem rl_X_M {A A' B B' : Mx} (h : Rl A B) (hT : TX A) (hA : SX A A') (hB : SM B B')  : Rl A' B' := by
  obtain ⟨⟨r0, r1, r2, r3, r4, r5, r6, r7⟩, ⟨w0, w1, w2, w3⟩, im⟩ := h
  exact ⟨⟨by rw [hA 12 0 (by decide), hB 0 4 (by decide)]; exact r0, by rw [hA 12 1 (by decide), hB 0 5 (by decide)]; exact r1, by rw [hA 12 2 (by decide), hB 0 16 (by decide)]; exact r2, by rw [hA 19 0 (by decide), hB 0 9 (by decide)]; exact r3, by rw [hA 19 3 (by decide), hB 0 24 (by decide)]; exact r4, by rw [hA 28 1 (by decide), hB 0 19 (by decide)]; exact r5, by rw [hA 0 2 (by decide), hB 0 59 (by decide)]; exact r6, by rw [hA 158 0 (by decide), hB 0 30 (by decide)]; exact r7⟩, ⟨rw_e w0 (hA 12 1 (by decide)) (fun j => hA 13 j (by simp [aX])) (fun j => hB 3 j (by simp [aM])), rw_e w1 (hA 28 1 (by decide)) (fun j => hA 30 j (by simp [aX])) (fun j => hB 14 j (by simp [aM])), rw_e w2 (hA 28 1 (by decide)) (fun j => hA 31 j (by simp [aX])) (fun j => hB 15 j (by simp [aM])), rw_e w3 (hA 28 1 (by decide)) (fun j => hA 32 j (by simp [aX])) (fun j => hB 16 j (by simp [aM]))⟩, rl_pic im (hB 0 59 (by decide)) (hA 49 0 (by decide)) (hA 49 1 (by decide)) (hA 49 2 (by decide)) (hA 56 0 (by decide)) (hA 56 3 (by decide)) (hA 65 1 (by decide)) (fun j => hA 50 j (by simp [aX])) (fun j => hA 67 j (by simp [aX])) (fun j => hA 68 j (by simp [aX])) (fun j => hA 69 j (by simp [aX])) (fun j => hB 34 j (by simp [aM]))⟩
theorem rl_Xz_Mz {A A' B B' : Mx} (h : Rl A B) (hT : TX A) (hA : SXz A A') (hB : SMz B B')  : Rl A' B' := by
  obtain ⟨⟨r0, r1, r2, r3, r4, r5, r6, r7⟩, ⟨w0, w1, w2, w3⟩, im⟩ := h
  exact ⟨⟨by rw [hA 12 0 (by decide), hB 0 4 (by decide)]; exact r0, by rw [hA 12 1 (by decide), hB 0 5 (by decide)]; exact r1, by rw [hA 12 2 (by decide), hB 0 16 (by decide)]; exact r2, by rw [hA 19 0 (by decide), hB 0 9 (by decide)]; exact r3, by rw [hA 19 3 (by decide), hB 0 24 (by decide)]; exact r4, by rw [hA 28 1 (by decide), hB 0 19 (by decide)]; exact r5, by rw [hA 0 2 (by decide), hB 0 59 (by decide)]; exact r6, by rw [hA 158 0 (by decide), hB 0 30 (by decide)]; exact r7⟩, ⟨rw_e w0 (hA 12 1 (by decide)) (fun j => hA 13 j (by simp [aXz, aX])) (fun j => hB 3 j (by simp [aMz])), rw_e w1 (hA 28 1 (by decide)) (fun j => hA 30 j (by simp [aXz, aX])) (fun j => hB 14 j (by simp [aMz])), rw_e w2 (hA 28 1 (by decide)) (fun j => hA 31 j (by simp [aXz, aX])) (fun j => hB 15 j (by simp [aMz])), rw_e w3 (hA 28 1 (by decide)) (fun j => hA 32 j (by simp [aXz, aX])) (fun j => hB 16 j (by simp [aMz]))⟩, rl_pic im (hB 0 59 (by decide)) (hA 49 0 (by decide)) (hA 49 1 (by decide)) (hA 49 2 (by decide)) (hA 56 0 (by decide)) (hA 56 3 (by decide)) (hA 65 1 (by decide)) (fun j => hA 50 j (by simp [aXz, aX])) (fun j => hA 67 j (by simp [aXz, aX])) (fun j => hA 68 j (by simp [aXz, aX])) (fun j => hA 69 j (by simp [aXz, aX])) (fun j => hB 34 j (by simp [aMz]))⟩
theorem rl_X_Nb {A A' B B' : Mx} (h : Rl A B) (hT : TX A) (hA : SX A A') (hB : SNb B B')  : Rl A' B' := by
  obtain ⟨⟨r0, r1, r2, r3, r4, r5, r6, r7⟩, ⟨w0, w1, w2, w3⟩, im⟩ := h
  exact ⟨⟨by rw [hA 12 0 (by decide), hB 0 4 (by decide)]; exact r0, by rw [hA 12 1 (by decide), hB 0 5 (by decide)]; exact r1, by rw [hA 12 2 (by decide), hB 0 16 (by decide)]; exact r2, by rw [hA 19 0 (by decide), hB 0 9 (by decide)]; exact r3, by rw [hA 19 3 (by decide), hB 0 24 (by decide)]; exact r4, by rw [hA 28 1 (by decide), hB 0 19 (by decide)]; exact r5, by rw [hA 0 2 (by decide), hB 0 59 (by decide)]; exact r6, by rw [hA 158 0 (by decide), hB 0 30 (by decide)]; exact r7⟩, ⟨rw_e w0 (hA 12 1 (by decide)) (fun j => hA 13 j (by simp [aX])) (fun j => hB 3 j (by simp [aNb])), rw_e w1 (hA 28 1 (by decide)) (fun j => hA 30 j (by simp [aX])) (fun j => hB 14 j (by simp [aNb])), rw_e w2 (hA 28 1 (by decide)) (fun j => hA 31 j (by simp [aX])) (fun j => hB 15 j (by simp [aNb])), rw_e w3 (hA 28 1 (by decide)) (fun j => hA 32 j (by simp [aX])) (fun j => hB 16 j (by simp [aNb]))⟩, rl_pic im (hB 0 59 (by decide)) (hA 49 0 (by decide)) (hA 49 1 (by decide)) (hA 49 2 (by decide)) (hA 56 0 (by decide)) (hA 56 3 (by decide)) (hA 65 1 (by decide)) (fun j => hA 50 j (by simp [aX])) (fun j => hA 67 j (by simp [aX])) (fun j => hA 68 j (by simp [aX])) (fun j => hA 69 j (by simp [aX])) (fun j => hB 34 j (by simp [aNb]))⟩
theorem rl_Xh_Nh {A A' B B' : Mx} (h : Rl A B) (hT : TX A) (hA : SXh A A') (hB : SNh B B')  : Rl A' B' := by
  obtain ⟨⟨r0, r1, r2, r3, r4, r5, r6, r7⟩, ⟨w0, w1, w2, w3⟩, im⟩ := h
  exact ⟨⟨by rw [hA 12 0 (by decide), hB 0 4 (by decide)]; exact r0, by rw [hA 12 1 (by decide), hB 0 5 (by decide)]; exact r1, by rw [hA 12 2 (by decide), hB 0 16 (by decide)]; exact r2, by rw [hA 19 0 (by decide), hB 0 9 (by decide)]; exact r3, by rw [hA 19 3 (by decide), hB 0 24 (by decide)]; exact r4, by rw [hA 28 1 (by decide), hB 0 19 (by decide)]; exact r5, by rw [hA 0 2 (by decide), hB 0 59 (by decide)]; exact r6, by rw [hA 158 0 (by decide), hB 0 30 (by decide)]; exact r7⟩, ⟨rw_e w0 (hA 12 1 (by decide)) (fun j => hA 13 j (by simp [aXh])) (fun j => hB 3 j (by simp [aNh])), rw_e w1 (hA 28 1 (by decide)) (fun j => hA 30 j (by simp [aXh])) (fun j => hB 14 j (by simp [aNh])), rw_e w2 (hA 28 1 (by decide)) (fun j => hA 31 j (by simp [aXh])) (fun j => hB 15 j (by simp [aNh])), rw_e w3 (hA 28 1 (by decide)) (fun j => hA 32 j (by simp [aXh])) (fun j => hB 16 j (by simp [aNh]))⟩, rl_pic im (hB 0 59 (by decide)) (hA 49 0 (by decide)) (hA 49 1 (by decide)) (hA 49 2 (by decide)) (hA 56 0 (by decide)) (hA 56 3 (by decide)) (hA 65 1 (by decide)) (fun j => hA 50 j (by simp [aXh])) (fun j => hA 67 j (by simp [aXh])) (fun j => hA 68 j (by simp [aXh])) (fun j => hA 69 j (by simp [aXh])) (fun j => hB 34 j (by simp [aNh]))⟩
theorem rl_Xu_Nu {A A' B B' : Mx} (h : Rl A B) (hT : TX A) (hA : SXu A A') (hB : SNu B B')  : Rl A' B' := by
  obtain ⟨⟨r0, r1, r2, r3, r4, r5, r6, r7⟩, ⟨w0, w1, w2, w3⟩, im⟩ := h
  exact ⟨⟨by rw [hA 12 0 (by decide), hB 0 4 (by decide)]; exact r0, by rw [hA 12 1 (by decide), hB 0 5 (by decide)]; exact r1, by rw [hA 12 2 (by decide), hB 0 16 (by decide)]; exact r2, by rw [hA 19 0 (by decide), hB 0 9 (by decide)]; exact r3, by rw [hA 19 3 (by decide), hB 0 24 (by decide)]; exact r4, by rw [hA 28 1 (by decide), hB 0 19 (by decide)]; exact r5, by rw [hA 0 2 (by decide), hB 0 59 (by decide)]; exact r6, by rw [hA 158 0 (by decide), hB 0 30 (by decide)]; exact r7⟩, ⟨rw_e w0 (hA 12 1 (by decide)) (fun j => hA 13 j (by simp [aXu, aX])) (fun j => hB 3 j (by simp [aNu])), rw_e w1 (hA 28 1 (by decide)) (fun j => hA 30 j (by simp [aXu, aX])) (fun j => hB 14 j (by simp [aNu])), rw_e w2 (hA 28 1 (by decide)) (fun j => hA 31 j (by simp [aXu, aX])) (fun j => hB 15 j (by simp [aNu])), rw_e w3 (hA 28 1 (by decide)) (fun j => hA 32 j (by simp [aXu, aX])) (fun j => hB 16 j (by simp [aNu]))⟩, rl_pic im (hB 0 59 (by decide)) (hA 49 0 (by decide)) (hA 49 1 (by decide)) (hA 49 2 (by decide)) (hA 56 0 (by decide)) (hA 56 3 (by decide)) (hA 65 1 (by decide)) (fun j => hA 50 j (by simp [aXu, aX])) (fun j => hA 67 j (by simp [aXu, aX])) (fun j => hA 68 j (by simp [aXu, aX])) (fun j => hA 69 j (by simp [aXu, aX])) (fun j => hB 34 j (by simp [aNu]))⟩
theorem rl_Xo_Mo {A A' B B' : Mx} (h : Rl A B) (hT : TX A) (hA : SXo A A') (hB : SMo B B')  : Rl A' B' := by
  obtain ⟨⟨r0, r1, r2, r3, r4, r5, r6, r7⟩, ⟨w0, w1, w2, w3⟩, im⟩ := h
  exact ⟨⟨by rw [hA 12 0 (by decide), hB 0 4 (by decide)]; exact r0, by rw [hA 12 1 (by decide), hB 0 5 (by decide)]; exact r1, by rw [hA 12 2 (by decide), hB 0 16 (by decide)]; exact r2, by rw [hA 19 0 (by decide), hB 0 9 (by decide)]; exact r3, by rw [hA 19 3 (by decide), hB 0 24 (by decide)]; exact r4, by rw [hA 28 1 (by decide), hB 0 19 (by decide)]; exact r5, by rw [hA 0 2 (by decide), hB 0 59 (by decide)]; exact r6, by rw [hA 158 0 (by decide), hB 0 30 (by decide)]; exact r7⟩, ⟨rw_e w0 (hA 12 1 (by decide)) (fun j => hA 13 j (by simp [aXo, aX])) (fun j => hB 3 j (by simp [aMo])), rw_e w1 (hA 28 1 (by decide)) (fun j => hA 30 j (by simp [aXo, aX])) (fun j => hB 14 j (by simp [aMo])), rw_e w2 (hA 28 1 (by decide)) (fun j => hA 31 j (by simp [aXo, aX])) (fun j => hB 15 j (by simp [aMo])), rw_e w3 (hA 28 1 (by decide)) (fun j => hA 32 j (by simp [aXo, aX])) (fun j => hB 16 j (by simp [aMo]))⟩, rl_pic im (hB 0 59 (by decide)) (hA 49 0 (by decide)) (hA 49 1 (by decide)) (hA 49 2 (by decide)) (hA 56 0 (by decide)) (hA 56 3 (by decide)) (hA 65 1 (by decide)) (fun j => hA 50 j (by simp [aXo, aX])) (fun j => hA 67 j (by simp [aXo, aX])) (fun j => hA 68 j (by simp [aXo, aX])) (fun j => hA 69 j (by simp [aXo, aX])) (fun j => hB 34 j (by simp [aMo]))⟩
theorem rl_Xl_Ml {A A' B B' : Mx} (h : Rl A B) (hT : TX A) (hA : SXl A A') (hB : SMl B B')  : Rl A' B' := by
  obtain ⟨⟨r0, r1, r2, r3, r4, r5, r6, r7⟩, ⟨w0, w1, w2, w3⟩, im⟩ := h
  exact ⟨⟨by rw [hA 12 0 (by decide), hB 0 4 (by decide)]; exact r0, by rw [hA 12 1 (by decide), hB 0 5 (by decide)]; exact r1, by rw [hA 12 2 (by decide), hB 0 16 (by decide)]; exact r2, by rw [hA 19 0 (by decide), hB 0 9 (by decide)]; exact r3, by rw [hA 19 3 (by decide), hB 0 24 (by decide)]; exact r4, by rw [hA 28 1 (by decide), hB 0 19 (by decide)]; exact r5, by rw [hA 0 2 (by decide), hB 0 59 (by decide)]; exact r6, by rw [hA 158 0 (by decide), hB 0 30 (by decide)]; exact r7⟩, ⟨rw_e w0 (hA 12 1 (by decide)) (fun j => hA 13 j (by simp [aXl, aX])) (fun j => hB 3 j (by simp [aMl])), rw_e w1 (hA 28 1 (by decide)) (fun j => hA 30 j (by simp [aXl, aX])) (fun j => hB 14 j (by simp [aMl])), rw_e w2 (hA 28 1 (by decide)) (fun j => hA 31 j (by simp [aXl, aX])) (fun j => hB 15 j (by simp [aMl])), rw_e w3 (hA 28 1 (by decide)) (fun j => hA 32 j (by simp [aXl, aX])) (fun j => hB 16 j (by simp [aMl]))⟩, rl_pic im (hB 0 59 (by decide)) (hA 49 0 (by decide)) (hA 49 1 (by decide)) (hA 49 2 (by decide)) (hA 56 0 (by decide)) (hA 56 3 (by decide)) (hA 65 1 (by decide)) (fun j => hA 50 j (by simp [aXl, aX])) (fun j => hA 67 j (by simp [aXl, aX])) (fun j => hA 68 j (by simp [aXl, aX])) (fun j => hA 69 j (by simp [aXl, aX])) (fun j => hB 34 j (by simp [aMl]))⟩
theorem rl_farm {A A' B B' : Mx} {a b c d r s : Int32} (h : Rl A B) (hT : TX A) (hA : SXf A A') (hB : SF B B') (p : PF (A.1 19 0) (A'.1 19 0) a b c d r) (q : PF (B.1 0 9) (B'.1 0 9) a b c d s) : r = s ∧ Rl A' B' := by
  obtain ⟨⟨r0, r1, r2, r3, r4, r5, r6, r7⟩, ⟨w0, w1, w2, w3⟩, im⟩ := h
  rw [← r3] at q
  have k := pf_r p q
  exact ⟨k.1, ⟨⟨by rw [hA 12 0 (by decide), hB 0 4 (by decide)]; exact r0, by rw [hA 12 1 (by decide), hB 0 5 (by decide)]; exact r1, by rw [hA 12 2 (by decide), hB 0 16 (by decide)]; exact r2, k.2, by rw [hA 19 3 (by decide), hB 0 24 (by decide)]; exact r4, by rw [hA 28 1 (by decide), hB 0 19 (by decide)]; exact r5, by rw [hA 0 2 (by decide), hB 0 59 (by decide)]; exact r6, by rw [hA 158 0 (by decide), hB 0 30 (by decide)]; exact r7⟩, ⟨rw_e w0 (hA 12 1 (by decide)) (fun j => hA 13 j (by simp [aXf, aX])) (fun j => hB 3 j (by simp [aF])), rw_e w1 (hA 28 1 (by decide)) (fun j => hA 30 j (by simp [aXf, aX])) (fun j => hB 14 j (by simp [aF])), rw_e w2 (hA 28 1 (by decide)) (fun j => hA 31 j (by simp [aXf, aX])) (fun j => hB 15 j (by simp [aF])), rw_e w3 (hA 28 1 (by decide)) (fun j => hA 32 j (by simp [aXf, aX])) (fun j => hB 16 j (by simp [aF]))⟩, rl_pic im (hB 0 59 (by decide)) (hA 49 0 (by decide)) (hA 49 1 (by decide)) (hA 49 2 (by decide)) (hA 56 0 (by decide)) (hA 56 3 (by decide)) (hA 65 1 (by decide)) (fun j => hA 50 j (by simp [aXf, aX])) (fun j => hA 67 j (by simp [aXf, aX])) (fun j => hA 68 j (by simp [aXf, aX])) (fun j => hA 69 j (by simp [aXf, aX])) (fun j => hB 34 j (by simp [aF]))⟩⟩
theorem rl_log {A A' B B' : Mx} {f v r s : Int32} (h : Rl A B) (hT : TX A) (hA : SXg A A') (hB : SMg B B') (p : PG (A.1 19 3) (A'.1 19 3) (A.1 19 0) f v r) (q : PG (B.1 0 24) (B'.1 0 24) (B.1 0 9) f v s) : r = s ∧ Rl A' B' := by
  obtain ⟨⟨r0, r1, r2, r3, r4, r5, r6, r7⟩, ⟨w0, w1, w2, w3⟩, im⟩ := h
  rw [← r3, ← r4] at q
  have k := pg_r p q
  exact ⟨k.1, ⟨⟨by rw [hA 12 0 (by decide), hB 0 4 (by decide)]; exact r0, by rw [hA 12 1 (by decide), hB 0 5 (by decide)]; exact r1, by rw [hA 12 2 (by decide), hB 0 16 (by decide)]; exact r2, by rw [hA 19 0 (by decide), hB 0 9 (by decide)]; exact r3, k.2, by rw [hA 28 1 (by decide), hB 0 19 (by decide)]; exact r5, by rw [hA 0 2 (by decide), hB 0 59 (by decide)]; exact r6, by rw [hA 158 0 (by decide), hB 0 30 (by decide)]; exact r7⟩, ⟨rw_e w0 (hA 12 1 (by decide)) (fun j => hA 13 j (by simp [aXg, aX])) (fun j => hB 3 j (by simp [aMg])), rw_e w1 (hA 28 1 (by decide)) (fun j => hA 30 j (by simp [aXg, aX])) (fun j => hB 14 j (by simp [aMg])), rw_e w2 (hA 28 1 (by decide)) (fun j => hA 31 j (by simp [aXg, aX])) (fun j => hB 15 j (by simp [aMg])), rw_e w3 (hA 28 1 (by decide)) (fun j => hA 32 j (by simp [aXg, aX])) (fun j => hB 16 j (by simp [aMg]))⟩, rl_pic im (hB 0 59 (by decide)) (hA 49 0 (by decide)) (hA 49 1 (by decide)) (hA 49 2 (by decide)) (hA 56 0 (by decide)) (hA 56 3 (by decide)) (hA 65 1 (by decide)) (fun j => hA 50 j (by simp [aXg, aX])) (fun j => hA 67 j (by simp [aXg, aX])) (fun j => hA 68 j (by simp [aXg, aX])) (fun j => hA 69 j (by simp [aXg, aX])) (fun j => hB 34 j (by simp [aMg]))⟩⟩
theorem rl_splice {A A' B B' : Mx} {a b c r s : Int32} (h : Rl A B) (hT : TX A) (hA : SXs A A') (hB : SMs B B') (p : PS (A.1 12 2) (A'.1 12 2) a b c r) (q : PS (B.1 0 16) (B'.1 0 16) a b c s) : r = s ∧ Rl A' B' := by
  obtain ⟨⟨r0, r1, r2, r3, r4, r5, r6, r7⟩, ⟨w0, w1, w2, w3⟩, im⟩ := h
  rw [← r2] at q
  have k := ps_r p q
  exact ⟨k.1, ⟨⟨by rw [hA 12 0 (by decide), hB 0 4 (by decide)]; exact r0, by rw [hA 12 1 (by decide), hB 0 5 (by decide)]; exact r1, k.2, by rw [hA 19 0 (by decide), hB 0 9 (by decide)]; exact r3, by rw [hA 19 3 (by decide), hB 0 24 (by decide)]; exact r4, by rw [hA 28 1 (by decide), hB 0 19 (by decide)]; exact r5, by rw [hA 0 2 (by decide), hB 0 59 (by decide)]; exact r6, by rw [hA 158 0 (by decide), hB 0 30 (by decide)]; exact r7⟩, ⟨rw_e w0 (hA 12 1 (by decide)) (fun j => hA 13 j (by simp [aXs, aX])) (fun j => hB 3 j (by simp [aMs])), rw_e w1 (hA 28 1 (by decide)) (fun j => hA 30 j (by simp [aXs, aX])) (fun j => hB 14 j (by simp [aMs])), rw_e w2 (hA 28 1 (by decide)) (fun j => hA 31 j (by simp [aXs, aX])) (fun j => hB 15 j (by simp [aMs])), rw_e w3 (hA 28 1 (by decide)) (fun j => hA 32 j (by simp [aXs, aX])) (fun j => hB 16 j (by simp [aMs]))⟩, rl_pic im (hB 0 59 (by decide)) (hA 49 0 (by decide)) (hA 49 1 (by decide)) (hA 49 2 (by decide)) (hA 56 0 (by decide)) (hA 56 3 (by decide)) (hA 65 1 (by decide)) (fun j => hA 50 j (by simp [aXs, aX])) (fun j => hA 67 j (by simp [aXs, aX])) (fun j => hA 68 j (by simp [aXs, aX])) (fun j => hA 69 j (by simp [aXs, aX])) (fun j => hB 34 j (by simp [aMs]))⟩⟩
theorem rl_feed {A A' B B' : Mx} {r s : Int32} (h : Rl A B) (hT : TX A) (hA : SXt A A') (hB : ST B B') (p : PT (A.1 158 0) (A'.1 158 0) r) (q : PT (B.1 0 30) (B'.1 0 30) s) : r = s ∧ Rl A' B' := by
  obtain ⟨⟨r0, r1, r2, r3, r4, r5, r6, r7⟩, ⟨w0, w1, w2, w3⟩, im⟩ := h
  rw [← r7] at q
  have k := pt_r p q
  exact ⟨k.1, ⟨⟨by rw [hA 12 0 (by decide), hB 0 4 (by decide)]; exact r0, by rw [hA 12 1 (by decide), hB 0 5 (by decide)]; exact r1, by rw [hA 12 2 (by decide), hB 0 16 (by decide)]; exact r2, by rw [hA 19 0 (by decide), hB 0 9 (by decide)]; exact r3, by rw [hA 19 3 (by decide), hB 0 24 (by decide)]; exact r4, by rw [hA 28 1 (by decide), hB 0 19 (by decide)]; exact r5, by rw [hA 0 2 (by decide), hB 0 59 (by decide)]; exact r6, k.2⟩, ⟨rw_e w0 (hA 12 1 (by decide)) (fun j => hA 13 j (by simp [aXt, aX])) (fun j => hB 3 j (by simp [aT])), rw_e w1 (hA 28 1 (by decide)) (fun j => hA 30 j (by simp [aXt, aX])) (fun j => hB 14 j (by simp [aT])), rw_e w2 (hA 28 1 (by decide)) (fun j => hA 31 j (by simp [aXt, aX])) (fun j => hB 15 j (by simp [aT])), rw_e w3 (hA 28 1 (by decide)) (fun j => hA 32 j (by simp [aXt, aX])) (fun j => hB 16 j (by simp [aT]))⟩, rl_pic im (hB 0 59 (by decide)) (hA 49 0 (by decide)) (hA 49 1 (by decide)) (hA 49 2 (by decide)) (hA 56 0 (by decide)) (hA 56 3 (by decide)) (hA 65 1 (by decide)) (fun j => hA 50 j (by simp [aXt, aX])) (fun j => hA 67 j (by simp [aXt, aX])) (fun j => hA 68 j (by simp [aXt, aX])) (fun j => hA 69 j (by simp [aXt, aX])) (fun j => hB 34 j (by simp [aT]))⟩⟩
theorem rl_end {A A' B B' : Mx} {n r s : Int32} (h : Rl A B) (hT : TX A) (hA : SXt A A') (hB : SMt B B') (p : PE (A.1 158 0) (A'.1 158 0) n r) (q : PE (B.1 0 30) (B'.1 0 30) n s) : r = s ∧ Rl A' B' := by
  obtain ⟨⟨r0, r1, r2, r3, r4, r5, r6, r7⟩, ⟨w0, w1, w2, w3⟩, im⟩ := h
  rw [← r7] at q
  have k := pe_r p q
  exact ⟨k.1, ⟨⟨by rw [hA 12 0 (by decide), hB 0 4 (by decide)]; exact r0, by rw [hA 12 1 (by decide), hB 0 5 (by decide)]; exact r1, by rw [hA 12 2 (by decide), hB 0 16 (by decide)]; exact r2, by rw [hA 19 0 (by decide), hB 0 9 (by decide)]; exact r3, by rw [hA 19 3 (by decide), hB 0 24 (by decide)]; exact r4, by rw [hA 28 1 (by decide), hB 0 19 (by decide)]; exact r5, by rw [hA 0 2 (by decide), hB 0 59 (by decide)]; exact r6, k.2⟩, ⟨rw_e w0 (hA 12 1 (by decide)) (fun j => hA 13 j (by simp [aXt, aX])) (fun j => hB 3 j (by simp [aMt])), rw_e w1 (hA 28 1 (by decide)) (fun j => hA 30 j (by simp [aXt, aX])) (fun j => hB 14 j (by simp [aMt])), rw_e w2 (hA 28 1 (by decide)) (fun j => hA 31 j (by simp [aXt, aX])) (fun j => hB 15 j (by simp [aMt])), rw_e w3 (hA 28 1 (by decide)) (fun j => hA 32 j (by simp [aXt, aX])) (fun j => hB 16 j (by simp [aMt]))⟩, rl_pic im (hB 0 59 (by decide)) (hA 49 0 (by decide)) (hA 49 1 (by decide)) (hA 49 2 (by decide)) (hA 56 0 (by decide)) (hA 56 3 (by decide)) (hA 65 1 (by decide)) (fun j => hA 50 j (by simp [aXt, aX])) (fun j => hA 67 j (by simp [aXt, aX])) (fun j => hA 68 j (by simp [aXt, aX])) (fun j => hA 69 j (by simp [aXt, aX])) (fun j => hB 34 j (by simp [aMt]))⟩⟩
theorem rl_bucket {A A' B B' : Mx} {a b c r s : Int32} (h : Rl A B) (hT : TX A) (hA : SXb A A') (hB : SMb B B') (p : PB (A.1 13) (A'.1 13) (A.1 12 1) (A'.1 12 1) (A.1 12 0) a b c r) (q : PB (B.1 3) (B'.1 3) (B.1 0 5) (B'.1 0 5) (B.1 0 4) a b c s) : r = s ∧ Rl A' B' := by
  obtain ⟨⟨r0, r1, r2, r3, r4, r5, r6, r7⟩, ⟨w0, w1, w2, w3⟩, im⟩ := h
  rw [← r0, ← r1] at q
  have k := pb_r w0 (tX_12_1 hT).2 p q
  exact ⟨k.1, ⟨⟨by rw [hA 12 0 (by decide), hB 0 4 (by decide)]; exact r0, k.2.1, by rw [hA 12 2 (by decide), hB 0 16 (by decide)]; exact r2, by rw [hA 19 0 (by decide), hB 0 9 (by decide)]; exact r3, by rw [hA 19 3 (by decide), hB 0 24 (by decide)]; exact r4, by rw [hA 28 1 (by decide), hB 0 19 (by decide)]; exact r5, by rw [hA 0 2 (by decide), hB 0 59 (by decide)]; exact r6, by rw [hA 158 0 (by decide), hB 0 30 (by decide)]; exact r7⟩, ⟨k.2.2, rw_e w1 (hA 28 1 (by decide)) (fun j => hA 30 j (by simp [aXb, aX])) (fun j => hB 14 j (by simp [aMb])), rw_e w2 (hA 28 1 (by decide)) (fun j => hA 31 j (by simp [aXb, aX])) (fun j => hB 15 j (by simp [aMb])), rw_e w3 (hA 28 1 (by decide)) (fun j => hA 32 j (by simp [aXb, aX])) (fun j => hB 16 j (by simp [aMb]))⟩, rl_pic im (hB 0 59 (by decide)) (hA 49 0 (by decide)) (hA 49 1 (by decide)) (hA 49 2 (by decide)) (hA 56 0 (by decide)) (hA 56 3 (by decide)) (hA 65 1 (by decide)) (fun j => hA 50 j (by simp [aXb, aX])) (fun j => hA 67 j (by simp [aXb, aX])) (fun j => hA 68 j (by simp [aXb, aX])) (fun j => hA 69 j (by simp [aXb, aX])) (fun j => hB 34 j (by simp [aMb]))⟩⟩
theorem rl_absent {A A' B B' : Mx} {a d b r s : Int32} (h : Rl A B) (hT : TX A) (hA : SXa A A') (hB : SMa B B') (p : PA (A.1 30) (A.1 31) (A.1 32) (A'.1 30) (A'.1 31) (A'.1 32) (A.1 19 0) (A.1 28 1) (A'.1 28 1) a d b r) (q : PA (B.1 14) (B.1 15) (B.1 16) (B'.1 14) (B'.1 15) (B'.1 16) (B.1 0 9) (B.1 0 19) (B'.1 0 19) a d b s) : r = s ∧ Rl A' B' := by
  obtain ⟨⟨r0, r1, r2, r3, r4, r5, r6, r7⟩, ⟨w0, w1, w2, w3⟩, im⟩ := h
  rw [← r3, ← r5] at q
  have k := pa_r w1 w2 w3 (tX_28_1 hT).2 p q
  exact ⟨k.1, ⟨⟨by rw [hA 12 0 (by decide), hB 0 4 (by decide)]; exact r0, by rw [hA 12 1 (by decide), hB 0 5 (by decide)]; exact r1, by rw [hA 12 2 (by decide), hB 0 16 (by decide)]; exact r2, by rw [hA 19 0 (by decide), hB 0 9 (by decide)]; exact r3, by rw [hA 19 3 (by decide), hB 0 24 (by decide)]; exact r4, k.2.1, by rw [hA 0 2 (by decide), hB 0 59 (by decide)]; exact r6, by rw [hA 158 0 (by decide), hB 0 30 (by decide)]; exact r7⟩, ⟨rw_e w0 (hA 12 1 (by decide)) (fun j => hA 13 j (by simp [aXa, aX])) (fun j => hB 3 j (by simp [aMa])), k.2.2.1, k.2.2.2.1, k.2.2.2.2⟩, rl_pic im (hB 0 59 (by decide)) (hA 49 0 (by decide)) (hA 49 1 (by decide)) (hA 49 2 (by decide)) (hA 56 0 (by decide)) (hA 56 3 (by decide)) (hA 65 1 (by decide)) (fun j => hA 50 j (by simp [aXa, aX])) (fun j => hA 67 j (by simp [aXa, aX])) (fun j => hA 68 j (by simp [aXa, aX])) (fun j => hA 69 j (by simp [aXa, aX])) (fun j => hB 34 j (by simp [aMa]))⟩⟩
theorem rl_text {A A' B B' : Mx} (h : Rl A B) (hT : TX A) (hA : SXt A A') (hB : SY (up B 0 30 0) B') (p : A'.1 158 0 = 0) : Rl A' B' := by
  obtain ⟨⟨r0, r1, r2, r3, r4, r5, r6, r7⟩, ⟨w0, w1, w2, w3⟩, im⟩ := h
  obtain ⟨k, hB⟩ := sy_t hB
  exact ⟨⟨by rw [hA 12 0 (by decide), hB 0 4 (by decide) (by decide)]; exact r0, by rw [hA 12 1 (by decide), hB 0 5 (by decide) (by decide)]; exact r1, by rw [hA 12 2 (by decide), hB 0 16 (by decide) (by decide)]; exact r2, by rw [hA 19 0 (by decide), hB 0 9 (by decide) (by decide)]; exact r3, by rw [hA 19 3 (by decide), hB 0 24 (by decide) (by decide)]; exact r4, by rw [hA 28 1 (by decide), hB 0 19 (by decide) (by decide)]; exact r5, by rw [hA 0 2 (by decide), hB 0 59 (by decide) (by decide)]; exact r6, p.trans k.symm⟩, ⟨rw_e w0 (hA 12 1 (by decide)) (fun j => hA 13 j (by simp [aXt, aX])) (fun j => hB 3 j (by simp [aY]) (by simp)), rw_e w1 (hA 28 1 (by decide)) (fun j => hA 30 j (by simp [aXt, aX])) (fun j => hB 14 j (by simp [aY]) (by simp)), rw_e w2 (hA 28 1 (by decide)) (fun j => hA 31 j (by simp [aXt, aX])) (fun j => hB 15 j (by simp [aY]) (by simp)), rw_e w3 (hA 28 1 (by decide)) (fun j => hA 32 j (by simp [aXt, aX])) (fun j => hB 16 j (by simp [aY]) (by simp))⟩, rl_pic im (hB 0 59 (by decide) (by decide)) (hA 49 0 (by decide)) (hA 49 1 (by decide)) (hA 49 2 (by decide)) (hA 56 0 (by decide)) (hA 56 3 (by decide)) (hA 65 1 (by decide)) (fun j => hA 50 j (by simp [aXt, aX])) (fun j => hA 67 j (by simp [aXt, aX])) (fun j => hA 68 j (by simp [aXt, aX])) (fun j => hA 69 j (by simp [aXt, aX])) (fun j => hB 34 j (by simp [aY]) (by simp))⟩
theorem rl_notches {A A' B B' : Mx} {n r s : Int32} (h : Rl A B) (hT : TX A) (hA : SXn A A') (hB : SZ B B') (e : r = s) (p1 : r = 1 → A'.1 12 0 = n ∧ A'.1 12 1 = 0 ∧ A'.1 12 2 = 0 ∧ A'.1 19 0 = 0 ∧ A'.1 19 3 = 0 ∧ A'.1 28 1 = 0) (p0 : r = 0 → A' = A) (q1 : s = 1 → NZ B' n) (q0 : s = 0 → SM B B') (hr : r = 0 ∨ r = 1) : Rl A' B' := by
  rcases hr with hr | hr
  · have e1 := p0 hr
    subst e1
    exact rl_X_M h hT Sx.rf (q0 (e.symm.trans hr))
  · obtain ⟨⟨r0, r1, r2, r3, r4, r5, r6, r7⟩, ⟨w0, w1, w2, w3⟩, im⟩ := h
    obtain ⟨a0, a1, a2, a3, a4, a5⟩ := p1 hr
    obtain ⟨-, -, b0, b1, b2, b3, b4, b5⟩ := q1 (e.symm.trans hr)
    exact ⟨⟨a0.trans b0.symm, a1.trans b1.symm, a2.trans b2.symm, a3.trans b3.symm, a4.trans b4.symm, a5.trans b5.symm, by rw [hA 0 2 (by decide), hB 0 59 (by decide)]; exact r6, by rw [hA 158 0 (by decide), hB 0 30 (by decide)]; exact r7⟩, ⟨by rw [a1]; exact rw_0 (by decide), by rw [a5]; exact rw_0 (by decide), by rw [a5]; exact rw_0 (by decide), by rw [a5]; exact rw_0 (by decide)⟩, rl_pic im (hB 0 59 (by decide)) (hA 49 0 (by decide)) (hA 49 1 (by decide)) (hA 49 2 (by decide)) (hA 56 0 (by decide)) (hA 56 3 (by decide)) (hA 65 1 (by decide)) (fun j => hA 50 j (by simp [aXn])) (fun j => hA 67 j (by simp [aXn])) (fun j => hA 68 j (by simp [aXn])) (fun j => hA 69 j (by simp [aXn])) (fun j => hB 34 j (by simp [aZ]))⟩
theorem c_nI (n e f : Nat) : nI e + nI f * nI n = nI (e + f * n) := by
  rw [← nI_add]
  exact congrArg _ (Int32.ofNat_mul f n).symm
theorem nI_in2 {n k : Nat} (h : n < k) (hk : k < 2 ^ 31) : 0 ≤ nI n ∧ nI n < nI k := ⟨nI_pos' (by omega), nI_lt h hk⟩
theorem iat_0 {M : Mx} {n : Nat} (h : n < 10) : iat M (166 + 3 * n) = M.1 3 (nI n) := by
  unfold iat
  rw [ic_n0 h]
theorem wq_r0 {n : Nat} (h : n < 10) : wq (166 + 3 * n) = true := by
  have key : ∀ q : Fin 10, wq (166 + 3 * q.val) = true := by decide +kernel
  exact key ⟨n, h⟩
theorem im_r0 {M : Mx} {n : Nat} : M.1 34 (166 + 3 * nI n) = M.1 34 (nI (166 + 3 * n)) := congrArg _ ((c_nI n 166 3).trans (congrArg nI (by omega)))
theorem iat_1 {M : Mx} {n : Nat} (h : n < 30) : iat M (322 + 3 * n) = M.1 14 (nI n) := by
  unfold iat
  rw [ic_a0 h]
theorem wq_r1 {n : Nat} (h : n < 30) : wq (322 + 3 * n) = true := by
  have key : ∀ q : Fin 30, wq (322 + 3 * q.val) = true := by decide +kernel
  exact key ⟨n, h⟩
theorem im_r1 {M : Mx} {n : Nat} : M.1 34 (322 + 3 * nI n) = M.1 34 (nI (322 + 3 * n)) := congrArg _ ((c_nI n 322 3).trans (congrArg nI (by omega)))
theorem iat_2 {M : Mx} {n : Nat} (h : n < 30) : iat M (322 + 3 * n + 1) = M.1 15 (nI n) := by
  unfold iat
  rw [ic_a1 h]
theorem wq_r2 {n : Nat} (h : n < 30) : wq (322 + 3 * n + 1) = true := by
  have key : ∀ q : Fin 30, wq (322 + 3 * q.val + 1) = true := by decide +kernel
  exact key ⟨n, h⟩
theorem im_r2 {M : Mx} {n : Nat} : M.1 34 (323 + 3 * nI n) = M.1 34 (nI (322 + 3 * n + 1)) := congrArg _ ((c_nI n 323 3).trans (congrArg nI (by omega)))
theorem iat_3 {M : Mx} {n : Nat} (h : n < 30) : iat M (322 + 3 * n + 1 + 1) = M.1 16 (nI n) := by
  unfold iat
  rw [ic_a2 h]
theorem wq_r3 {n : Nat} (h : n < 30) : wq (322 + 3 * n + 1 + 1) = true := by
  have key : ∀ q : Fin 30, wq (322 + 3 * q.val + 1 + 1) = true := by decide +kernel
  exact key ⟨n, h⟩
theorem im_r3 {M : Mx} {n : Nat} : M.1 34 (324 + 3 * nI n) = M.1 34 (nI (322 + 3 * n + 1 + 1)) := congrArg _ ((c_nI n 324 3).trans (congrArg nI (by omega)))
theorem one_of {x : Int32} (h0 : 0 ≤ x) (h1 : x ≤ 1) (h : ¬ x = 0) : x = 1 := by grind
theorem rl_image {A A' B B' : Mx} {t r s : Int32} (h : Rl A B) (hT : TX A) (hA : SXi A A') (hB : SQ B B') (h01 : A.1 0 2 ≤ 1) (h00 : 0 ≤ A.1 0 2) (p : PI A A' t r) (q : PJ B B' t s) : r = s ∧ Rl A' B' := by
  obtain ⟨⟨r0, r1, r2, r3, r4, r5, r6, r7⟩, ⟨w0, w1, w2, w3⟩, im⟩ := id h
  have t7 : A'.1 158 0 = B'.1 0 30 := by rw [hA 158 0 (by decide), hB 0 30 (by decide)]; exact r7
  rcases p with ⟨p0, p1, p2, p3, p4⟩ | ⟨p0, p1, p2, p3⟩ | ⟨p0, p1, p2, p3, p4, p5⟩
  · rcases q with ⟨q0, q1, q2, q3⟩ | ⟨q0, q1, q2, q3, q4⟩
    · exact absurd q1 p0
    · have q3 := q3 p0
      have v0 : A'.1 12 0 = A.1 12 0 := p4 12 0 (by simp [isV])
      have u0 : A'.1 49 0 = A.1 12 0 := p3 12 0 (by simp [isV])
      have m0 : B'.1 0 4 = B.1 0 4 := q3 0 (by decide)
      have i0 : B'.1 0 4 = B'.1 34 0 := q2 0 (by decide)
      have v1 : A'.1 12 1 = A.1 12 1 := p4 12 1 (by simp [isV])
      have u1 : A'.1 49 1 = A.1 12 1 := p3 12 1 (by simp [isV])
      have m1 : B'.1 0 5 = B.1 0 5 := q3 1 (by decide)
      have i1 : B'.1 0 5 = B'.1 34 1 := q2 1 (by decide)
      have v2 : A'.1 12 2 = A.1 12 2 := p4 12 2 (by simp [isV])
      have u2 : A'.1 49 2 = A.1 12 2 := p3 12 2 (by simp [isV])
      have m2 : B'.1 0 16 = B.1 0 16 := q3 3 (by decide)
      have i2 : B'.1 0 16 = B'.1 34 3 := q2 3 (by decide)
      have v3 : A'.1 19 0 = A.1 19 0 := p4 19 0 (by simp [isV])
      have u3 : A'.1 56 0 = A.1 19 0 := p3 19 0 (by simp [isV])
      have m3 : B'.1 0 9 = B.1 0 9 := q3 2 (by decide)
      have i3 : B'.1 0 9 = B'.1 34 2 := q2 2 (by decide)
      have v4 : A'.1 19 3 = A.1 19 3 := p4 19 3 (by simp [isV])
      have u4 : A'.1 56 3 = A.1 19 3 := p3 19 3 (by simp [isV])
      have m4 : B'.1 0 24 = B.1 0 24 := q3 412 (by decide)
      have i4 : B'.1 0 24 = B'.1 34 412 := q2 412 (by decide)
      have v5 : A'.1 28 1 = A.1 28 1 := p4 28 1 (by simp [isV])
      have u5 : A'.1 65 1 = A.1 28 1 := p3 28 1 (by simp [isV])
      have m5 : B'.1 0 19 = B.1 0 19 := q3 321 (by decide)
      have i5 : B'.1 0 19 = B'.1 34 321 := q2 321 (by decide)
      exact ⟨p1.trans q0.symm, ⟨by rw [v0, m0]; exact r0, by rw [v1, m1]; exact r1, by rw [v2, m2]; exact r2, by rw [v3, m3]; exact r3, by rw [v4, m4]; exact r4, by rw [v5, m5]; exact r5, p2.trans q1.symm, t7⟩, ⟨fun n n1 n2 => by
        rw [p4 13 (nI n) (by have z := nI_in2 n1 (by decide); simp [isV]; exact z), ← iat_0 (M := B') n1, q3 _ (wq_r0 n1), iat_0 n1]
        exact w0 n n1 (v1 ▸ n2),
      fun n n1 n2 => by
        rw [p4 30 (nI n) (by have z := nI_in2 n1 (by decide); simp [isV]; exact z), ← iat_1 (M := B') n1, q3 _ (wq_r1 n1), iat_1 n1]
        exact w1 n n1 (v5 ▸ n2),
      fun n n1 n2 => by
        rw [p4 31 (nI n) (by have z := nI_in2 n1 (by decide); simp [isV]; exact z), ← iat_2 (M := B') n1, q3 _ (wq_r2 n1), iat_2 n1]
        exact w2 n n1 (v5 ▸ n2),
      fun n n1 n2 => by
        rw [p4 32 (nI n) (by have z := nI_in2 n1 (by decide); simp [isV]; exact z), ← iat_3 (M := B') n1, q3 _ (wq_r3 n1), iat_3 n1]
        exact w3 n n1 (v5 ▸ n2)⟩, Or.inr ⟨by rw [u0, ← i0, m0]; exact r0, by rw [u1, ← i1, m1]; exact r1, by rw [u2, ← i2, m2]; exact r2, by rw [u3, ← i3, m3]; exact r3, by rw [u4, ← i4, m4]; exact r4, by rw [u5, ← i5, m5]; exact r5, fun n n1 n2 => by
        rw [show A'.1 50 (nI n) = A.1 13 (nI n) from p3 13 (nI n) (by have z := nI_in2 n1 (by decide); simp [isV]; exact z)]
        show _ = B'.1 34 (166 + 3 * nI n)
        rw [im_r0, ← q2 _ (wq_r0 n1), q3 _ (wq_r0 n1), iat_0 n1]
        exact w0 n n1 (u1 ▸ n2),
      fun n n1 n2 => by
        rw [show A'.1 67 (nI n) = A.1 30 (nI n) from p3 30 (nI n) (by have z := nI_in2 n1 (by decide); simp [isV]; exact z)]
        show _ = B'.1 34 (322 + 3 * nI n)
        rw [im_r1, ← q2 _ (wq_r1 n1), q3 _ (wq_r1 n1), iat_1 n1]
        exact w1 n n1 (u5 ▸ n2),
      fun n n1 n2 => by
        rw [show A'.1 68 (nI n) = A.1 31 (nI n) from p3 31 (nI n) (by have z := nI_in2 n1 (by decide); simp [isV]; exact z)]
        show _ = B'.1 34 (323 + 3 * nI n)
        rw [im_r2, ← q2 _ (wq_r2 n1), q3 _ (wq_r2 n1), iat_2 n1]
        exact w2 n n1 (u5 ▸ n2),
      fun n n1 n2 => by
        rw [show A'.1 69 (nI n) = A.1 32 (nI n) from p3 32 (nI n) (by have z := nI_in2 n1 (by decide); simp [isV]; exact z)]
        show _ = B'.1 34 (324 + 3 * nI n)
        rw [im_r3, ← q2 _ (wq_r3 n1), q3 _ (wq_r3 n1), iat_3 n1]
        exact w3 n n1 (u5 ▸ n2)⟩⟩
  · rcases q with ⟨q0, q1, q2, q3⟩ | ⟨q0, q1, q2, q3, q4⟩
    · subst p3
      exact ⟨p2.trans q0.symm, rl_X_M h hT Sx.rf q3⟩
    · exact absurd (r6.symm.trans p1) (q4 p0).1
  · rcases q with ⟨q0, q1, q2, q3⟩ | ⟨q0, q1, q2, q3, q4⟩
    · exact absurd (r6.trans q2) p1
    · obtain ⟨h0, h1, h2, h3, h4, h5, h6, h7, h8, h9⟩ := im.resolve_left (q4 p0).1
      have q5 := (q4 p0).2
      have v0 : A'.1 12 0 = A.1 49 0 := p4 12 0 (by simp [isV])
      have u0 : A'.1 49 0 = A.1 49 0 := p5 12 0 (by simp [isV])
      have i0 : B'.1 0 4 = B'.1 34 0 := q2 0 (by decide)
      have v1 : A'.1 12 1 = A.1 49 1 := p4 12 1 (by simp [isV])
      have u1 : A'.1 49 1 = A.1 49 1 := p5 12 1 (by simp [isV])
      have i1 : B'.1 0 5 = B'.1 34 1 := q2 1 (by decide)
      have v2 : A'.1 12 2 = A.1 49 2 := p4 12 2 (by simp [isV])
      have u2 : A'.1 49 2 = A.1 49 2 := p5 12 2 (by simp [isV])
      have i2 : B'.1 0 16 = B'.1 34 3 := q2 3 (by decide)
      have v3 : A'.1 19 0 = A.1 56 0 := p4 19 0 (by simp [isV])
      have u3 : A'.1 56 0 = A.1 56 0 := p5 19 0 (by simp [isV])
      have i3 : B'.1 0 9 = B'.1 34 2 := q2 2 (by decide)
      have v4 : A'.1 19 3 = A.1 56 3 := p4 19 3 (by simp [isV])
      have u4 : A'.1 56 3 = A.1 56 3 := p5 19 3 (by simp [isV])
      have i4 : B'.1 0 24 = B'.1 34 412 := q2 412 (by decide)
      have v5 : A'.1 28 1 = A.1 65 1 := p4 28 1 (by simp [isV])
      have u5 : A'.1 65 1 = A.1 65 1 := p5 28 1 (by simp [isV])
      have i5 : B'.1 0 19 = B'.1 34 321 := q2 321 (by decide)
      have b1 : A.1 0 2 = 1 := one_of h00 h01 p1
      exact ⟨p2.trans q0.symm, ⟨by rw [v0, i0, q5]; exact h0, by rw [v1, i1, q5]; exact h1, by rw [v2, i2, q5]; exact h2, by rw [v3, i3, q5]; exact h3, by rw [v4, i4, q5]; exact h4, by rw [v5, i5, q5]; exact h5, (p3.trans b1).trans q1.symm, t7⟩, ⟨fun n n1 n2 => by
        rw [show A'.1 13 (nI n) = A.1 50 (nI n) from p4 13 (nI n) (by have z := nI_in2 n1 (by decide); simp [isV]; exact z), ← iat_0 (M := B') n1, q2 _ (wq_r0 n1), q5, ← im_r0]
        exact h6 n n1 (v1 ▸ n2),
      fun n n1 n2 => by
        rw [show A'.1 30 (nI n) = A.1 67 (nI n) from p4 30 (nI n) (by have z := nI_in2 n1 (by decide); simp [isV]; exact z), ← iat_1 (M := B') n1, q2 _ (wq_r1 n1), q5, ← im_r1]
        exact h7 n n1 (v5 ▸ n2),
      fun n n1 n2 => by
        rw [show A'.1 31 (nI n) = A.1 68 (nI n) from p4 31 (nI n) (by have z := nI_in2 n1 (by decide); simp [isV]; exact z), ← iat_2 (M := B') n1, q2 _ (wq_r2 n1), q5, ← im_r2]
        exact h8 n n1 (v5 ▸ n2),
      fun n n1 n2 => by
        rw [show A'.1 32 (nI n) = A.1 69 (nI n) from p4 32 (nI n) (by have z := nI_in2 n1 (by decide); simp [isV]; exact z), ← iat_3 (M := B') n1, q2 _ (wq_r3 n1), q5, ← im_r3]
        exact h9 n n1 (v5 ▸ n2)⟩, Or.inr ⟨by rw [u0, q5]; exact h0, by rw [u1, q5]; exact h1, by rw [u2, q5]; exact h2, by rw [u3, q5]; exact h3, by rw [u4, q5]; exact h4, by rw [u5, q5]; exact h5, fun n n1 n2 => by
        rw [show A'.1 50 (nI n) = A.1 50 (nI n) from p5 13 (nI n) (by have z := nI_in2 n1 (by decide); simp [isV]; exact z)]
        show _ = B'.1 34 (166 + 3 * nI n)
        rw [q5]
        exact h6 n n1 (u1 ▸ n2),
      fun n n1 n2 => by
        rw [show A'.1 67 (nI n) = A.1 67 (nI n) from p5 30 (nI n) (by have z := nI_in2 n1 (by decide); simp [isV]; exact z)]
        show _ = B'.1 34 (322 + 3 * nI n)
        rw [q5]
        exact h7 n n1 (u5 ▸ n2),
      fun n n1 n2 => by
        rw [show A'.1 68 (nI n) = A.1 68 (nI n) from p5 31 (nI n) (by have z := nI_in2 n1 (by decide); simp [isV]; exact z)]
        show _ = B'.1 34 (323 + 3 * nI n)
        rw [q5]
        exact h8 n n1 (u5 ▸ n2),
      fun n n1 n2 => by
        rw [show A'.1 69 (nI n) = A.1 69 (nI n) from p5 32 (nI n) (by have z := nI_in2 n1 (by decide); simp [isV]; exact z)]
        show _ = B'.1 34 (324 + 3 * nI n)
        rw [q5]
        exact h9 n n1 (u5 ▸ n2)⟩⟩
theorem nt_6 {a b c d e f g : Prop} (h : a ∧ b ∧ c ∧ d ∧ e ∧ f ∧ g) : a ∧ b ∧ c ∧ d ∧ e ∧ f := ⟨h.1, h.2.1, h.2.2.1, h.2.2.2.1, h.2.2.2.2.1, h.2.2.2.2.2.1⟩
theorem bp_01 {P : Prop} {r : Int32} (h : (r = 1 ∧ P) ∨ (r = 0 ∧ ¬ P)) : r = 0 ∨ r = 1 := h.elim (fun z => Or.inr z.1) (fun z => Or.inl z.1)
theorem nt_r {n r s : Int32} (p : (r = 1 ∧ (8 ≤ n ∧ n ≤ 40 ∧ n - n / 2 * 2 = 0)) ∨ (r = 0 ∧ ¬ (8 ≤ n ∧ n ≤ 40 ∧ n - n / 2 * 2 = 0))) (q : (s = 1 ∧ (8 ≤ n ∧ n ≤ 40 ∧ ¬ n - n / 2 * 2 = 1)) ∨ (s = 0 ∧ ¬ (8 ≤ n ∧ n ≤ 40 ∧ ¬ n - n / 2 * 2 = 1))) : r = s := by
  have hp := fun a b => par2 (n := n) a b
  grind
theorem pV_X {M N : Mx} {c : Int} (s : SX M N) (h : PW M c) : PW N c := ⟨⟨wk_S h.1.1 (s 2 1 (by decide)) (s 2 2 (by decide)) (s 2 6 (by decide)) (fun j => s 3 j (by simp [aX, aX])) (fun j => s 5 j (by simp [aX, aX])), fun n hn => by
  rcases (show n = 0 ∨ n = 1 ∨ n = 2 ∨ n = 3 ∨ n = 4 ∨ n = 5 ∨ n = 6 ∨ n = 7 by omega) with rfl | rfl | rfl | rfl | rfl | rfl | rfl | rfl <;> exact wv_e (h.1.2 _ hn) (s _ 1 (by decide)) (s _ 2 (by decide)) (s _ 6 (by decide)) (fun m _ => s _ _ (by simp [aX])) (fun m _ => s _ _ (by simp [aX]))⟩, wv_e h.2.1 (s 39 1 (by decide)) (s 39 2 (by decide)) (s 39 6 (by decide)) (fun m _ => s 40 _ (by simp [aX])) (fun m _ => s 42 _ (by simp [aX])), dsk_e h.2.2.1 (s 12 0 (by decide)) (s 12 1 (by decide)) (fun n _ => s 13 _ (by simp [aX])), dsk_e h.2.2.2 (s 49 0 (by decide)) (s 49 1 (by decide)) (fun n _ => s 50 _ (by simp [aX]))⟩
theorem pV_Xf {M N : Mx} {c : Int} (s : SXf M N) (h : PW M c) : PW N c := ⟨⟨wk_S h.1.1 (s 2 1 (by decide)) (s 2 2 (by decide)) (s 2 6 (by decide)) (fun j => s 3 j (by simp [aX, aXf])) (fun j => s 5 j (by simp [aX, aXf])), fun n hn => by
  rcases (show n = 0 ∨ n = 1 ∨ n = 2 ∨ n = 3 ∨ n = 4 ∨ n = 5 ∨ n = 6 ∨ n = 7 by omega) with rfl | rfl | rfl | rfl | rfl | rfl | rfl | rfl <;> exact wv_e (h.1.2 _ hn) (s _ 1 (by decide)) (s _ 2 (by decide)) (s _ 6 (by decide)) (fun m _ => s _ _ (by simp [aX, aXf])) (fun m _ => s _ _ (by simp [aX, aXf]))⟩, wv_e h.2.1 (s 39 1 (by decide)) (s 39 2 (by decide)) (s 39 6 (by decide)) (fun m _ => s 40 _ (by simp [aX, aXf])) (fun m _ => s 42 _ (by simp [aX, aXf])), dsk_e h.2.2.1 (s 12 0 (by decide)) (s 12 1 (by decide)) (fun n _ => s 13 _ (by simp [aX, aXf])), dsk_e h.2.2.2 (s 49 0 (by decide)) (s 49 1 (by decide)) (fun n _ => s 50 _ (by simp [aX, aXf]))⟩
theorem pV_Xg {M N : Mx} {c : Int} (s : SXg M N) (h : PW M c) : PW N c := ⟨⟨wk_S h.1.1 (s 2 1 (by decide)) (s 2 2 (by decide)) (s 2 6 (by decide)) (fun j => s 3 j (by simp [aX, aXg])) (fun j => s 5 j (by simp [aX, aXg])), fun n hn => by
  rcases (show n = 0 ∨ n = 1 ∨ n = 2 ∨ n = 3 ∨ n = 4 ∨ n = 5 ∨ n = 6 ∨ n = 7 by omega) with rfl | rfl | rfl | rfl | rfl | rfl | rfl | rfl <;> exact wv_e (h.1.2 _ hn) (s _ 1 (by decide)) (s _ 2 (by decide)) (s _ 6 (by decide)) (fun m _ => s _ _ (by simp [aX, aXg])) (fun m _ => s _ _ (by simp [aX, aXg]))⟩, wv_e h.2.1 (s 39 1 (by decide)) (s 39 2 (by decide)) (s 39 6 (by decide)) (fun m _ => s 40 _ (by simp [aX, aXg])) (fun m _ => s 42 _ (by simp [aX, aXg])), dsk_e h.2.2.1 (s 12 0 (by decide)) (s 12 1 (by decide)) (fun n _ => s 13 _ (by simp [aX, aXg])), dsk_e h.2.2.2 (s 49 0 (by decide)) (s 49 1 (by decide)) (fun n _ => s 50 _ (by simp [aX, aXg]))⟩
theorem pV_Xs {M N : Mx} {c : Int} (s : SXs M N) (h : PW M c) : PW N c := ⟨⟨wk_S h.1.1 (s 2 1 (by decide)) (s 2 2 (by decide)) (s 2 6 (by decide)) (fun j => s 3 j (by simp [aX, aXs])) (fun j => s 5 j (by simp [aX, aXs])), fun n hn => by
  rcases (show n = 0 ∨ n = 1 ∨ n = 2 ∨ n = 3 ∨ n = 4 ∨ n = 5 ∨ n = 6 ∨ n = 7 by omega) with rfl | rfl | rfl | rfl | rfl | rfl | rfl | rfl <;> exact wv_e (h.1.2 _ hn) (s _ 1 (by decide)) (s _ 2 (by decide)) (s _ 6 (by decide)) (fun m _ => s _ _ (by simp [aX, aXs])) (fun m _ => s _ _ (by simp [aX, aXs]))⟩, wv_e h.2.1 (s 39 1 (by decide)) (s 39 2 (by decide)) (s 39 6 (by decide)) (fun m _ => s 40 _ (by simp [aX, aXs])) (fun m _ => s 42 _ (by simp [aX, aXs])), dsk_e h.2.2.1 (s 12 0 (by decide)) (s 12 1 (by decide)) (fun n _ => s 13 _ (by simp [aX, aXs])), dsk_e h.2.2.2 (s 49 0 (by decide)) (s 49 1 (by decide)) (fun n _ => s 50 _ (by simp [aX, aXs]))⟩
theorem pV_Xa {M N : Mx} {c : Int} (s : SXa M N) (h : PW M c) : PW N c := ⟨⟨wk_S h.1.1 (s 2 1 (by decide)) (s 2 2 (by decide)) (s 2 6 (by decide)) (fun j => s 3 j (by simp [aX, aXa])) (fun j => s 5 j (by simp [aX, aXa])), fun n hn => by
  rcases (show n = 0 ∨ n = 1 ∨ n = 2 ∨ n = 3 ∨ n = 4 ∨ n = 5 ∨ n = 6 ∨ n = 7 by omega) with rfl | rfl | rfl | rfl | rfl | rfl | rfl | rfl <;> exact wv_e (h.1.2 _ hn) (s _ 1 (by decide)) (s _ 2 (by decide)) (s _ 6 (by decide)) (fun m _ => s _ _ (by simp [aX, aXa])) (fun m _ => s _ _ (by simp [aX, aXa]))⟩, wv_e h.2.1 (s 39 1 (by decide)) (s 39 2 (by decide)) (s 39 6 (by decide)) (fun m _ => s 40 _ (by simp [aX, aXa])) (fun m _ => s 42 _ (by simp [aX, aXa])), dsk_e h.2.2.1 (s 12 0 (by decide)) (s 12 1 (by decide)) (fun n _ => s 13 _ (by simp [aX, aXa])), dsk_e h.2.2.2 (s 49 0 (by decide)) (s 49 1 (by decide)) (fun n _ => s 50 _ (by simp [aX, aXa]))⟩
theorem pV_Xt {M N : Mx} {c : Int} (s : SXt M N) (h : PW M c) : PW N c := ⟨⟨wk_S h.1.1 (s 2 1 (by decide)) (s 2 2 (by decide)) (s 2 6 (by decide)) (fun j => s 3 j (by simp [aX, aXt])) (fun j => s 5 j (by simp [aX, aXt])), fun n hn => by
  rcases (show n = 0 ∨ n = 1 ∨ n = 2 ∨ n = 3 ∨ n = 4 ∨ n = 5 ∨ n = 6 ∨ n = 7 by omega) with rfl | rfl | rfl | rfl | rfl | rfl | rfl | rfl <;> exact wv_e (h.1.2 _ hn) (s _ 1 (by decide)) (s _ 2 (by decide)) (s _ 6 (by decide)) (fun m _ => s _ _ (by simp [aX, aXt])) (fun m _ => s _ _ (by simp [aX, aXt]))⟩, wv_e h.2.1 (s 39 1 (by decide)) (s 39 2 (by decide)) (s 39 6 (by decide)) (fun m _ => s 40 _ (by simp [aX, aXt])) (fun m _ => s 42 _ (by simp [aX, aXt])), dsk_e h.2.2.1 (s 12 0 (by decide)) (s 12 1 (by decide)) (fun n _ => s 13 _ (by simp [aX, aXt])), dsk_e h.2.2.2 (s 49 0 (by decide)) (s 49 1 (by decide)) (fun n _ => s 50 _ (by simp [aX, aXt]))⟩
theorem pV_Xo {M N : Mx} {c : Int} (s : SXo M N) (h : PW M c) : PW N c := ⟨⟨wk_S h.1.1 (s 2 1 (by decide)) (s 2 2 (by decide)) (s 2 6 (by decide)) (fun j => s 3 j (by simp [aX, aXo])) (fun j => s 5 j (by simp [aX, aXo])), fun n hn => by
  rcases (show n = 0 ∨ n = 1 ∨ n = 2 ∨ n = 3 ∨ n = 4 ∨ n = 5 ∨ n = 6 ∨ n = 7 by omega) with rfl | rfl | rfl | rfl | rfl | rfl | rfl | rfl <;> exact wv_e (h.1.2 _ hn) (s _ 1 (by decide)) (s _ 2 (by decide)) (s _ 6 (by decide)) (fun m _ => s _ _ (by simp [aX, aXo])) (fun m _ => s _ _ (by simp [aX, aXo]))⟩, wv_e h.2.1 (s 39 1 (by decide)) (s 39 2 (by decide)) (s 39 6 (by decide)) (fun m _ => s 40 _ (by simp [aX, aXo])) (fun m _ => s 42 _ (by simp [aX, aXo])), dsk_e h.2.2.1 (s 12 0 (by decide)) (s 12 1 (by decide)) (fun n _ => s 13 _ (by simp [aX, aXo])), dsk_e h.2.2.2 (s 49 0 (by decide)) (s 49 1 (by decide)) (fun n _ => s 50 _ (by simp [aX, aXo]))⟩
theorem pV_Xz {M N : Mx} {c : Int} (s : SXz M N) (h : PW M c) : PW N c := pW_Xz s h
theorem pV_tell {M N : Mx} {c : Int} (s : SXl M N) (h : PW M c) (hw : Wat N 2 c) : PW N c := ⟨⟨hw, fun n hn => by
  rcases (show n = 0 ∨ n = 1 ∨ n = 2 ∨ n = 3 ∨ n = 4 ∨ n = 5 ∨ n = 6 ∨ n = 7 by omega) with rfl | rfl | rfl | rfl | rfl | rfl | rfl | rfl <;> exact wv_e (h.1.2 _ hn) (s _ 1 (by decide)) (s _ 2 (by decide)) (s _ 6 (by decide)) (fun m _ => s _ _ (by simp [aX, aXl])) (fun m _ => s _ _ (by simp [aX, aXl]))⟩, wv_e h.2.1 (s 39 1 (by decide)) (s 39 2 (by decide)) (s 39 6 (by decide)) (fun m _ => s 40 _ (by simp [aX, aXl])) (fun m _ => s 42 _ (by simp [aX, aXl])), dsk_e h.2.2.1 (s 12 0 (by decide)) (s 12 1 (by decide)) (fun n _ => s 13 _ (by simp [aX, aXl])), dsk_e h.2.2.2 (s 49 0 (by decide)) (s 49 1 (by decide)) (fun n _ => s 50 _ (by simp [aX, aXl]))⟩
theorem pV_hours {M N : Mx} {c c2 : Int} (s : SXh M N) (h : PW M c) (hc : c ≤ c2) (hw : PWx N c2) : PW N c2 := ⟨hw, wk_mono (wv_e h.2.1 (s 39 1 (by decide)) (s 39 2 (by decide)) (s 39 6 (by decide)) (fun m _ => s 40 _ (by simp [aX, aXh])) (fun m _ => s 42 _ (by simp [aX, aXh]))) hc, dsk_e h.2.2.1 (s 12 0 (by decide)) (s 12 1 (by decide)) (fun n _ => s 13 _ (by simp [aX, aXh])), dsk_e h.2.2.2 (s 49 0 (by decide)) (s 49 1 (by decide)) (fun n _ => s 50 _ (by simp [aX, aXh]))⟩
theorem pV_undo {M N : Mx} {c : Int} {r : Int32} (s : SXu M N) (h : PW M c) (q : (r = 0 ∧ M.1 75 0 ≤ 0 ∧ N = M) ∨ (r = 1 ∧ 0 < M.1 75 0 ∧ N.1 75 0 = M.1 75 0 - 1 ∧ ∃ n : Nat, n < 8 ∧ N.1 75 1 = nI n ∧ M.1 75 1 = nI (nx8 n) ∧ ∃ x, ∀ a j, ¬ a = 75 → N.1 a j = (mvc (up M 75 1 x) 2 (77 + 10 * n)).1 a j)) : PW N c := by
  refine ⟨?_, wv_e h.2.1 (s 39 1 (by decide)) (s 39 2 (by decide)) (s 39 6 (by decide)) (fun m _ => s 40 _ (by simp [aX, aXu])) (fun m _ => s 42 _ (by simp [aX, aXu])), dsk_e h.2.2.1 (s 12 0 (by decide)) (s 12 1 (by decide)) (fun n _ => s 13 _ (by simp [aX, aXu])), dsk_e h.2.2.2 (s 49 0 (by decide)) (s 49 1 (by decide)) (fun n _ => s 50 _ (by simp [aX, aXu]))⟩
  rcases q with ⟨-, -, e⟩ | ⟨-, -, -, n, hn, -, -, y, e⟩
  · rw [e]; exact h.1
  · exact pw_back hn e h.1
theorem pV_bucket {M N : Mx} {c : Int} {a b d r : Int32} (hT : TX M) (s : SXb M N) (h : PW M c) (q : PB (M.1 13) (N.1 13) (M.1 12 1) (N.1 12 1) (M.1 12 0) a b d r) : PW N c := by
  refine ⟨⟨wk_S h.1.1 (s 2 1 (by decide)) (s 2 2 (by decide)) (s 2 6 (by decide)) (fun j => s 3 j (by simp [aX, aXb])) (fun j => s 5 j (by simp [aX, aXb])), fun n hn => by
  rcases (show n = 0 ∨ n = 1 ∨ n = 2 ∨ n = 3 ∨ n = 4 ∨ n = 5 ∨ n = 6 ∨ n = 7 by omega) with rfl | rfl | rfl | rfl | rfl | rfl | rfl | rfl <;> exact wv_e (h.1.2 _ hn) (s _ 1 (by decide)) (s _ 2 (by decide)) (s _ 6 (by decide)) (fun m _ => s _ _ (by simp [aX, aXb])) (fun m _ => s _ _ (by simp [aX, aXb]))⟩, wv_e h.2.1 (s 39 1 (by decide)) (s 39 2 (by decide)) (s 39 6 (by decide)) (fun m _ => s 40 _ (by simp [aX, aXb])) (fun m _ => s 42 _ (by simp [aX, aXb])), ?_, dsk_e h.2.2.2 (s 49 0 (by decide)) (s 49 1 (by decide)) (fun n _ => s 50 _ (by simp [aX, aXb]))⟩
  have e0 : N.1 12 0 = M.1 12 0 := s 12 0 (by decide)
  obtain ⟨-, -, ⟨d1, d2⟩, -⟩ := h
  have B10 := tX_12_1 hT
  have N40 := tX_12_0 hT
  rcases q with ⟨-, q2, q3, -⟩ | ⟨-, q2, q3, q4, c1, c2, c3, -, -, -, -, c4⟩
  · exact dsk_e (k := 12) (k2 := 12) ⟨d1, d2⟩ e0 q2 (fun n _ => q3 _)
  · have l1 : ∀ m : Nat, m < 10 → nI m < N.1 12 1 → nI m < M.1 12 1 ∨ nI m = M.1 12 1 := fun m _ hm => by
      rw [q2] at hm
      exact lt_k1 (Int32.le_trans B10.2 (by decide)) hm
    have l2 : ∀ m : Nat, nI m < M.1 12 1 → N.1 13 (nI m) = M.1 13 (nI m) := fun m hm => q4 _ (fun e => by rw [e] at hm; exact Int32.lt_irrefl hm)
    have l3 : ∀ m : Nat, m < 10 → nI m < M.1 12 1 → ¬ M.1 13 (nI m) = a := fun m hm h1 e => c4 ⟨nI m, nI_pos' (by omega), h1, e⟩
    refine ⟨fun m k hmk hk hn => ?_, fun m hm hn => ?_⟩
    · have hlt : nI m < nI k := (nI_ltI (by omega) (by omega)).mpr hmk
      rcases l1 k hk hn with z | z
      · have y := Int32.lt_trans hlt z
        show ¬ N.1 13 (nI m) = N.1 13 (nI k)
        rw [l2 m y, l2 k z]
        exact d1 m k hmk hk z
      · rw [z] at hlt
        show ¬ N.1 13 (nI m) = N.1 13 (nI k)
        rw [l2 m hlt, z, q3]
        exact l3 m (by omega) hlt
    · show 0 ≤ N.1 13 (nI m) ∧ N.1 13 (nI m) < N.1 12 0
      rw [e0]
      rcases l1 m hm hn with z | z
      · rw [l2 m z]
        exact d2 m hm z
      · rw [z, q3]
        exact ⟨c2, by clear d1 d2 l1 l2 l3 q4 c4; grind⟩
/-- the water of all -/
def RW (M : Mx) (c : Int) : Prop := RWx M c ∧ Rr M 34 6 c
theorem rW_mono {M : Mx} {c c' : Int} (h : RW M c) (hc : c ≤ c') : RW M c' := ⟨rw_mono h.1 hc, rr_mono h.2 hc⟩
theorem rW_of {M N : Mx} {c : Int} (h : RW M c) (hn : Rn N c) (e2 : ∀ q : Nat, q < 1280 → N.1 2 (nI q) = M.1 2 (nI q)) (e3 : ∀ j, N.1 34 j = M.1 34 j) : RW N c := ⟨⟨hn, fun r hr => rr_2 (h.1.2 r hr) hr e2⟩, rr_e h.2 (fun k _ _ => e3 _)⟩
theorem rV_M {M N : Mx} {c : Int} (s : SM M N) (h : RW M c) : RW N c := rW_of h (rn_SM s h.1.1) (fun q _ => s 2 _ (by simp [aM])) (fun j => s 34 j (by simp [aM]))
theorem rV_Mz {M N : Mx} {c : Int} (s : SMz M N) (h : RW M c) : RW N c := rW_of h (rn_SMz s h.1.1) (fun q _ => s 2 _ (by simp [aMz])) (fun j => s 34 j (by simp [aMz]))
theorem rV_F {M N : Mx} {c : Int} (s : SF M N) (h : RW M c) : RW N c := rW_of h (rn_SF s h.1.1) (fun q _ => s 2 _ (by simp [aF])) (fun j => s 34 j (by simp [aF]))
theorem rV_Ms {M N : Mx} {c : Int} (s : SMs M N) (h : RW M c) : RW N c := rW_of h (rn_SMs s h.1.1) (fun q _ => s 2 _ (by simp [aMs])) (fun j => s 34 j (by simp [aMs]))
theorem rV_Ma {M N : Mx} {c : Int} (s : SMa M N) (h : RW M c) : RW N c := rW_of h (rn_SMa s h.1.1) (fun q _ => s 2 _ (by simp [aMa])) (fun j => s 34 j (by simp [aMa]))
theorem rV_Mg {M N : Mx} {c : Int} (s : SMg M N) (h : RW M c) : RW N c := rW_of h (rn_SMg s h.1.1) (fun q _ => s 2 _ (by simp [aMg])) (fun j => s 34 j (by simp [aMg]))
theorem rV_Mo {M N : Mx} {c : Int} (s : SMo M N) (h : RW M c) : RW N c := rW_of h (rn_SMo s h.1.1) (fun q _ => s 2 _ (by simp [aMo])) (fun j => s 34 j (by simp [aMo]))
theorem rV_Mt {M N : Mx} {c : Int} (s : SMt M N) (h : RW M c) : RW N c := rW_of h (rn_SMt s h.1.1) (fun q _ => s 2 _ (by simp [aMt])) (fun j => s 34 j (by simp [aMt]))
theorem rV_T {M N : Mx} {c : Int} (s : ST M N) (h : RW M c) : RW N c := rW_of h (rn_ST s h.1.1) (fun q _ => s 2 _ (by simp [aT])) (fun j => s 34 j (by simp [aT]))
theorem rV_Y {M N : Mx} {c : Int} (s : SY (up M 0 30 0) N) (h : RW M c) : RW N c := rW_of h (rn_SY s (rn_c h.1.1 (by decide))) (fun q _ => (s 2 _ (by simp [aY])).trans (upo (by decide))) (fun j => (s 34 j (by simp [aY])).trans (upo (by decide)))
theorem rV_Mb {M N : Mx} {c : Int} (s : SMb M N) (h : RW M c) (hn : Rn N c) : RW N c := rW_of h hn (fun q _ => s 2 _ (by simp [aMb])) (fun j => s 34 j (by simp [aMb]))
theorem rV_Ml {M N : Mx} {c : Int} (s : SMl M N) (h : RW M c) (hn : Rn N c) : RW N c := rW_of h hn (fun q _ => s 2 _ (by simp [aMl])) (fun j => s 34 j (by simp [aMl]))
theorem rV_hours {M N : Mx} {c c2 : Int} (s : SNh M N) (h : RW M c) (hc : c ≤ c2) (hn : RWx N c2) : RW N c2 := ⟨hn, rr_mono (rr_e h.2 (fun k _ _ => s 34 _ (by simp [aNh]))) hc⟩
theorem rV_best {M N : Mx} {c : Int} (s : SNb M N) (h : RW M c) (q : (∀ k : Nat, k < 160 → N.1 1 (nI k) = M.1 1 (nI k)) ∧ ∀ q : Nat, q < 1280 → N.1 2 (nI q) = M.1 2 (nI q)) : RW N c := rW_of h (rn_e h.1.1 (fun k hk _ => q.1 k (by omega))) q.2 (fun j => s 34 j (by simp [aNb]))
theorem rV_undo {M N : Mx} {c : Int} {r : Int32} (hT : TM M) (s : SNu M N) (h : RW M c) (q : ((r = 0 ∧ M.1 0 3 = 0 ∧ N.1 0 3 = 0 ∧ ∀ j, N.1 1 j = M.1 1 j) ∨ (r = 1 ∧ ¬ M.1 0 3 = 0 ∧ N.1 0 3 = M.1 0 3 - 1 ∧ ∀ R : Nat, R ≤ 8 → M.1 0 3 - 1 = nI R → ∀ q : Nat, q < 160 → N.1 1 (nI q) = M.1 2 (nI (160 * R + q))))) : RW N c := by
  refine rW_of h ?_ (fun q _ => s 2 _ (by simp [aNu])) (fun j => s 34 j (by simp [aNu]))
  rcases q with ⟨-, -, -, e⟩ | ⟨-, q1, -, e⟩
  · exact rn_e h.1.1 (fun k _ _ => e _)
  · have b := tM_0_3 hT
    obtain ⟨R, hR, eR⟩ := ix (m := 7) (mm := 7) rfl (show 0 ≤ M.1 0 3 - 1 by clear e h; grind) (by clear e h; grind)
    have e := e R (by omega) eR
    refine rn_r.mpr (rr_e (h.1.2 R (by omega)) (fun k hk _ => ?_))
    rw [Nat.zero_add]
    exact e k (by omega)
theorem rV_notches {M N : Mx} {c : Int} {n r : Int32} (s : SZ M N) (h : RW M c) (hr : r = 0 ∨ r = 1) (p1 : r = 1 → NZ N n ∧ (∀ j, 0 ≤ j → j < 9 → N.1 17 j = 0) ∧ ZN N ∧ N.1 0 3 = 0) (p0 : r = 0 → SM M N) : RW N c := by
  rcases hr with e | e
  · exact rV_M (p0 e) h
  · exact rW_of h (rn_z (p1 e).2.2.1 (wv_c h.1.1)) (fun q _ => s 2 _ (by simp [aZ])) (fun j => s 34 j (by simp [aZ]))
theorem iat_w {M : Mx} {k : Nat} (h : k < 26) : iat M (6 + k) = M.1 1 (nI k) := by
  have key : ∀ q : Fin 26, ic (6 + q.val) = (1, q.val) := by decide +kernel
  unfold iat
  rw [key ⟨k, h⟩]
theorem wq_w {k : Nat} (h1 : k < 26) (h2 : k < 2 ∨ 6 ≤ k) : wq (6 + k) = true := by
  have key : ∀ q : Fin 26, (q.val < 2 ∨ 6 ≤ q.val) → wq (6 + q.val) = true := by decide +kernel
  exact key ⟨k, h1⟩ h2
theorem rV_image {M N : Mx} {c : Int} {t r : Int32} (s : SQ M N) (h : RW M c) (q : PJ M N t r) : RW N c := by
  rcases q with ⟨-, -, -, e⟩ | ⟨-, -, q2, q3, q4⟩
  · exact rV_M e h
  · have e2 : ∀ q : Nat, q < 1280 → N.1 2 (nI q) = M.1 2 (nI q) := fun q _ => s 2 _ (by simp [aQ])
    by_cases z : t = 0
    · have e3 := (q4 z).2
      refine rW_of h (rn_r.mpr (rr_e h.2 (fun k hk hk2 => ?_))) e2 e3
      rw [Nat.zero_add, ← iat_w (M := N) hk, q2 _ (wq_w hk hk2), e3]
    · have e1 := q3 z
      have hn : Rn N c := rn_e h.1.1 (fun k hk hk2 => by rw [← iat_w (M := N) hk, e1 _ (wq_w hk hk2), iat_w hk])
      refine ⟨⟨hn, fun r hr => rr_2 (h.1.2 r hr) hr e2⟩, rr_e (rn_r.mp hn) (fun k hk hk2 => ?_)⟩
      rw [Nat.zero_add, ← q2 _ (wq_w hk hk2), iat_w hk]
theorem dsr_of {A B : Mx} (h : Rl A B) (d : Dsk A 12) : Dsr B := by
  obtain ⟨⟨r0, r1, -⟩, ⟨w0, -⟩, -⟩ := h
  obtain ⟨d1, d2⟩ := d
  refine ⟨fun a b hab hb hn => ?_, fun a ha hn => ?_⟩
  · rw [← r1] at hn
    have hl : nI a < A.1 12 1 := Int32.lt_trans ((nI_ltI (by omega) (by omega)).mpr hab) hn
    rw [← w0 a (by omega) hl, ← w0 b hb hn]
    exact d1 a b hab hb hn
  · rw [← r1] at hn
    rw [← w0 a ha hn, ← r0]
    exact d2 a ha hn
theorem tl_eq {P Q : Prop} {r s : Int32} (e : P ↔ Q) (r01 : r = 0 ∨ r = 1) (s01 : s = 0 ∨ s = 1) (p : r = 1 ↔ P) (q : s = 1 ↔ Q) : r = s := by
  rcases r01 with h | h <;> rcases s01 with k | k
  · rw [h, k]
  · exact absurd (p.mpr (e.mpr (q.mp k))) (by rw [h]; decide)
  · exact absurd (q.mpr (e.mp (p.mp h))) (by rw [k]; decide)
  · rw [h, k]
theorem tl_c {A B : Mx} {w i v : Int32} (h : Rl A B) : TLc (A.1 12 0) (A.1 12 1) (A.1 19 0) w i v ↔ TLc (B.1 0 4) (B.1 0 5) (B.1 0 9) w i v := by
  obtain ⟨⟨r0, r1, r2, r3, -⟩, -⟩ := h
  rw [r0, r1, r3]
theorem tl_w {A A' : Mx} {w i v r : Int32} {c : Int} (p : (r = 0 ∨ r = 1) ∧ UT (w = 0 ∧ 0 ≤ i ∧ i ≤ A.1 19 0 - 1 ∧ 0 ≤ v ∧ v ≤ 60) (A.1 21) (A'.1 21) i v ∧ UT (w = 2 ∧ 0 ≤ i ∧ i ≤ A.1 19 0 - 1 ∧ 0 ≤ v ∧ v ≤ 9) (A.1 23) (A'.1 23) i v ∧ (∀ c : Int, Wat A 2 c → c ≤ 800000000 → ((r = 1 ↔ TLc (A.1 12 0) (A.1 12 1) (A.1 19 0) w i v) ∧ Wat A' 2 c)) ∧ (r = 0 → A'.1 75 0 = A.1 75 0) ∧ (¬ r = 0 → A'.1 75 0 = 0)) (h : Wat A 2 c) (hc : c ≤ 729000000) : Wat A' 2 c := (p.2.2.2.1 c h (by omega)).2
theorem tl_u {B B' : Mx} {w i v s : Int32} {c : Int} (p : (s = 0 ∨ s = 1) ∧ UT (w = 0 ∧ 0 ≤ i ∧ i ≤ B.1 0 9 - 1 ∧ 0 ≤ v ∧ v ≤ 60) (B.1 6) (B'.1 6) i v ∧ UT (w = 2 ∧ 0 ≤ i ∧ i ≤ B.1 0 9 - 1 ∧ 0 ≤ v ∧ v ≤ 9) (B.1 8) (B'.1 8) i v ∧ (∀ c : Int, Rn B c → c ≤ 800000000 → ((s = 1 ↔ TLc (B.1 0 4) (B.1 0 5) (B.1 0 9) w i v) ∧ Rn B' c)) ∧ (s = 0 → B'.1 0 3 = B.1 0 3) ∧ (¬ s = 0 → B'.1 0 3 = 0)) (h : Rn B c) (hc : c ≤ 729000000) : Rn B' c := (p.2.2.2.1 c h (by omega)).2
theorem tl_x {A A' B B' : Mx} {w i v r s : Int32} {c : Int} (hR : Rl A B) (p : (r = 0 ∨ r = 1) ∧ UT (w = 0 ∧ 0 ≤ i ∧ i ≤ A.1 19 0 - 1 ∧ 0 ≤ v ∧ v ≤ 60) (A.1 21) (A'.1 21) i v ∧ UT (w = 2 ∧ 0 ≤ i ∧ i ≤ A.1 19 0 - 1 ∧ 0 ≤ v ∧ v ≤ 9) (A.1 23) (A'.1 23) i v ∧ (∀ c : Int, Wat A 2 c → c ≤ 800000000 → ((r = 1 ↔ TLc (A.1 12 0) (A.1 12 1) (A.1 19 0) w i v) ∧ Wat A' 2 c)) ∧ (r = 0 → A'.1 75 0 = A.1 75 0) ∧ (¬ r = 0 → A'.1 75 0 = 0)) (q : (s = 0 ∨ s = 1) ∧ UT (w = 0 ∧ 0 ≤ i ∧ i ≤ B.1 0 9 - 1 ∧ 0 ≤ v ∧ v ≤ 60) (B.1 6) (B'.1 6) i v ∧ UT (w = 2 ∧ 0 ≤ i ∧ i ≤ B.1 0 9 - 1 ∧ 0 ≤ v ∧ v ≤ 9) (B.1 8) (B'.1 8) i v ∧ (∀ c : Int, Rn B c → c ≤ 800000000 → ((s = 1 ↔ TLc (B.1 0 4) (B.1 0 5) (B.1 0 9) w i v) ∧ Rn B' c)) ∧ (s = 0 → B'.1 0 3 = B.1 0 3) ∧ (¬ s = 0 → B'.1 0 3 = 0)) (h : Wat A 2 c) (k : Rn B c) (hc : c ≤ 729000000) : r = s := tl_eq (tl_c hR) p.1 q.1 (p.2.2.2.1 c h (by omega)).1 (q.2.2.2.1 c k (by omega)).1
theorem pb_X {b : Nat} (hb : b < 8) : aX (77 + 10 * b) 3 = true ∧ aX (77 + 10 * b) 4 = true := by
  rcases (show b = 0 ∨ b = 1 ∨ b = 2 ∨ b = 3 ∨ b = 4 ∨ b = 5 ∨ b = 6 ∨ b = 7 by omega) with rfl | rfl | rfl | rfl | rfl | rfl | rfl | rfl <;> decide
theorem pb_Xf {b : Nat} (hb : b < 8) : aXf (77 + 10 * b) 3 = true ∧ aXf (77 + 10 * b) 4 = true := by
  rcases (show b = 0 ∨ b = 1 ∨ b = 2 ∨ b = 3 ∨ b = 4 ∨ b = 5 ∨ b = 6 ∨ b = 7 by omega) with rfl | rfl | rfl | rfl | rfl | rfl | rfl | rfl <;> decide
theorem pb_Xb {b : Nat} (hb : b < 8) : aXb (77 + 10 * b) 3 = true ∧ aXb (77 + 10 * b) 4 = true := by
  rcases (show b = 0 ∨ b = 1 ∨ b = 2 ∨ b = 3 ∨ b = 4 ∨ b = 5 ∨ b = 6 ∨ b = 7 by omega) with rfl | rfl | rfl | rfl | rfl | rfl | rfl | rfl <;> decide
theorem pb_Xs {b : Nat} (hb : b < 8) : aXs (77 + 10 * b) 3 = true ∧ aXs (77 + 10 * b) 4 = true := by
  rcases (show b = 0 ∨ b = 1 ∨ b = 2 ∨ b = 3 ∨ b = 4 ∨ b = 5 ∨ b = 6 ∨ b = 7 by omega) with rfl | rfl | rfl | rfl | rfl | rfl | rfl | rfl <;> decide
theorem pb_Xa {b : Nat} (hb : b < 8) : aXa (77 + 10 * b) 3 = true ∧ aXa (77 + 10 * b) 4 = true := by
  rcases (show b = 0 ∨ b = 1 ∨ b = 2 ∨ b = 3 ∨ b = 4 ∨ b = 5 ∨ b = 6 ∨ b = 7 by omega) with rfl | rfl | rfl | rfl | rfl | rfl | rfl | rfl <;> decide
theorem pb_Xl {b : Nat} (hb : b < 8) : aXl (77 + 10 * b) 3 = true ∧ aXl (77 + 10 * b) 4 = true := by
  rcases (show b = 0 ∨ b = 1 ∨ b = 2 ∨ b = 3 ∨ b = 4 ∨ b = 5 ∨ b = 6 ∨ b = 7 by omega) with rfl | rfl | rfl | rfl | rfl | rfl | rfl | rfl <;> decide
theorem pb_Xz {b : Nat} (hb : b < 8) : aXz (77 + 10 * b) 3 = true ∧ aXz (77 + 10 * b) 4 = true := by
  rcases (show b = 0 ∨ b = 1 ∨ b = 2 ∨ b = 3 ∨ b = 4 ∨ b = 5 ∨ b = 6 ∨ b = 7 by omega) with rfl | rfl | rfl | rfl | rfl | rfl | rfl | rfl <;> decide
theorem pb_Xo {b : Nat} (hb : b < 8) : aXo (77 + 10 * b) 3 = true ∧ aXo (77 + 10 * b) 4 = true := by
  rcases (show b = 0 ∨ b = 1 ∨ b = 2 ∨ b = 3 ∨ b = 4 ∨ b = 5 ∨ b = 6 ∨ b = 7 by omega) with rfl | rfl | rfl | rfl | rfl | rfl | rfl | rfl <;> decide
theorem pb_Xg {b : Nat} (hb : b < 8) : aXg (77 + 10 * b) 3 = true ∧ aXg (77 + 10 * b) 4 = true := by
  rcases (show b = 0 ∨ b = 1 ∨ b = 2 ∨ b = 3 ∨ b = 4 ∨ b = 5 ∨ b = 6 ∨ b = 7 by omega) with rfl | rfl | rfl | rfl | rfl | rfl | rfl | rfl <;> decide
theorem pb_Xt {b : Nat} (hb : b < 8) : aXt (77 + 10 * b) 3 = true ∧ aXt (77 + 10 * b) 4 = true := by
  rcases (show b = 0 ∨ b = 1 ∨ b = 2 ∨ b = 3 ∨ b = 4 ∨ b = 5 ∨ b = 6 ∨ b = 7 by omega) with rfl | rfl | rfl | rfl | rfl | rfl | rfl | rfl <;> decide
theorem pb_Xn {b : Nat} (hb : b < 8) : aXn (77 + 10 * b) 3 = true ∧ aXn (77 + 10 * b) 4 = true := by
  rcases (show b = 0 ∨ b = 1 ∨ b = 2 ∨ b = 3 ∨ b = 4 ∨ b = 5 ∨ b = 6 ∨ b = 7 by omega) with rfl | rfl | rfl | rfl | rfl | rfl | rfl | rfl <;> decide
theorem pb_Xi {b : Nat} (hb : b < 8) : aXi (77 + 10 * b) 3 = true ∧ aXi (77 + 10 * b) 4 = true := by
  rcases (show b = 0 ∨ b = 1 ∨ b = 2 ∨ b = 3 ∨ b = 4 ∨ b = 5 ∨ b = 6 ∨ b = 7 by omega) with rfl | rfl | rfl | rfl | rfl | rfl | rfl | rfl <;> decide
/-- kept hours and times alike -/
def Hp (A B : Mx) : Prop := ∃ P : Int, P ≤ 240000 ∧ tmv (A.1 39 3) (A.1 39 4) P ∧ tmv (B.1 34 8) (B.1 34 9) P
def Ht (A B : Mx) : Prop := (∃ (T : Int) (K : Nat), T ≤ 240000 ∧ HrX A T K ∧ HrR B T K) ∧ (B.1 0 59 = 0 ∨ Hp A B)
theorem hp_of {A A' B B' : Mx} (h : B.1 0 59 = 0 ∨ Hp A B) (h59 : B'.1 0 59 = B.1 0 59) (a3 : A'.1 39 3 = A.1 39 3) (a4 : A'.1 39 4 = A.1 39 4) (g : ∀ j, B'.1 34 j = B.1 34 j) : B'.1 0 59 = 0 ∨ Hp A' B' :=
  h.elim (fun z => Or.inl (h59.trans z)) (fun ⟨P, h1, h2, h3⟩ => Or.inr ⟨P, h1, by rw [a3, a4]; exact h2, by rw [g, g]; exact h3⟩)
theorem ht_X_M {A A' B B' : Mx} (h : Ht A B) (hA : SX A A') (hB : SM B B') : Ht A' B' := by
  obtain ⟨⟨T, K, h1, h2, h3⟩, im⟩ := h
  exact ⟨⟨T, K, h1, t8_e h2 (hA 75 0 (by decide)) (hA 75 1 (by decide)) (hA 2 3 (by decide)) (hA 2 4 (by decide)) (fun b hb => ⟨hA _ 3 (pb_X hb).1, hA _ 4 (pb_X hb).2⟩), r8_e h3 (hB 0 3 (by decide)) (hB 1 2 (by decide)) (hB 1 3 (by decide)) (fun q _ => hB 2 _ (by simp [aM]))⟩, hp_of im (hB 0 59 (by decide)) (hA 39 3 (by decide)) (hA 39 4 (by decide)) (fun j => hB 34 j (by simp [aM]))⟩
theorem ht_Xo_Mo {A A' B B' : Mx} (h : Ht A B) (hA : SXo A A') (hB : SMo B B') : Ht A' B' := by
  obtain ⟨⟨T, K, h1, h2, h3⟩, im⟩ := h
  exact ⟨⟨T, K, h1, t8_e h2 (hA 75 0 (by decide)) (hA 75 1 (by decide)) (hA 2 3 (by decide)) (hA 2 4 (by decide)) (fun b hb => ⟨hA _ 3 (pb_Xo hb).1, hA _ 4 (pb_Xo hb).2⟩), r8_e h3 (hB 0 3 (by decide)) (hB 1 2 (by decide)) (hB 1 3 (by decide)) (fun q _ => hB 2 _ (by simp [aMo]))⟩, hp_of im (hB 0 59 (by decide)) (hA 39 3 (by decide)) (hA 39 4 (by decide)) (fun j => hB 34 j (by simp [aMo]))⟩
theorem ht_Xg_Mg {A A' B B' : Mx} (h : Ht A B) (hA : SXg A A') (hB : SMg B B') : Ht A' B' := by
  obtain ⟨⟨T, K, h1, h2, h3⟩, im⟩ := h
  exact ⟨⟨T, K, h1, t8_e h2 (hA 75 0 (by decide)) (hA 75 1 (by decide)) (hA 2 3 (by decide)) (hA 2 4 (by decide)) (fun b hb => ⟨hA _ 3 (pb_Xg hb).1, hA _ 4 (pb_Xg hb).2⟩), r8_e h3 (hB 0 3 (by decide)) (hB 1 2 (by decide)) (hB 1 3 (by decide)) (fun q _ => hB 2 _ (by simp [aMg]))⟩, hp_of im (hB 0 59 (by decide)) (hA 39 3 (by decide)) (hA 39 4 (by decide)) (fun j => hB 34 j (by simp [aMg]))⟩
theorem ht_Xt_T {A A' B B' : Mx} (h : Ht A B) (hA : SXt A A') (hB : ST B B') : Ht A' B' := by
  obtain ⟨⟨T, K, h1, h2, h3⟩, im⟩ := h
  exact ⟨⟨T, K, h1, t8_e h2 (hA 75 0 (by decide)) (hA 75 1 (by decide)) (hA 2 3 (by decide)) (hA 2 4 (by decide)) (fun b hb => ⟨hA _ 3 (pb_Xt hb).1, hA _ 4 (pb_Xt hb).2⟩), r8_e h3 (hB 0 3 (by decide)) (hB 1 2 (by decide)) (hB 1 3 (by decide)) (fun q _ => hB 2 _ (by simp [aT]))⟩, hp_of im (hB 0 59 (by decide)) (hA 39 3 (by decide)) (hA 39 4 (by decide)) (fun j => hB 34 j (by simp [aT]))⟩
theorem ht_Xt_Mt {A A' B B' : Mx} (h : Ht A B) (hA : SXt A A') (hB : SMt B B') : Ht A' B' := by
  obtain ⟨⟨T, K, h1, h2, h3⟩, im⟩ := h
  exact ⟨⟨T, K, h1, t8_e h2 (hA 75 0 (by decide)) (hA 75 1 (by decide)) (hA 2 3 (by decide)) (hA 2 4 (by decide)) (fun b hb => ⟨hA _ 3 (pb_Xt hb).1, hA _ 4 (pb_Xt hb).2⟩), r8_e h3 (hB 0 3 (by decide)) (hB 1 2 (by decide)) (hB 1 3 (by decide)) (fun q _ => hB 2 _ (by simp [aMt]))⟩, hp_of im (hB 0 59 (by decide)) (hA 39 3 (by decide)) (hA 39 4 (by decide)) (fun j => hB 34 j (by simp [aMt]))⟩
theorem ht_Xt_Y {A A' B B' : Mx} (h : Ht A B) (hA : SXt A A') (hB : SY (up B 0 30 0) B') : Ht A' B' := by
  obtain ⟨⟨T, K, h1, h2, h3⟩, im⟩ := h
  obtain ⟨-, hB⟩ := sy_t hB
  exact ⟨⟨T, K, h1, t8_e h2 (hA 75 0 (by decide)) (hA 75 1 (by decide)) (hA 2 3 (by decide)) (hA 2 4 (by decide)) (fun b hb => ⟨hA _ 3 (pb_Xt hb).1, hA _ 4 (pb_Xt hb).2⟩), r8_e h3 (hB 0 3 (by decide) (by decide)) (hB 1 2 (by decide) (by decide)) (hB 1 3 (by decide) (by decide)) (fun q _ => hB 2 _ (by simp [aY]) (by simp))⟩, hp_of im (hB 0 59 (by decide) (by decide)) (hA 39 3 (by decide)) (hA 39 4 (by decide)) (fun j => hB 34 j (by simp [aY]) (by simp))⟩
theorem ht_best {A B B' : Mx} (h : Ht A B) (hB : SNb B B') (q : (∀ k : Nat, k < 160 → B'.1 1 (nI k) = B.1 1 (nI k)) ∧ ∀ q : Nat, q < 1280 → B'.1 2 (nI q) = B.1 2 (nI q)) : Ht A B' := by
  obtain ⟨⟨T, K, h1, h2, h3⟩, im⟩ := h
  exact ⟨⟨T, K, h1, h2, r8_e h3 (hB 0 3 (by decide)) (q.1 2 (by omega)) (q.1 3 (by omega)) q.2⟩, hp_of im (hB 0 59 (by decide)) rfl rfl (fun j => hB 34 j (by simp [aNb]))⟩
theorem ht_bX {A A' B : Mx} (h : Ht A B) (hA : SX A A') : Ht A' B := by
  obtain ⟨⟨T, K, h1, h2, h3⟩, im⟩ := h
  exact ⟨⟨T, K, h1, t8_e h2 (hA 75 0 (by decide)) (hA 75 1 (by decide)) (hA 2 3 (by decide)) (hA 2 4 (by decide)) (fun b hb => ⟨hA _ 3 (pb_X hb).1, hA _ 4 (pb_X hb).2⟩), h3⟩, hp_of im rfl (hA 39 3 (by decide)) (hA 39 4 (by decide)) (fun _ => rfl)⟩
theorem ht_Xf_F {A A' B B' : Mx} {r s f : Int32} (h : Ht A B) (hA : SXf A A') (hB : SF B B') (e : r = s) (p : (r = f → A'.1 75 0 = A.1 75 0) ∧ (¬ r = f → A'.1 75 0 = 0)) (q : (s = f → B'.1 0 3 = B.1 0 3) ∧ (¬ s = f → B'.1 0 3 = 0)) : Ht A' B' := by
  obtain ⟨⟨T, K, h1, h2, h3⟩, im⟩ := h
  refine ⟨?_, hp_of im (hB 0 59 (by decide)) (hA 39 3 (by decide)) (hA 39 4 (by decide)) (fun j => hB 34 j (by simp [aF]))⟩
  by_cases z : r = f
  · exact ⟨T, K, h1, t8_e h2 (p.1 z) (hA 75 1 (by decide)) (hA 2 3 (by decide)) (hA 2 4 (by decide)) (fun b hb => ⟨hA _ 3 (pb_Xf hb).1, hA _ 4 (pb_Xf hb).2⟩), r8_e h3 (q.1 (e ▸ z)) (hB 1 2 (by decide)) (hB 1 3 (by decide)) (fun q _ => hB 2 _ (by simp [aF]))⟩
  · obtain ⟨-, -, tn, N0, hN, k1, -⟩ := h2
    obtain ⟨-, -, tr, -⟩ := h3
    exact ⟨T, 0, h1, t8_0 (p.2 z) hN ((hA 75 1 (by decide)).trans k1) (by rw [hA 2 3 (by decide), hA 2 4 (by decide)]; exact tn), r8_0 (q.2 (e ▸ z)) (by rw [hB 1 2 (by decide), hB 1 3 (by decide)]; exact tr)⟩
theorem ht_Xb_Mb {A A' B B' : Mx} {r s f : Int32} (h : Ht A B) (hA : SXb A A') (hB : SMb B B') (e : r = s) (p : (r = f → A'.1 75 0 = A.1 75 0) ∧ (¬ r = f → A'.1 75 0 = 0)) (q : (s = f → B'.1 0 3 = B.1 0 3) ∧ (¬ s = f → B'.1 0 3 = 0)) : Ht A' B' := by
  obtain ⟨⟨T, K, h1, h2, h3⟩, im⟩ := h
  refine ⟨?_, hp_of im (hB 0 59 (by decide)) (hA 39 3 (by decide)) (hA 39 4 (by decide)) (fun j => hB 34 j (by simp [aMb]))⟩
  by_cases z : r = f
  · exact ⟨T, K, h1, t8_e h2 (p.1 z) (hA 75 1 (by decide)) (hA 2 3 (by decide)) (hA 2 4 (by decide)) (fun b hb => ⟨hA _ 3 (pb_Xb hb).1, hA _ 4 (pb_Xb hb).2⟩), r8_e h3 (q.1 (e ▸ z)) (hB 1 2 (by decide)) (hB 1 3 (by decide)) (fun q _ => hB 2 _ (by simp [aMb]))⟩
  · obtain ⟨-, -, tn, N0, hN, k1, -⟩ := h2
    obtain ⟨-, -, tr, -⟩ := h3
    exact ⟨T, 0, h1, t8_0 (p.2 z) hN ((hA 75 1 (by decide)).trans k1) (by rw [hA 2 3 (by decide), hA 2 4 (by decide)]; exact tn), r8_0 (q.2 (e ▸ z)) (by rw [hB 1 2 (by decide), hB 1 3 (by decide)]; exact tr)⟩
theorem ht_Xs_Ms {A A' B B' : Mx} {r s f : Int32} (h : Ht A B) (hA : SXs A A') (hB : SMs B B') (e : r = s) (p : (r = f → A'.1 75 0 = A.1 75 0) ∧ (¬ r = f → A'.1 75 0 = 0)) (q : (s = f → B'.1 0 3 = B.1 0 3) ∧ (¬ s = f → B'.1 0 3 = 0)) : Ht A' B' := by
  obtain ⟨⟨T, K, h1, h2, h3⟩, im⟩ := h
  refine ⟨?_, hp_of im (hB 0 59 (by decide)) (hA 39 3 (by decide)) (hA 39 4 (by decide)) (fun j => hB 34 j (by simp [aMs]))⟩
  by_cases z : r = f
  · exact ⟨T, K, h1, t8_e h2 (p.1 z) (hA 75 1 (by decide)) (hA 2 3 (by decide)) (hA 2 4 (by decide)) (fun b hb => ⟨hA _ 3 (pb_Xs hb).1, hA _ 4 (pb_Xs hb).2⟩), r8_e h3 (q.1 (e ▸ z)) (hB 1 2 (by decide)) (hB 1 3 (by decide)) (fun q _ => hB 2 _ (by simp [aMs]))⟩
  · obtain ⟨-, -, tn, N0, hN, k1, -⟩ := h2
    obtain ⟨-, -, tr, -⟩ := h3
    exact ⟨T, 0, h1, t8_0 (p.2 z) hN ((hA 75 1 (by decide)).trans k1) (by rw [hA 2 3 (by decide), hA 2 4 (by decide)]; exact tn), r8_0 (q.2 (e ▸ z)) (by rw [hB 1 2 (by decide), hB 1 3 (by decide)]; exact tr)⟩
theorem ht_Xa_Ma {A A' B B' : Mx} {r s f : Int32} (h : Ht A B) (hA : SXa A A') (hB : SMa B B') (e : r = s) (p : (r = f → A'.1 75 0 = A.1 75 0) ∧ (¬ r = f → A'.1 75 0 = 0)) (q : (s = f → B'.1 0 3 = B.1 0 3) ∧ (¬ s = f → B'.1 0 3 = 0)) : Ht A' B' := by
  obtain ⟨⟨T, K, h1, h2, h3⟩, im⟩ := h
  refine ⟨?_, hp_of im (hB 0 59 (by decide)) (hA 39 3 (by decide)) (hA 39 4 (by decide)) (fun j => hB 34 j (by simp [aMa]))⟩
  by_cases z : r = f
  · exact ⟨T, K, h1, t8_e h2 (p.1 z) (hA 75 1 (by decide)) (hA 2 3 (by decide)) (hA 2 4 (by decide)) (fun b hb => ⟨hA _ 3 (pb_Xa hb).1, hA _ 4 (pb_Xa hb).2⟩), r8_e h3 (q.1 (e ▸ z)) (hB 1 2 (by decide)) (hB 1 3 (by decide)) (fun q _ => hB 2 _ (by simp [aMa]))⟩
  · obtain ⟨-, -, tn, N0, hN, k1, -⟩ := h2
    obtain ⟨-, -, tr, -⟩ := h3
    exact ⟨T, 0, h1, t8_0 (p.2 z) hN ((hA 75 1 (by decide)).trans k1) (by rw [hA 2 3 (by decide), hA 2 4 (by decide)]; exact tn), r8_0 (q.2 (e ▸ z)) (by rw [hB 1 2 (by decide), hB 1 3 (by decide)]; exact tr)⟩
theorem ht_Xl_Ml {A A' B B' : Mx} {r s f : Int32} (h : Ht A B) (hA : SXl A A') (hB : SMl B B') (e : r = s) (p : (r = f → A'.1 75 0 = A.1 75 0) ∧ (¬ r = f → A'.1 75 0 = 0)) (q : (s = f → B'.1 0 3 = B.1 0 3) ∧ (¬ s = f → B'.1 0 3 = 0)) : Ht A' B' := by
  obtain ⟨⟨T, K, h1, h2, h3⟩, im⟩ := h
  refine ⟨?_, hp_of im (hB 0 59 (by decide)) (hA 39 3 (by decide)) (hA 39 4 (by decide)) (fun j => hB 34 j (by simp [aMl]))⟩
  by_cases z : r = f
  · exact ⟨T, K, h1, t8_e h2 (p.1 z) (hA 75 1 (by decide)) (hA 2 3 (by decide)) (hA 2 4 (by decide)) (fun b hb => ⟨hA _ 3 (pb_Xl hb).1, hA _ 4 (pb_Xl hb).2⟩), r8_e h3 (q.1 (e ▸ z)) (hB 1 2 (by decide)) (hB 1 3 (by decide)) (fun q _ => hB 2 _ (by simp [aMl]))⟩
  · obtain ⟨-, -, tn, N0, hN, k1, -⟩ := h2
    obtain ⟨-, -, tr, -⟩ := h3
    exact ⟨T, 0, h1, t8_0 (p.2 z) hN ((hA 75 1 (by decide)).trans k1) (by rw [hA 2 3 (by decide), hA 2 4 (by decide)]; exact tn), r8_0 (q.2 (e ▸ z)) (by rw [hB 1 2 (by decide), hB 1 3 (by decide)]; exact tr)⟩
theorem ht_Xz_Mz {A A' B B' : Mx} {r s f : Int32} (h : Ht A B) (hA : SXz A A') (hB : SMz B B') (e : r = s) (p : (r = f → A'.1 75 0 = A.1 75 0) ∧ (¬ r = f → A'.1 75 0 = 0)) (q : (s = f → B'.1 0 3 = B.1 0 3) ∧ (¬ s = f → B'.1 0 3 = 0)) : Ht A' B' := by
  obtain ⟨⟨T, K, h1, h2, h3⟩, im⟩ := h
  refine ⟨?_, hp_of im (hB 0 59 (by decide)) (hA 39 3 (by decide)) (hA 39 4 (by decide)) (fun j => hB 34 j (by simp [aMz]))⟩
  by_cases z : r = f
  · exact ⟨T, K, h1, t8_e h2 (p.1 z) (hA 75 1 (by decide)) (hA 2 3 (by decide)) (hA 2 4 (by decide)) (fun b hb => ⟨hA _ 3 (pb_Xz hb).1, hA _ 4 (pb_Xz hb).2⟩), r8_e h3 (q.1 (e ▸ z)) (hB 1 2 (by decide)) (hB 1 3 (by decide)) (fun q _ => hB 2 _ (by simp [aMz]))⟩
  · obtain ⟨-, -, tn, N0, hN, k1, -⟩ := h2
    obtain ⟨-, -, tr, -⟩ := h3
    exact ⟨T, 0, h1, t8_0 (p.2 z) hN ((hA 75 1 (by decide)).trans k1) (by rw [hA 2 3 (by decide), hA 2 4 (by decide)]; exact tn), r8_0 (q.2 (e ▸ z)) (by rw [hB 1 2 (by decide), hB 1 3 (by decide)]; exact tr)⟩
theorem hc_T {d h n : Int32} {T : Int} {m : Nat} (q : tmv d h T) (hT : T ≤ 240000) (hm : m ≤ 240) (en : n = nI m) (c : (h + n) / 24 + d ≤ 9999) : T + m ≤ 240000 := by
  obtain ⟨q1, q2, q3, q4⟩ := q
  have em : n.toInt = m := by
    rw [en]
    exact Int32.toInt_ofNat_of_lt (by omega)
  have e1 : (h + n).toInt = h.toInt + m := by rw [i_add (by omega) (by omega), em]
  have o24 : (24 : Int32).toInt = 24 := rfl
  have e2 : ((h + n) / 24).toInt = (h.toInt + m) / 24 := by
    rw [Int32.toInt_div, e1, o24, Int.tdiv_eq_ediv_of_nonneg (by omega)]
    exact Int.bmod_eq_of_le (by omega) (by omega)
  have o9 : (9999 : Int32).toInt = 9999 := rfl
  rw [i_le, i_add (by omega) (by omega), e2, o9] at c
  omega
theorem ht_hours {A A' B B' : Mx} {n : Int32} (h : Ht A B) (hA : SXh A A') (hB : SNh B B') (p : (¬ (1 ≤ n ∧ n ≤ 240 ∧ (A.1 2 4 + n) / 24 + A.1 2 3 ≤ 9999) ∧ A' = A) ∨ ((1 ≤ n ∧ n ≤ 240 ∧ (A.1 2 4 + n) / 24 + A.1 2 3 ≤ 9999) ∧ ∀ m : Nat, m ≤ 240 → n = nI m → ∀ (T : Int) (K : Nat), HrX A T K → T ≤ 1000000 → HrX A' (T + m) (min 8 (K + m)))) (q : (¬ (1 ≤ n ∧ n ≤ 240 ∧ B.1 1 2 + (B.1 1 3 + n) / 24 ≤ 9999) ∧ B'.1 0 3 = B.1 0 3 ∧ (∀ j, B'.1 1 j = B.1 1 j) ∧ ∀ j, B'.1 2 j = B.1 2 j) ∨ ((1 ≤ n ∧ n ≤ 240 ∧ B.1 1 2 + (B.1 1 3 + n) / 24 ≤ 9999) ∧ ∀ m : Nat, m ≤ 240 → n = nI m → ∀ (T : Int) (K : Nat), HrR B T K → T ≤ 1000000 → HrR B' (T + m) (min 8 (K + m)))) : Ht A' B' := by
  obtain ⟨⟨T, K, h1, h2, h3⟩, im⟩ := h
  refine ⟨?_, hp_of im (hB 0 59 (by decide)) (hA 39 3 (by decide)) (hA 39 4 (by decide)) (fun j => hB 34 j (by simp [aNh]))⟩
  obtain ⟨ed, eh⟩ := tmv_u h2.2.2.1 h3.2.2.1
  have tn := h2.2.2.1
  rw [← ed, ← eh, Int32.add_comm (A.1 2 3)] at q
  rcases p with ⟨p1, p2⟩ | ⟨p1, p2⟩
  · rcases q with ⟨q1, q2, q3, q4⟩ | ⟨q1, q2⟩
    · rw [p2]
      exact ⟨T, K, h1, h2, r8_e h3 q2 (q3 _) (q3 _) (fun _ _ => q4 _)⟩
    · exact absurd q1 p1
  · rcases q with ⟨q1, q2, q3, q4⟩ | ⟨q1, q2⟩
    · exact absurd p1 q1
    · obtain ⟨m, hm, em⟩ := ix (m := 240) (mm := 240) rfl (Int32.le_trans (by decide) p1.1) p1.2.1
      exact ⟨T + m, min 8 (K + m), hc_T tn h1 hm em p1.2.2, p2 m hm em T K h2 (by omega), q2 m hm em T K h3 (by omega)⟩
theorem ht_undo {A A' B B' : Mx} {r s : Int32} (h : Ht A B) (hA : SXu A A') (hB : SNu B B') (p : (r = 0 ∧ A.1 75 0 ≤ 0 ∧ A' = A) ∨ (r = 1 ∧ 0 < A.1 75 0 ∧ A'.1 75 0 = A.1 75 0 - 1 ∧ ∃ n : Nat, n < 8 ∧ A'.1 75 1 = nI n ∧ A.1 75 1 = nI (nx8 n) ∧ ∃ x, ∀ a j, ¬ a = 75 → A'.1 a j = (mvc (up A 75 1 x) 2 (77 + 10 * n)).1 a j)) (q : ((s = 0 ∧ B.1 0 3 = 0 ∧ B'.1 0 3 = 0 ∧ ∀ j, B'.1 1 j = B.1 1 j) ∨ (s = 1 ∧ ¬ B.1 0 3 = 0 ∧ B'.1 0 3 = B.1 0 3 - 1 ∧ ∀ R : Nat, R ≤ 8 → B.1 0 3 - 1 = nI R → ∀ q : Nat, q < 160 → B'.1 1 (nI q) = B.1 2 (nI (160 * R + q))))) : r = s ∧ Ht A' B' := by
  obtain ⟨⟨T, K, h1, h2, h3⟩, im⟩ := h
  have im2 := hp_of im (hB 0 59 (by decide)) (hA 39 3 (by decide)) (hA 39 4 (by decide)) (fun j => hB 34 j (by simp [aNu]))
  have k1 := h2.2.1
  have k2 := h3.2.1
  have K8 := h2.1
  rcases p with ⟨p1, p2, p3⟩ | ⟨p1, p2, p3, n, hn, p4, p5, x, p6⟩
  · rcases q with ⟨q1, q2, q3, q4⟩ | ⟨q1, q2, q3, q4⟩
    · refine ⟨p1.trans q1.symm, ⟨T, K, h1, by rw [p3]; exact h2, r8_e h3 (q3.trans q2.symm) (q4 _) (q4 _) (fun _ _ => hB 2 _ (by simp [aNu]))⟩, im2⟩
    · rw [k1] at p2
      have := (nI_leI (a := K) (b := 0) (by omega) (by omega)).mp p2
      exact absurd (by rw [k2, show K = 0 by omega]; rfl) q2
  · rcases q with ⟨q1, q2, q3, q4⟩ | ⟨q1, q2, q3, q4⟩
    · rw [k1, ← k2, q2] at p2
      exact absurd p2 (by decide)
    · exact ⟨p1.trans q1.symm, ⟨T - 1, K - 1, by omega, (t8_un h2 p2 p3 hn p4 p5 p6).1, (r8_un h3 q2 q3 q4 (fun j => hB 2 j (by simp [aNu]))).1⟩, im2⟩
theorem tmv_0 {d h : Int32} (e1 : d = 0) (e2 : h = 0) : tmv d h 0 := by
  subst e1 e2
  exact ⟨by decide, by decide, by decide, by decide⟩
theorem ht_notches {A A' B B' : Mx} {n r s : Int32} (h : Ht A B) (hA : SXn A A') (hB : SZ B B') (e : r = s) (p0 : r = 0 → A' = A) (p1 : r = 1 → A'.1 75 0 = 0 ∧ A'.1 2 3 = 0 ∧ A'.1 2 4 = 0) (q1 : s = 1 → NZ B' n ∧ (∀ j, 0 ≤ j → j < 9 → B'.1 17 j = 0) ∧ ZN B' ∧ B'.1 0 3 = 0) (q0 : s = 0 → SM B B') (hr : r = 0 ∨ r = 1) : Ht A' B' := by
  rcases hr with z | z
  · rw [p0 z]
    exact ht_X_M h Sx.rf (q0 (e ▸ z))
  · obtain ⟨a0, a1, a2⟩ := p1 z
    obtain ⟨-, -, b1, b0⟩ := q1 (e ▸ z)
    obtain ⟨⟨T, K, h1, h2, h3⟩, im⟩ := h
    obtain ⟨-, -, -, N0, hN, k1, -⟩ := h2
    exact ⟨⟨0, 0, by decide, t8_0 a0 hN ((hA 75 1 (by decide)).trans k1) (tmv_0 a1 a2), r8_0 b0 (tmv_0 (b1 2 (by omega) (by omega)) (b1 3 (by omega) (by omega)))⟩, hp_of im (hB 0 59 (by decide)) (hA 39 3 (by decide)) (hA 39 4 (by decide)) (fun j => hB 34 j (by simp [aZ]))⟩
theorem wq_2 : wq 8 = true ∧ wq 9 = true := by decide +kernel
theorem ht_image {A A' B B' : Mx} {t r s : Int32} (h : Ht A B) (hA : SXi A A') (hB : SQ B B') (e : r = s) (hr : r = 0 ∨ r = 1) (p : (¬ t = 0 → A'.1 75 0 = A.1 75 0 ∧ A'.1 2 3 = A.1 2 3 ∧ A'.1 2 4 = A.1 2 4 ∧ A'.1 39 3 = A.1 2 3 ∧ A'.1 39 4 = A.1 2 4) ∧ (t = 0 → r = 1 → A'.1 75 0 = 0 ∧ A'.1 2 3 = A.1 39 3 ∧ A'.1 2 4 = A.1 39 4 ∧ A'.1 39 3 = A.1 39 3 ∧ A'.1 39 4 = A.1 39 4) ∧ (r = 0 → A' = A)) (q : PJ B B' t s) (u : ((s = 0 → B'.1 0 3 = B.1 0 3) ∧ (s = 1 → (¬ t = 0 → B'.1 0 3 = B.1 0 3) ∧ (t = 0 → B'.1 0 3 = 0)))) : Ht A' B' := by
  obtain ⟨p1, p2, p3⟩ := p
  rcases hr with z | z
  · rw [p3 z]
    rcases q with ⟨-, -, -, q3⟩ | ⟨q0, -⟩
    · exact ht_X_M h Sx.rf q3
    · exact absurd (z.symm.trans (e.trans q0)) (by decide)
  · rcases q with ⟨q0, -⟩ | ⟨-, q1, q2, q3, q4⟩
    · exact absurd (z.symm.trans (e.trans q0)) (by decide)
    · obtain ⟨⟨T, K, h1, h2, h3⟩, im⟩ := h
      have i2 := q2 8 wq_2.1
      have i3 := q2 9 wq_2.2
      obtain ⟨u1, u2⟩ := u.2 (e ▸ z)
      by_cases y : t = 0
      · obtain ⟨g1, g2⟩ := q4 y
        obtain ⟨P, b1, b2, b3⟩ := im.resolve_left g1
        obtain ⟨a0, a1, a2, a3, a4⟩ := p2 y z
        obtain ⟨-, -, -, N0, hN, k1, -⟩ := h2
        have j2 : B'.1 1 2 = B.1 34 8 := i2.trans (g2 _)
        have j3 : B'.1 1 3 = B.1 34 9 := i3.trans (g2 _)
        refine ⟨⟨P, 0, b1, t8_0 a0 hN ((hA 75 1 (by decide)).trans k1) (by rw [a1, a2]; exact b2), r8_0 (u2 y) (by rw [j2, j3]; exact b3)⟩, Or.inr ⟨P, b1, by rw [a3, a4]; exact b2, by rw [g2, g2]; exact b3⟩⟩
      · obtain ⟨a0, a1, a2, a3, a4⟩ := p1 y
        have j2 : B'.1 1 2 = B.1 1 2 := q3 y 8 wq_2.1
        have j3 : B'.1 1 3 = B.1 1 3 := q3 y 9 wq_2.2
        have l2 : B'.1 34 8 = B.1 1 2 := i2.symm.trans j2
        have l3 : B'.1 34 9 = B.1 1 3 := i3.symm.trans j3
        exact ⟨⟨T, K, h1, t8_e h2 a0 (hA 75 1 (by decide)) a1 a2 (fun b hb => ⟨hA _ 3 (pb_Xi hb).1, hA _ 4 (pb_Xi hb).2⟩), r8_e h3 (u1 y) j2 j3 (fun _ _ => hB 2 _ (by simp [aQ]))⟩, Or.inr ⟨T, h1, by rw [a3, a4]; exact h2.2.2.1, by rw [l2, l3]; exact h3.2.2.1⟩⟩
theorem pi_01 {M N : Mx} {t r : Int32} (h : PI M N t r) : r = 0 ∨ r = 1 := by
  rcases h with ⟨-, h, -⟩ | ⟨-, -, h, -⟩ | ⟨-, -, h, -⟩
  · exact Or.inr h
  · exact Or.inl h
  · exact Or.inr h
theorem me_r {A B : Mx} {a b : Int32} (h : Rl A B) : (0 ≤ a ∧ a ≤ A.1 12 2 - 1 ∧ 1 ≤ b ∧ b ≤ 99999) ↔ (0 ≤ a ∧ a ≤ B.1 0 16 - 1 ∧ 1 ≤ b ∧ b ≤ 99999) := by
  obtain ⟨⟨r0, r1, r2, -⟩, -⟩ := h
  rw [r2]
def Iv (c : Int) (A B : Mx) : Prop := TX A ∧ IM B ∧ Rl A B ∧ PW A c ∧ RW B c ∧ Ht A B
theorem iv_mono {A B : Mx} {c c2 : Int} (h : Iv c A B) (hc : c ≤ c2) : Iv c2 A B := ⟨h.1, h.2.1, h.2.2.1, pW_mono h.2.2.2.1 hc, rW_mono h.2.2.2.2.1 hc, h.2.2.2.2.2⟩
