theorem agX {A B : Mx} : Agr (jn 182 A B) 0 shX.length A := by rw [lenX]; exact jn_1
theorem agM {A B : Mx} : Agr (jn 182 A B) 182 shM.length B := jn_2
theorem lenL : shLaw.length = 217 := by rw [shLaw, WB_len lenX lenM]
section R11
variable {G : Cx} {cc : ByteArray} {nL : Nat} {own : String} {ret : Option FieldType} {d : Nat} {ad : Nat → Nat} {cs sl : Nat} {A B : Mx} {pc : Nat} {lv : List (Nat × Value)} {st : List Value}
theorem aw_cX (K : Ok G cc nL own ret d) {idx n mL dd : Nat} {y : MethodName} {c : ByteArray} {r : Option FieldType} {As rest : List Value} {P : Int32 → Mx → Prop} (hl : LV own idx RX11 y c mL r n) (hd : decode cc pc = .ok (.invokevirtual idx, 3)) (hc : Ct (xk G, sw (ad, shLaw) 0 shX) y c mL r dd 0 0 (.ref 0 :: As) A (Rs (xk G, sw (ad, shLaw) 0 shX) (RI P))) (hst : st = As.reverse ++ .ref 0 :: rest) (hAs : As.map (cvv (ga (xk G, (ad, shLaw)))) = As.map (cvv (ga (xk G, sw (ad, shLaw) 0 shX)))) (hn : As.length = n) (hrest : (rest.map fun v => v.category).sum ≤ 8) (hdd : dd < d) (hmL : mL ≤ 40) (hcs : cs ≤ xmc G) (hsl : sl ≤ xms G)
    (kk : ∀ (v : Int32) (N : Mx), P v N → AW G nL (ad, shLaw) cs sl (jn 182 N B) (pc + 3) lv (.int v :: rest)) : AW G nL (ad, shLaw) cs sl (jn 182 A B) pc lv st :=
  aw_cVs (Fm := fun N => jn 182 N B) K subX agX (fun _ => agX) (fun N a _ h => jn_o1 (by rw [lenX] at h; omega)) cf11 hl hd s0 hc hst hAs hn hrest hdd hmL hcs hsl kk
theorem aw_cM (K : Ok G cc nL own ret d) {idx n mL dd : Nat} {y : MethodName} {c : ByteArray} {r : Option FieldType} {As rest : List Value} {P : Int32 → Mx → Prop} (hl : LV own idx RX12 y c mL r n) (hd : decode cc pc = .ok (.invokevirtual idx, 3)) (hc : Ct (xk G, sw (ad, shLaw) 182 shM) y c mL r dd 0 0 (.ref 0 :: As) B (Rs (xk G, sw (ad, shLaw) 182 shM) (RI P))) (hst : st = As.reverse ++ .ref 182 :: rest) (hAs : As.map (cvv (ga (xk G, (ad, shLaw)))) = As.map (cvv (ga (xk G, sw (ad, shLaw) 182 shM)))) (hn : As.length = n) (hrest : (rest.map fun v => v.category).sum ≤ 8) (hdd : dd < d) (hmL : mL ≤ 40) (hcs : cs ≤ xmc G) (hsl : sl ≤ xms G)
    (kk : ∀ (v : Int32) (N : Mx), P v N → AW G nL (ad, shLaw) cs sl (jn 182 A N) (pc + 3) lv (.int v :: rest)) : AW G nL (ad, shLaw) cs sl (jn 182 A B) pc lv st :=
  aw_cVs (Fm := fun N => jn 182 A N) K subM agM (fun _ => agM) (fun N a ha h => jn_o2 (by
    have ha : a < shLaw.length := ha
    rw [lenL] at ha
    rw [lenM] at h
    omega)) cf12 hl hd m0 hc hst hAs hn hrest hdd hmL hcs hsl kk
end R11
theorem par2 {n : Int32} (h0 : 8 ≤ n) (h1 : n ≤ 40) : n - n / 2 * 2 = 0 ∨ n - n / 2 * 2 = 1 := by
  obtain ⟨j, hj, rfl⟩ := nI_of (x := n) (by grind)
  have h : j ≤ 40 := by
    rw [Int32.le_iff_toInt_le, nI_toInt hj] at h1
    have : (40 : Int32).toInt = 40 := rfl
    omega
  have key : ∀ q : Fin 41, Int32.ofNat q.val - Int32.ofNat q.val / 2 * 2 = 0 ∨ Int32.ofNat q.val - Int32.ofNat q.val / 2 * 2 = 1 := by decide +kernel
  exact key ⟨j, by omega⟩
/-- what the reference keeps -/
def IM (B : Mx) : Prop := TM B ∧ B.1 1 3 ≤ 23 ∧ WL B ∧ Wd B ∧ WI B
theorem im_M {B N : Mx} (h : IM B) (hT : TM N) (hS : SM B N) : IM N := ⟨hT, by rw [hS 1 3 (by decide)]; exact h.2.1, WL_M hS h.2.2.1, Wd_M hS h.2.2.2.1, WI_of (hS 0 59 (by decide)) (fun j => hS 34 j (by simp [aM])) h.2.2.2.2⟩
theorem im_F {B N : Mx} (h : IM B) (hT : TM N) (hS : SF B N) : IM N := ⟨hT, by rw [hS 1 3 (by decide)]; exact h.2.1, WL_F hS h.2.2.1, fun k h0 h1 => (hS 21 k (by simp [aF])).trans (h.2.2.2.1 k h0 h1), WI_of (hS 0 59 (by decide)) (fun j => hS 34 j (by simp [aF])) h.2.2.2.2⟩
theorem im_N {B N : Mx} (h : IM B) (hT : TM N) (hS : SN B N) (h3 : N.1 1 3 ≤ 23) : IM N := ⟨hT, h3, WL_N hS h.2.2.1, fun k h0 h1 => (hS 21 k (by simp [aN])).trans (h.2.2.2.1 k h0 h1), WI_of (hS 0 59 (by decide)) (fun j => hS 34 j (by simp [aN])) h.2.2.2.2⟩
theorem im_T {B N : Mx} (h : IM B) (hT : TM N) (hS : ST B N) : IM N := ⟨hT, by rw [hS 1 3 (by decide)]; exact h.2.1, WL_of (hS 0 36 (by decide)) (fun j => hS 22 j (by simp [aT])) (fun j => hS 23 j (by simp [aT])) (fun j => hS 24 j (by simp [aT])) (fun j => hS 25 j (by simp [aT])) (fun j => hS 26 j (by simp [aT])) h.2.2.1, fun k h0 h1 => (hS 21 k (by simp [aT])).trans (h.2.2.2.1 k h0 h1), WI_of (hS 0 59 (by decide)) (fun j => hS 34 j (by simp [aT])) h.2.2.2.2⟩
theorem im_Y {B N : Mx} (h : IM B) (hT : TM N) (hS : SY B N) (w : WL N) : IM N := ⟨hT, by rw [hS 1 3 (by decide)]; exact h.2.1, w, Wd_Y hS h.2.2.2.1, WI_of (hS 0 59 (by decide)) (fun j => hS 34 j (by simp [aY])) h.2.2.2.2⟩
theorem im_Q {B N : Mx} (h : IM B) (hT : TM N) (hS : SQ B N) (w : N.1 1 3 ≤ 23 ∧ WL N ∧ WI N) : IM N := ⟨hT, w.1, w.2.1, fun k h0 h1 => (hS 21 k (by simp [aQ])).trans (h.2.2.2.1 k h0 h1), w.2.2⟩
theorem im_Z {B N : Mx} {r : Int32} {P : Prop} (h : IM B) (hT : TM N) (hS : SZ B N) (hr : (r = 1 ∧ P) ∨ (r = 0 ∧ ¬ P)) (w : (r = 1 → N.1 0 36 = 0 ∧ N.1 1 3 ≤ 23) ∧ (r = 0 → N.1 0 36 = B.1 0 36 ∧ N.1 1 3 = B.1 1 3)) : IM N := by
  have wd : Wd N := fun k h0 h1 => (hS 21 k (by simp [aZ])).trans (h.2.2.2.1 k h0 h1)
  have wi : WI N := WI_of (hS 0 59 (by decide)) (fun j => hS 34 j (by simp [aZ])) h.2.2.2.2
  rcases hr with ⟨e, -⟩ | ⟨e, -⟩
  · obtain ⟨w1, w2⟩ := w.1 e
    exact ⟨hT, w2, fun l l0 l1 => by rw [w1] at l1; exact absurd (Int32.lt_of_le_of_lt l0 l1) (by decide), wd, wi⟩
  · obtain ⟨w1, w2⟩ := w.2 e
    exact ⟨hT, by rw [w2]; exact h.2.1, WL_of w1 (fun j => hS 22 j (by simp [aZ])) (fun j => hS 23 j (by simp [aZ])) (fun j => hS 24 j (by simp [aZ])) (fun j => hS 25 j (by simp [aZ])) (fun j => hS 26 j (by simp [aZ])) h.2.2.1, wd, wi⟩
def Iv (A B : Mx) : Prop := TX A ∧ IM B
theorem iv_X {A A' B : Mx} (h : Iv A B) (x : TX A') : Iv A' B := ⟨x, h.2⟩
theorem iv_M {A A' B N : Mx} (h : Iv A B) (x : TX A') (hT : TM N) (hS : SM B N) : Iv A' N := ⟨x, im_M h.2 hT hS⟩
theorem iv_F {A A' B N : Mx} (h : Iv A B) (x : TX A') (hT : TM N) (hS : SF B N) : Iv A' N := ⟨x, im_F h.2 hT hS⟩
theorem iv_N {A A' B N : Mx} (h : Iv A B) (x : TX A') (hT : TM N) (hS : SN B N) (w : N.1 1 3 ≤ 23) : Iv A' N := ⟨x, im_N h.2 hT hS w⟩
theorem iv_T {A A' B N : Mx} (h : Iv A B) (x : TX A') (hT : TM N) (hS : ST B N) : Iv A' N := ⟨x, im_T h.2 hT hS⟩
theorem iv_Y {A A' B N : Mx} (h : Iv A B) (x : TX A') (hT : TM N) (hS : SY B N) (w : WL N) : Iv A' N := ⟨x, im_Y h.2 hT hS w⟩
theorem iv_Q {A A' B N : Mx} (h : Iv A B) (x : TX A') (hT : TM N) (hS : SQ B N) (w : N.1 1 3 ≤ 23 ∧ WL N ∧ WI N) : Iv A' N := ⟨x, im_Q h.2 hT hS w⟩
