theorem agX {A B : Mx} : Agr (jn 182 A B) 0 shX.length A := by rw [lenX]; exact jn_1
theorem agM {A B : Mx} : Agr (jn 182 A B) 182 shM.length B := jn_2
theorem lenL : shLaw.length = 217 := by rw [shLaw, WB_len lenX lenM]
section R11
variable {G : Cx} {cc : ByteArray} {nL : Nat} {own : String} {ret : Option FieldType} {d : Nat} {ad : Nat → Nat} {cs sl : Nat} {A B : Mx} {pc : Nat} {lv : List (Nat × Value)} {st : List Value}
theorem aw_cX (K : Ok G cc nL own ret d) {idx n mL dd : Nat} {y : MethodName} {c : ByteArray} {r : Option FieldType} {As rest : List Value} {P : Int32 → Mx → Prop} (hl : LV own idx RX11 y c mL r n) (hd : decode cc pc = .ok (.invokevirtual idx, 3)) (hc : Ct (xk G, sw (ad, shLaw) 0 shX) y c mL r dd 0 0 (.ref 0 :: As) A (Rs (xk G, sw (ad, shLaw) 0 shX) (RI P))) (hst : st = As.reverse ++ .ref 0 :: rest) (hAs : As.map (cvv (ga (xk G, (ad, shLaw)))) = As.map (cvv (ga (xk G, sw (ad, shLaw) 0 shX)))) (hn : As.length = n) (hrest : (rest.map fun v => v.category).sum ≤ 8) (hdd : dd < d) (hmL : mL ≤ 40) (hcs : cs ≤ xmc G) (hsl : sl ≤ xms G)
    (kk : ∀ (v : Int32) (N : Mx), P v N → AW G nL (ad, shLaw) cs sl (jn 182 N B) (pc + 3) lv (.int v :: rest)) : AW G nL (ad, shLaw) cs sl (jn 182 A B) pc lv st :=
  aw_cVs (Fm := fun N => jn 182 N B) K subX agX (fun _ => agX) (fun N a _ h => jn_o1 (by rw [lenX] at h; omega)) cf11 hl hd s0 hc hst hAs hn hrest hdd hmL hcs hsl kk
theorem aw_cM (K : Ok G cc nL own ret d) {idx n mL dd : Nat} {y : MethodName} {c : ByteArray} {r : Option FieldType} {As rest : List Value} {P : Int32 → Mx → Prop} (hl : LV own idx RX12 y c mL r n) (hd : decode cc pc = .ok (.invokevirtual idx, 3)) (hc : Ct (xk G, sw (ad, shLaw) 182 shM) y c mL r dd 0 0 (.ref 0 :: As) B (Rs (xk G, sw (ad, shLaw) 182 shM) (RI P))) (hst : st = As.reverse ++ .ref 182 :: rest) (hAs : As.map (cvv (ga (xk G, (ad, shLaw)))) = As.map (cvv (ga (xk G, sw (ad, shLaw) 182 shM)))) (hn : As.length = n) (hrest : (rest.map fun v => v.category).sum ≤ 8) (hdd : dd < d) (hmL : mL ≤ 40) (hcs : cs ≤ xmc G) (hsl : sl ≤ xms G)
    (kk : ∀ (v : Int32) (N : Mx), P v N → AW G nL (ad, shLaw) cs sl (jn 182 A N) (pc + 3) lv (.int v :: rest)) : AW G nL (ad, shLaw) cs sl (jn 182 A B) pc lv st :=
  aw_cVs (Fm := fun N => jn 182 A N) K subM agM (fun _ => agM) (fun N a ha h => jn_o2 (by
    have ha : a < shLaw.length := ha
    rw [lenL] at ha
    rw [lenM] at h
    omega)) cf12 hl hd m0 hc hst hAs hn hrest hdd hmL hcs hsl kk
theorem aw_sldk (K : Ok G cc nL own ret d) {w : Gv} {M : Mx} {L j : Nat} {f : Nat → Int32} {i x : Int32} (hX : Scr G L f) (h6 : L = 6) (hd : decode cc pc = .ok (.iaload, 1)) (hj : j < 6) (hi : Int32.ofNat j = i) (e : f j = x) (k : AW G nL w cs sl M (pc + 1) lv (.int x :: st)) : AW G nL w cs sl M pc lv (.int i :: .ref 1001 :: st) := by
  subst h6
  have hc : i.toNatClampNeg = j := by rw [← hi]; exact nI_clamp (by omega)
  have h0 : 0 ≤ i := by rw [← hi]; exact nI_pos' (by omega)
  refine aw_sld K hX (by decide) rfl hd h0 ?_ (by rw [hc, e]; exact k)
  rw [← hi, Int32.lt_iff_toInt_lt, show (Int32.ofNat j).toInt = (j : Int) from nI_toInt (by omega), show (Int32.ofNat 6).toInt = (6 : Int) from rfl]
  omega
end R11
theorem par2 {n : Int32} (h0 : 8 ≤ n) (h1 : n ≤ 40) : n - n / 2 * 2 = 0 ∨ n - n / 2 * 2 = 1 := by
  obtain ⟨j, hj, rfl⟩ := nI_of (x := n) (by grind)
  have h : j ≤ 40 := by
    rw [Int32.le_iff_toInt_le, nI_toInt hj] at h1
    have : (40 : Int32).toInt = 40 := rfl
    omega
  have key : ∀ q : Fin 41, Int32.ofNat q.val - Int32.ofNat q.val / 2 * 2 = 0 ∨ Int32.ofNat q.val - Int32.ofNat q.val / 2 * 2 = 1 := by decide +kernel
  exact key ⟨j, by omega⟩
