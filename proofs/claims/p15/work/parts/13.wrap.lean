def RI (P : Int32 → Mx → Prop) : Option Value → Mx → Prop := fun r M' => ∃ v : Int32, r = some (.int v) ∧ P v M'
def RV (P : Mx → Prop) : Option Value → Mx → Prop := fun r M' => r = none ∧ P M'
theorem nar_b {v : Int32} (h : v = 0 ∨ v = 1) : narrow .boolean (.int v) = .int v := by rcases h with rfl | rfl <;> rfl
theorem fit_b {v : Int32} (h : v = 0 ∨ v = 1) : fits .boolean (.int v) = true := by rcases h with rfl | rfl <;> rfl
theorem for_up {P : Int32 → Prop} (m : Int32) (h : ∀ i, 0 ≤ i → i ≤ m → (i < m → P (i + 1)) → P i) : ∀ i, 0 ≤ i → i ≤ m → P i := by
  have key : ∀ (n : Nat) (i : Int32), 0 ≤ i → i ≤ m → m.toInt - i.toInt ≤ n → P i := by
    intro n
    induction n with
    | zero =>
      intro i h0 h1 h2
      refine h i h0 h1 (fun hlt => ?_)
      rw [Int32.lt_iff_toInt_lt] at hlt
      omega
    | succ n ih =>
      intro i h0 h1 h2
      refine h i h0 h1 (fun hlt => ih (i + 1) (by grind) (by grind) ?_)
      have e : (i + 1).toInt = i.toInt + 1 := by
        obtain ⟨j, hj, rfl⟩ := nI_of (x := i) (by grind)
        have hj2 : j + 1 < 2 ^ 31 := by
          rcases Nat.lt_or_ge (j + 1) (2 ^ 31) with q | q
          · exact q
          · have : j = 2147483647 := by omega
            subst this
            rw [Int32.lt_iff_toInt_lt, nI_toInt (by omega)] at hlt
            have := Int32.toInt_lt m
            omega
        rw [nI_1, nI_toInt hj, nI_toInt hj2]
        omega
      omega
  intro i h0 h1
  exact key (m.toInt - i.toInt).toNat i h0 h1 (by omega)
section R5
variable {G : Cx} {cc : ByteArray} {nL : Nat} {own : String} {ret : Option FieldType} {d : Nat} {w : Gv} {cs sl : Nat} {M : Mx} {pc : Nat} {lv lv' : List (Nat × Value)} {st : List Value}
theorem aw_topr {x y : Int32} (h : x = y) (k : AW G nL w cs sl M pc lv (.int y :: st)) : AW G nL w cs sl M pc lv (.int x :: st) := h ▸ k
theorem aw_memr {M' : Mx} (h : M = M') (k : AW G nL w cs sl M' pc lv st) : AW G nL w cs sl M pc lv st := h ▸ k
theorem aw_cVi (K : Ok G cc nL own ret d) {idx k ci n mL dd : Nat} {fl : List (Option (Option Nat))} {C : String} {T : u_T} {N : Nat} {tyf : Nat → FieldType} {y : MethodName} {c : ByteArray} {r : Option FieldType} {As rest : List Value} {P : Int32 → Mx → Prop} (F : CF ci C T N tyf) (hl : LV own idx C y c mL r n) (hd : decode cc pc = .ok (.invokevirtual idx, 3)) (hs : w.2[k]? = some (.inl (ci, fl))) (hc : Ct (xk G, w) y c mL r dd 0 0 (.ref k :: As) M (Rs (xk G, w) (RI P))) (hst : st = As.reverse ++ .ref k :: rest) (hn : As.length = n) (hrest : (rest.map fun v => v.category).sum ≤ 8) (hdd : dd < d) (hmL : mL ≤ 40) (hcs : cs ≤ xmc G) (hsl : sl ≤ xms G)
    (kk : ∀ (v : Int32) (M' : Mx), P v M' → AW G nL w cs sl M' (pc + 3) lv (.int v :: rest)) : AW G nL w cs sl M pc lv st := aw_cV K F hl hd hs hst hn hrest hdd hmL hcs hsl hc (fun v M' h => by obtain ⟨x, rfl, h⟩ := h; exact kk x M' h)
theorem aw_cVv (K : Ok G cc nL own ret d) {idx k ci n mL dd : Nat} {fl : List (Option (Option Nat))} {C : String} {T : u_T} {N : Nat} {tyf : Nat → FieldType} {y : MethodName} {c : ByteArray} {r : Option FieldType} {As rest : List Value} {P : Mx → Prop} (F : CF ci C T N tyf) (hl : LV own idx C y c mL r n) (hd : decode cc pc = .ok (.invokevirtual idx, 3)) (hs : w.2[k]? = some (.inl (ci, fl))) (hc : Ct (xk G, w) y c mL r dd 0 0 (.ref k :: As) M (Rs (xk G, w) (RV P))) (hst : st = As.reverse ++ .ref k :: rest) (hn : As.length = n) (hrest : (rest.map fun v => v.category).sum ≤ 8) (hdd : dd < d) (hmL : mL ≤ 40) (hcs : cs ≤ xmc G) (hsl : sl ≤ xms G)
    (kk : ∀ (M' : Mx), P M' → AW G nL w cs sl M' (pc + 3) lv rest) : AW G nL w cs sl M pc lv st := aw_cV K F hl hd hs hst hn hrest hdd hmL hcs hsl hc (fun v M' h => by obtain ⟨rfl, h⟩ := h; exact kk M' h)
theorem aw_cNi (K : Ok G cc nL own ret d) {idx n mL dd : Nat} {host : String} {y : MethodName} {c : ByteArray} {r : Option FieldType} {As rest : List Value} {P : Int32 → Mx → Prop} (hl : LN own idx y host c mL r n) (hd : decode cc pc = .ok (.invokestatic idx, 3)) (hc : Ct (xk G, w) y c mL r dd 0 0 As M (Rs (xk G, w) (RI P))) (hst : st = As.reverse ++ rest) (hn : As.length = n) (hrest : (rest.map fun v => v.category).sum ≤ 8) (hdd : dd < d) (hmL : mL ≤ 40) (hcs : cs ≤ xmc G) (hsl : sl ≤ xms G)
    (kk : ∀ (v : Int32) (M' : Mx), P v M' → AW G nL w cs sl M' (pc + 3) lv (.int v :: rest)) : AW G nL w cs sl M pc lv st := aw_cN K hl hd hst hn hrest hdd hmL hcs hsl hc (fun v M' h => by obtain ⟨x, rfl, h⟩ := h; exact kk x M' h)
theorem aw_cSi (K : Ok G cc nL own ret d) {idx n mL dd : Nat} {y : MethodName} {c : ByteArray} {r : Option FieldType} {As rest : List Value} {P : Int32 → Mx → Prop} (hl : LS9 own idx y c mL r n) (hd : decode cc pc = .ok (.invokestatic idx, 3)) (hc : Ct (xk G, w) y c mL r dd 0 0 As M (Rs (xk G, w) (RI P))) (hst : st = As.reverse ++ rest) (hn : As.length = n) (hrest : (rest.map fun v => v.category).sum ≤ 8) (hdd : dd < d) (hmL : mL ≤ 40) (hcs : cs ≤ xmc G) (hsl : sl ≤ xms G)
    (kk : ∀ (v : Int32) (M' : Mx), P v M' → AW G nL w cs sl M' (pc + 3) lv (.int v :: rest)) : AW G nL w cs sl M pc lv st := aw_cS K hl hd hst hn hrest hdd hmL hcs hsl hc (fun v M' h => by obtain ⟨x, rfl, h⟩ := h; exact kk x M' h)
theorem aw_cSv (K : Ok G cc nL own ret d) {idx n mL dd : Nat} {y : MethodName} {c : ByteArray} {r : Option FieldType} {As rest : List Value} {P : Mx → Prop} (hl : LS9 own idx y c mL r n) (hd : decode cc pc = .ok (.invokestatic idx, 3)) (hc : Ct (xk G, w) y c mL r dd 0 0 As M (Rs (xk G, w) (RV P))) (hst : st = As.reverse ++ rest) (hn : As.length = n) (hrest : (rest.map fun v => v.category).sum ≤ 8) (hdd : dd < d) (hmL : mL ≤ 40) (hcs : cs ≤ xmc G) (hsl : sl ≤ xms G)
    (kk : ∀ (M' : Mx), P M' → AW G nL w cs sl M' (pc + 3) lv rest) : AW G nL w cs sl M pc lv st := aw_cS K hl hd hst hn hrest hdd hmL hcs hsl hc (fun v M' h => by obtain ⟨rfl, h⟩ := h; exact kk M' h)
end R5
