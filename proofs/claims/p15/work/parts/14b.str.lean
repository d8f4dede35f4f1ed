/-! STRING CONSTANTS in the world: 1002, 1003 the strings, 1004, 1005 their bytes -/
theorem gaS {g : Gw} {i : Nat} (hi : i < 2) : ga g (1002 + i) = gsK g i := by
  rcases (show i = 0 ∨ i = 1 by omega) with rfl | rfl <;> rfl
theorem gaV {g : Gw} {i : Nat} (hi : i < 2) : ga g (1004 + i) = gsV g i := by
  rcases (show i = 0 ∨ i = 1 by omega) with rfl | rfl <;> rfl
theorem cvf {g : Gw} : cvv (ga g) (gfv g) = gfw g := by
  obtain ⟨⟨k1, k2, k3, k4, k5, k6, k7, k8, k9⟩, gv⟩ := g
  cases k9 with
  | none => rfl
  | some a => rfl
section RS
variable {G : Cx} {cc : ByteArray} {nL : Nat} {own : String} {ret : Option FieldType} {d : Nat} {w : Gv} {cs sl : Nat} {M : Mx} {pc : Nat} {lv lv' : List (Nat × Value)} {st : List Value}
theorem Ok.str (K : Ok G cc nL own ret d) : Wst (xk G, (fun k => k, [])) (xA G) (xs G) (xs G).heap := K.wk.2.2.2.2
theorem aw_ldW (K : Ok G cc nL RX8 ret d) (hd : decode cc pc = .ok (.ldc 69, 2)) (k : AW G nL w cs sl M (pc + 2) lv (.ref 1002 :: st)) : AW G nL w cs sl M pc lv st := fun H locs ls hP hD hS hv9 => va_ldcS K.hx K.hb K.hown K.str.2.1.1 hd (k H locs ls hP hD hS hv9)
theorem aw_ldG (K : Ok G cc nL RX8 ret d) (hd : decode cc pc = .ok (.ldc 62, 2)) (k : AW G nL w cs sl M (pc + 2) lv (.ref 1003 :: st)) : AW G nL w cs sl M pc lv st := fun H locs ls hP hD hS hv9 => va_ldcS K.hx K.hb K.hown K.str.2.1.2 hd (k H locs ls hP hD hS hv9)
theorem aw_cmp9 (K : Ok G cc nL RJ0 ret d) {idx : Nat} (hl : Cond.fieldLink RJ0 idx RJ0 "COMPACT_STRINGS" "Z" ∈ gws) (hd : decode cc pc = .ok (.getstatic idx, 3)) (k : AW G nL w cs sl M (pc + 3) lv (.int 1 :: st)) : AW G nL w cs sl M pc lv st := fun H locs ls hP hD hS hv9 => va_gets K.hx K.hb K.str.2.2.1 hS K.hown (K.hts _ hl) (fun _ h => h) hd (k H locs ls hP hD hS hv9)
theorem aw_fmt9 (K : Ok G cc nL RJ0 ret d) {idx : Nat} (hl : Cond.fieldLink RJ0 idx RJ3 "SIOOBE_FORMATTER" "Ljava/util/function/BiFunction;" ∈ gws) (hd : decode cc pc = .ok (.getstatic idx, 3)) (k : AW G nL w cs sl M (pc + 3) lv (gfv (xk G, w) :: st)) : AW G nL w cs sl M pc lv st := fun H locs ls hP hD hS hv9 => va_gets K.hx K.hb K.str.2.2.2 hS K.hown (K.hts _ hl) (fun _ h => h) hd (by
  have q := k H locs ls hP hD hS hv9
  rw [List.map_cons, cvf] at q
  exact q)
theorem aw_sval (K : Ok G cc nL RJ0 ret d) {idx i : Nat} (hi : i < 2) (hl : Cond.fieldLink RJ0 idx RJ0 "value" "[B" ∈ gws) (hd : decode cc pc = .ok (.getfield idx, 3)) (k : AW G nL w cs sl M (pc + 3) lv (.ref (1004 + i) :: st)) : AW G nL w cs sl M pc lv (.ref (1002 + i) :: st) := fun H locs ls hP hD hS hv9 => by
  have q := k H locs ls hP hD hS hv9
  have e1 : List.map (cvv (ga (xk G, w))) (.ref (1004 + i) :: st) = .ref (gsV (xk G, w) i) :: st.map (cvv (ga (xk G, w))) := by rw [List.map_cons]; simp only [cvv]; rw [gaV hi]
  have e2 : List.map (cvv (ga (xk G, w))) (.ref (1002 + i) :: st) = .ref (gsK (xk G, w) i) :: st.map (cvv (ga (xk G, w))) := by rw [List.map_cons]; simp only [cvv]; rw [gaS hi]
  rw [e1] at q
  rw [e2]
  exact vk_getf K.hx K.hb (K.str.1.1 i hi).2.2.1 hS K.hown (K.hts _ hl) (fun _ h => h) hd q
theorem aw_scod (K : Ok G cc nL RJ0 ret d) {idx i : Nat} (hi : i < 2) (hl : Cond.fieldLink RJ0 idx RJ0 "coder" "B" ∈ gws) (hd : decode cc pc = .ok (.getfield idx, 3)) (k : AW G nL w cs sl M (pc + 3) lv (.int 0 :: st)) : AW G nL w cs sl M pc lv (.ref (1002 + i) :: st) := fun H locs ls hP hD hS hv9 => by
  have q := k H locs ls hP hD hS hv9
  have e2 : List.map (cvv (ga (xk G, w))) (.ref (1002 + i) :: st) = .ref (gsK (xk G, w) i) :: st.map (cvv (ga (xk G, w))) := by rw [List.map_cons]; simp only [cvv]; rw [gaS hi]
  rw [e2]
  exact vk_getf K.hx K.hb (K.str.1.1 i hi).2.1 hS K.hown (K.hts _ hl) (fun _ h => h) hd q
theorem aw_blen (K : Ok G cc nL own ret d) {i : Nat} {v : Int32} (hi : i < 2) (hv : Int32.ofNat (lenS.getD i 0) = v) (hd : decode cc pc = .ok (.arraylength, 1)) (k : AW G nL w cs sl M (pc + 1) lv (.int v :: st)) : AW G nL w cs sl M pc lv (.ref (1004 + i) :: st) := fun H locs ls hP hD hS hv9 => by
  have q := k H locs ls hP hD hS hv9
  have e2 : List.map (cvv (ga (xk G, w))) (.ref (1004 + i) :: st) = .ref (gsV (xk G, w) i) :: st.map (cvv (ga (xk G, w))) := by rw [List.map_cons]; simp only [cvv]; rw [gaV hi]
  rw [e2]
  exact va_tlen K.hx K.hb (K.str.1.1 i hi).2.2.2 hS hv hd q
theorem aw_bld (K : Ok G cc nL own ret d) {i : Nat} {k n : Int32} (hi : i < 2) (hv : Int32.ofNat (lenS.getD i 0) = n) (h0 : 0 ≤ k) (h1 : k < n) (hd : decode cc pc = .ok (.baload, 1)) (kk : AW G nL w cs sl M (pc + 1) lv (.int ((bytS.getD i []).getD k.toNatClampNeg 0) :: st)) : AW G nL w cs sl M pc lv (.int k :: .ref (1004 + i) :: st) := fun H locs ls hP hD hS hv9 => by
  have q := kk H locs ls hP hD hS hv9
  have e2 : List.map (cvv (ga (xk G, w))) (.int k :: .ref (1004 + i) :: st) = .int k :: .ref (gsV (xk G, w) i) :: st.map (cvv (ga (xk G, w))) := by rw [List.map_cons, List.map_cons]; simp only [cvv]; rw [gaV hi]
  rw [e2]
  exact va_tb K.hx K.hb (K.str.1.1 i hi).2.2.2 hS (in_of h0 (by rw [hv]; exact h1) (by rcases (show i = 0 ∨ i = 1 by omega) with rfl | rfl <;> decide)) rfl hd q
theorem aw_i2b (K : Ok G cc nL own ret d) {x : Int32} (hd : decode cc pc = .ok (.i2b, 1))  (k : AW G nL w cs sl M (pc + 1) lv (.int x.toInt8.toInt32 :: st)) : AW G nL w cs sl M pc lv (.int x :: st) := fun H locs ls hP hD hS hv9 => lv_i2b K.hx K.hb hd rfl (k H locs ls hP hD hS hv9)
/-- a call of a string's method -/
theorem aw_cVS (K : Ok G cc nL own ret d) {idx i n mL dd : Nat} {y : MethodName} {c : ByteArray} {r : Option FieldType} {As rest : List Value} {P : Option Value → Mx → Prop} (hi : i < 2) (hl : LV own idx RJ0 y c mL r n) (hd : decode cc pc = .ok (.invokevirtual idx, 3)) (hst : st = As.reverse ++ .ref (1002 + i) :: rest) (hn : As.length = n) (hrest : (rest.map fun v => v.category).sum ≤ 8) (hdd : dd < d) (hmL : mL ≤ 40) (hcs : cs ≤ xmc G) (hsl : sl ≤ xms G) (hc : Ct (xk G, w) y c mL r dd 0 0 (.ref (1002 + i) :: As) M (Rs (xk G, w) P))
    (kk : ∀ (v : Option Value) (M' : Mx), P v M' → AW G nL w cs sl M' (pc + 3) lv (v.toList ++ rest)) : AW G nL w cs sl M pc lv st := by
  intro H locs ls hP hD hS hlv
  obtain ⟨r1, r2, r3, r4⟩ := K.room
  obtain ⟨l1, l2, l3, l4, l5, l6, l7, l8, l9⟩ := hl
  have hG := good_cw (y := y) (y' := y) (c := c) (c' := c) (n' := 0) (r' := none) l5
  have hT : GoodIn gws (wsV own idx RJ0 y (.code y c mL r :: gws)) := by
    intro x hx
    rcases List.mem_append.mp hx with h | h
    · have hx' : x ∈ gws := by
        simp only [List.mem_cons, List.not_mem_nil, or_false] at h
        rcases h with rfl | rfl | rfl | rfl
        · exact l1
        · exact l2
        · exact l3
        · exact l4
      exact ⟨hx', good_of_word (List.mem_filter.mp hx').2⟩
    · exact hG x h
  subst hst
  have cw : CallW (xR G) (xs G) (xa G) own RJ0 idx y c mL r (.code y c mL r :: gws) { frames := dd, cells := 0, slots := 0, locals := 64 * dd } 0 0 n := cwV n K.hts hT rfl rfl rfl ⟨l6, l7, l8, l9⟩ ⟨by show dd + 1 ≤ _; omega, by show 8 + (mL + 11) + 64 * dd ≤ _; omega⟩
  have hrv : ∃ cell : Cell, H[ga (xk G, w) (1002 + i)]? = some cell ∧ cell.vm.isStatics = false ∧ (xs G).vm.findClass RJ0 = some cell.cls := by
    rw [gaS hi]
    exact vk_recv K.str.1 hi hS
  refine aw_behind K hD hS hlv (rest := rest) (va_runV (As := As.map (cvv (ga (xk G, w)))) (b := ga (xk G, w) (1002 + i)) ⟨K.hx, K.hb, K.hml, K.hown, K.hts⟩ (hc H.size) cw ⟨blind, hrv, fun U hU hW => ⟨rfl, pre_call K hP hD hS hU hW⟩⟩ rfl (by rw [List.length_map]; exact hn) hlv.1 ?_ ?_ hd ⟨by omega, by omega⟩) (fun g v M' hp => ?_)
  · show List.map _ _ = _
    rw [List.map_append, List.map_reverse]
    rfl
  · rw [cat_map]
    show 2 * 0 + _ ≤ 8
    omega
  · obtain ⟨rfl, hp⟩ := hp
    exact ⟨rfl, rfl, rfl, kk v M' hp⟩
theorem aw_cVSi (K : Ok G cc nL own ret d) {idx i n mL dd : Nat} {y : MethodName} {c : ByteArray} {r : Option FieldType} {As rest : List Value} {P : Int32 → Mx → Prop} (hi : i < 2) (hl : LV own idx RJ0 y c mL r n) (hd : decode cc pc = .ok (.invokevirtual idx, 3)) (hc : Ct (xk G, w) y c mL r dd 0 0 (.ref (1002 + i) :: As) M (Rs (xk G, w) (RI P))) (hst : st = As.reverse ++ .ref (1002 + i) :: rest) (hn : As.length = n) (hrest : (rest.map fun v => v.category).sum ≤ 8) (hdd : dd < d) (hmL : mL ≤ 40) (hcs : cs ≤ xmc G) (hsl : sl ≤ xms G)
    (kk : ∀ (v : Int32) (M' : Mx), P v M' → AW G nL w cs sl M' (pc + 3) lv (.int v :: rest)) : AW G nL w cs sl M pc lv st := aw_cVS K hi hl hd hst hn hrest hdd hmL hcs hsl hc (fun v M' h => by obtain ⟨x, rfl, h⟩ := h; exact kk x M' h)
end RS
