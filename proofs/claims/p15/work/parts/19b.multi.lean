/-- int[4][9]: the outer array and its four rows -/
def adm (ad : Nat → Nat) (n q : Nat) (r : Nat → Nat) : Nat → Nat := fun a => if a = n then q else if n < a ∧ a ≤ n + 4 then r (a - n - 1) else ad a
theorem adm_lt {ad : Nat → Nat} {n q : Nat} {r : Nat → Nat} : ∀ a, a < n → adm ad n q r a = ad a := fun a h => by
  simp only [adm]
  rw [if_neg (by omega), if_neg (by omega)]
theorem aw_wr {G : Cx} {nL : Nat} {cs sl : Nat} {M : Mx} {pc : Nat} {lv : List (Nat × Value)} {st : List Value} {ad : Nat → Nat} {L L' : List Sh} (h : L = L') (kk : AW G nL (ad, L') cs sl M pc lv st) : AW G nL (ad, L) cs sl M pc lv st := h ▸ kk
section R10
variable {G : Cx} {cc : ByteArray} {nL : Nat} {own : String} {ret : Option FieldType} {d : Nat} {cs sl : Nat} {M : Mx} {pc : Nat} {lv lv' : List (Nat × Value)} {st : List Value} {ad : Nat → Nat} {S B : List Sh} {k b : Nat}
theorem aw_multi (K : Ok G cc nL own ret d) {idx : Nat} (hcl : Cond.classLink own idx "[[I" ∈ gws) (hd : decode cc pc = .ok (.multianewarray idx 2, 4)) (hS : S.length = k) (hb : B.length = b) (hw : WFl S) (hB : B.all (shq B.length) = true) (h1 : k + b + 5 < 1000) (hz : ∀ a, k + b ≤ a → ∀ j, M.1 a j = 0) (hlv : lv.all (fun q => okv (k + b) q.2) = true) (hst : st.all (okv (k + b)) = true) (hcs : cs + 5 ≤ xmc G) (hsl : sl + 40 ≤ xms G)
    (kk : ∀ ad' : Nat → Nat, (∀ a, a < k + b → ad' a = ad a) → AW G nL (ad', WB S k (B ++ [.inr (.inr (.inr (false, [some (b + 1), some (b + 2), some (b + 3), some (b + 4)]))), .inr (.inl 9), .inr (.inl 9), .inr (.inl 9), .inr (.inl 9)])) (cs + 5) (sl + 40) M (pc + 4) lv (.ref (k + b) :: st)) : AW G nL (ad, WB S k B) cs sl M pc lv (.int 9 :: .int 4 :: st) := by
  intro H locs ls hP hD hS0 hl
  obtain ⟨r1, r2, r3, r4⟩ := K.room
  have hn := WB_len (B := B) hS hb
  have hP' : va_P (gD (xk G, (ad, WB S k B))) vwCl (wm (xk G, (ad, WB S k B)) M ++ va_pl [] (fun _ => .inl (gi (xk G, (ad, WB S k B)), 0, .inl (fun _ => 0)))) H := by
    show va_P _ _ (_ ++ []) H
    rw [List.append_nil]
    exact hP
  have hD' : va_D (xA G) (wm (xk G, (ad, WB S k B)) M ++ va_pl [] (fun _ => .inl (gi (xk G, (ad, WB S k B)), 0, .inl (fun _ => 0)))) := by
    show va_D _ (_ ++ [])
    rw [List.append_nil]
    exact hD
  refine va_mna (ty := .int) (cy := gi (xk G, (ad, WB S k B))) (N' := 4) (K' := 9) (z := (9, .inl (fun _ => 0))) K.hx K.hb K.hown (K.hts _ hcl) K.wk.2.1.2.2 (K.hts _ ac_I) ((K.hK (ad, WB S k B)).2 0 (gi (xk G, (ad, WB S k B)), .int) rfl).2 (K.hK (ad, WB S k B)) hP' hD' hS0 K.hA (by decide) (by decide) rfl rfl (by decide) (by decide) (by decide) rfl rfl (by omega) (by omega) (fun c => ?_) hd (fun q r cA H1 hinj hnot hK1 hP1 hD1 hS1 => ?_)
  · rw [vp_cell_i]
    show ({ cls := c, slots := Array.replicate 9 _, vm := .none } : Cell) = _
    rw [arrV_new]
    rfl
  have ec : cA = gx (xk G, (ad, WB S k B)) := by
    have a1 := (hK1.2 4 (cA, .array .int) rfl).2
    have a2 := ((K.hK (ad, WB S k B)).2 2 (gx (xk G, (ad, WB S k B)), .array .int) rfl).2
    exact Option.some.inj (a1.symm.trans a2)
  subst ec
  have had : ∀ a, a < k + b → adm ad (k + b) q r a = ad a := adm_lt
  have hwm := wm_exts (gk := xk G) (ad := ad) (M := M) (E := [.inr (.inr (.inr (false, [some (k + (b + 1)), some (k + (b + 2)), some (k + (b + 3)), some (k + (b + 4))]))), .inr (.inl 9), .inr (.inl 9), .inr (.inl 9), .inr (.inl 9)]) hn had (wf_WB hS hw hB)
  have eL : WB S k B ++ [.inr (.inr (.inr (false, [some (k + (b + 1)), some (k + (b + 2)), some (k + (b + 3)), some (k + (b + 4))]))), .inr (.inl 9), .inr (.inl 9), .inr (.inl 9), .inr (.inl 9)] = WB S k (B ++ [.inr (.inr (.inr (false, [some (b + 1), some (b + 2), some (b + 3), some (b + 4)]))), .inr (.inl 9), .inr (.inl 9), .inr (.inl 9), .inr (.inl 9)]) := by
    simp [WB, shf]
  rw [eL] at hwm
  generalize hL' : WB S k (B ++ [.inr (.inr (.inr (false, [some (b + 1), some (b + 2), some (b + 3), some (b + 4)]))), .inr (.inl 9), .inr (.inl 9), .inr (.inl 9), .inr (.inl 9)]) = L' at hwm kk
  have g0 : ga (xk G, (adm ad (k + b) q r, L')) (k + b) = q := by simp [ga, adm, show k + b < 1000 by omega]
  have gi1 : ∀ i, i < 4 → ga (xk G, (adm ad (k + b) q r, L')) (k + b + (i + 1)) = r i := by
    intro i hi
    simp only [ga, adm]
    rw [if_pos (by omega), if_neg (by omega), if_pos (by omega)]
    congr 1
    omega
  have hfin : wm (xk G, (adm ad (k + b) q r, L')) M = (wm (xk G, (ad, WB S k B)) M ++ [(q, .inl (gx (xk G, (ad, WB S k B)), 4, .inr (.inr (.inr (.inr (fun i => if i < 4 then some (r i) else none))))))]) ++ va_pl ([] ++ (List.range 4).map r) (vr_up (fun _ => .inl (gi (xk G, (ad, WB S k B)), 0, .inl (fun _ => 0))) ((List.range 4).map r) (.inl (gi (xk G, (ad, WB S k B)), (9, .inl (fun _ => 0))))) := by
    rw [hwm, List.append_assoc]
    congr 1
    have zr : ∀ a, k + b ≤ a → cel (xk G, (adm ad (k + b) q r, L')) M a (.inr (.inl 9)) = .inl (gi (xk G, (ad, WB S k B)), 9, .inl (fun _ => 0)) := by
      intro a ha
      simp only [cel]
      congr 4
      funext j
      exact hz a ha _
    have z0 : cel (xk G, (adm ad (k + b) q r, L')) M (k + b) (.inr (.inr (.inr (false, [some (k + (b + 1)), some (k + (b + 2)), some (k + (b + 3)), some (k + (b + 4))])))) = .inl (gx (xk G, (ad, WB S k B)), 4, .inr (.inr (.inr (.inr (fun i => if i < 4 then some (r i) else none))))) := by
      simp only [cel]
      show Sum.inl (_, 4, _) = _
      congr 7
      funext j
      have e1 := gi1 0 (by omega)
      have e2 := gi1 1 (by omega)
      have e3 := gi1 2 (by omega)
      have e4 := gi1 3 (by omega)
      match j with
      | 0 => simpa [Nat.add_assoc] using e1
      | 1 => simpa [Nat.add_assoc] using e2
      | 2 => simpa [Nat.add_assoc] using e3
      | 3 => simpa [Nat.add_assoc] using e4
      | j + 4 => simp
    simp only [List.mapIdx_cons, List.mapIdx_nil, Nat.add_zero, z0, g0]
    rw [zr _ (by omega), zr _ (by omega), zr _ (by omega), zr _ (by omega)]
    have e1 := gi1 0 (by omega)
    have e2 := gi1 1 (by omega)
    have e3 := gi1 2 (by omega)
    have e4 := gi1 3 (by omega)
    simp only [Nat.zero_add] at e1
    have er : (List.range 4).map r = [r 0, r 1, r 2, r 3] := rfl
    rw [er]
    simp only [va_pl, List.nil_append, List.map_cons, List.map_nil, List.cons_append]
    rw [vr_up_in (by simp), vr_up_in (by simp), vr_up_in (by simp), vr_up_in (by simp)]
    simp only [Nat.zero_add, e1, e2, e3, e4]
  have hq := kk (adm ad (k + b) q r) had H1 locs ls (by rw [hfin]; exact hP1) (by rw [hfin]; exact hD1) hS1 (by rw [lvm_of had hlv]; exact hl)
  have est : List.map (cvv (ga (xk G, (adm ad (k + b) q r, L')))) (.ref (k + b) :: st) = .ref q :: st.map (cvv (ga (xk G, (ad, WB S k B)))) := by
    rw [List.map_cons, stm_of (S := WB S k B) had hst]
    congr 1
    simp only [cvv]
    rw [g0]
  rw [est] at hq
  exact hq
end R10
/-! equal shapes, by a program for the kernel -/
def oeq : Option Nat → Option Nat → Bool
  | none, none => true
  | some a, some b => Nat.beq a b
  | _, _ => false
def ooeq : Option (Option Nat) → Option (Option Nat) → Bool
  | none, none => true
  | some a, some b => oeq a b
  | _, _ => false
def leq {α : Type} (f : α → α → Bool) : List α → List α → Bool
  | [], [] => true
  | a :: l, b :: m => f a b && leq f l m
  | _, _ => false
def sheq : Sh → Sh → Bool
  | .inl (a, l), .inl (b, m) => Nat.beq a b && leq ooeq l m
  | .inr (.inl a), .inr (.inl b) => Nat.beq a b
  | .inr (.inr (.inl a)), .inr (.inr (.inl b)) => Nat.beq a b
  | .inr (.inr (.inr (a, l))), .inr (.inr (.inr (b, m))) => (a == b) && leq oeq l m
  | _, _ => false
theorem oeq_ok : ∀ a b, oeq a b = true → a = b
  | none, none, _ => rfl
  | some a, some b, h => by rw [Nat.eq_of_beq_eq_true h]
theorem ooeq_ok : ∀ a b, ooeq a b = true → a = b
  | none, none, _ => rfl
  | some a, some b, h => by rw [oeq_ok a b h]
theorem leq_ok {α : Type} {f : α → α → Bool} (hf : ∀ a b, f a b = true → a = b) : ∀ l m, leq f l m = true → l = m
  | [], [], _ => rfl
  | a :: l, b :: m, h => by
    simp only [leq, Bool.and_eq_true] at h
    rw [hf a b h.1, leq_ok hf l m h.2]
theorem sheq_ok : ∀ a b, sheq a b = true → a = b
  | .inl (a, l), .inl (b, m), h => by
    simp only [sheq, Bool.and_eq_true] at h
    rw [Nat.eq_of_beq_eq_true h.1, leq_ok ooeq_ok l m h.2]
  | .inr (.inl a), .inr (.inl b), h => by rw [Nat.eq_of_beq_eq_true h]
  | .inr (.inr (.inl a)), .inr (.inr (.inl b)), h => by rw [Nat.eq_of_beq_eq_true h]
  | .inr (.inr (.inr (a, l))), .inr (.inr (.inr (b, m))), h => by
    simp only [sheq, Bool.and_eq_true, beq_iff_eq] at h
    rw [h.1, leq_ok oeq_ok l m h.2]
theorem seq_ok {l m : List Sh} (h : leq sheq l m = true) : l = m := leq_ok sheq_ok l m h
def oseq : Option Sh → Option Sh → Bool
  | none, none => true
  | some a, some b => sheq a b
  | _, _ => false
theorem ose_ok : ∀ {a b : Option Sh}, oseq a b = true → a = b
  | none, none, _ => rfl
  | some a, some b, h => by rw [sheq_ok a b h]
