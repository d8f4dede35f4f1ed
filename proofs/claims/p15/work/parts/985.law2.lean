def R_law : String := "RopeToALakeLaw"
def lw_P (b : Addr) (xs : List Int32) (args : Array Value) (s : State) : Prop := args = #[.ref b] ∧ s.IntsAt b xs ∧ xs.length ≤ 3072 ∧ (Jvm.Cond.and given_1 narrow_1).before args s = true
def lw_Q (_ : Array Value) (s : State) (o : Outcome) (t : State) : Prop := o = .returned (some (.int 1)) ∧ Framed s o t [] 600000 7302250
def lw_Z (below : List Frame) (a : Array Value) (s : State) : State → Prop := fun t => ∃ o, t.status = .running ∧ Ended t below o ∧ lw_Q a s o t
/-- the law's own end, with 1 on the stack, nothing written that was there before, its room as the claim has it -/
theorem lw_ret {p : Program} {l : Launch} {e : Env} {s : State} {m : MethodId} {below : List Frame} {meth : Method} {c : Code} {b : Nat} (hx : p.tables.exec = Jvm.exec) (hb : c.code = code) (hr : meth.sig.returnType = ret) (hlocks : meth.locks = false) {pc : Nat} {H : Heap} {ls : Array Slot} (hdg : decode code pc = .ok (.ireturn, 1)) : W p l e room_1 s m #[Value.ref b] below meth c H [] 600000 7302250 (lw_Z below #[Value.ref b] s) (F0 m pc ls [.int 1]) := by
  intro T hT X
  obtain ⟨fs, hret, hrun, hended, hW, hframe⟩ := X.leave (v := some (.int 1)) (hlocks := hlocks) (fun h => by rw [hr] at h; cases h)
  have hmeth' : T.vm.method? m = some meth := X.method'
  refine ⟨T.setFrames fs, ?_, .returned (some (.int 1)), hrun, hended, rfl, ⟨_, rfl⟩, hW, hframe⟩
  jvm_step X.here [X.here.top, hx, hb, hdg, hmeth', hr, ret, narrow_b1]
  (try refine ⟨rfl, ?_⟩); (try refine ⟨rfl, ?_⟩)
  first | (intro acts; rw [hret _ acts rfl rfl rfl]) | rw [hret _ _ rfl rfl rfl]
  exact Steps.refl _
/-- what holds at the law's entry: the machine, the code, the tables' words (any of lw_tbl by 'hts w (by decide +kernel)'), the script of L ints xs at the cell b, what the Statement gives of the start (any of its parts by flat_of_before) -/
def lw_At (p : Program) (s : State) (m : MethodId) (meth : Method) (c : Code) (b L : Nat) (xs : Nat → Int32) : Prop :=
  p.tables.exec = Jvm.exec ∧ c.code = code ∧ meth.sig.returnType = ret ∧ c.maxLocals = 4 ∧ s.vm.findClass R_law = some m.cls ∧ (∀ w ∈ lw_tbl, w.before #[Value.ref b] s = true) ∧ va_X b L xs s s.heap ∧ b < s.heap.size ∧ meth.locks = false ∧ (Jvm.Cond.and given_1 narrow_1).before #[Value.ref b] s = true
/-- the law's script -/
def Scr (G : Cx) (L : Nat) (f : Nat → Int32) : Prop := va_X (xk G).2.2.2.2.2.1 L f (xs G) (xs G).heap ∧ (xk G).2.2.2.2.2.1 < (xs G).heap.size ∧ ¬ xA G (xk G).2.2.2.2.2.1
/-- the cells of two memories, the second's from n on -/
def jn (n : Nat) (A B : Mx) : Mx := (fun a => if a < n then A.1 a else B.1 (a - n), fun a => if a < n then A.2 a else B.2 (a - n))
def shM2 (M : Mx) (o : Nat) : Mx := (fun a => M.1 (o + a), fun a => M.2 (o + a))
theorem jn_eq (n : Nat) (M : Mx) : jn n M (shM2 M n) = M := by
  refine Prod.ext (funext fun a => ?_) (funext fun a => ?_)
  · simp only [jn, shM2]
    by_cases h : a < n
    · rw [if_pos h]
    · rw [if_neg h, show n + (a - n) = a by omega]
  · simp only [jn, shM2]
    by_cases h : a < n
    · rw [if_pos h]
    · rw [if_neg h, show n + (a - n) = a by omega]
theorem jn_1 {n : Nat} {A B : Mx} : Agr (jn n A B) 0 n A := fun k hk => by
  simp only [jn, Nat.zero_add]
  rw [if_pos hk, if_pos hk]
  exact ⟨rfl, rfl⟩
theorem jn_2 {n m : Nat} {A B : Mx} : Agr (jn n A B) n m B := fun k hk => by
  simp only [jn]
  rw [if_neg (by omega), if_neg (by omega), Nat.add_sub_cancel_left]
  exact ⟨rfl, rfl⟩
theorem jn_o1 {n a : Nat} {A A' B : Mx} (h : n ≤ a) : (jn n A' B).1 a = (jn n A B).1 a ∧ (jn n A' B).2 a = (jn n A B).2 a := by
  simp only [jn]
  rw [if_neg (by omega), if_neg (by omega), if_neg (by omega), if_neg (by omega)]
  exact ⟨rfl, rfl⟩
theorem jn_o2 {n a : Nat} {A B B' : Mx} (h : a < n) : (jn n A B').1 a = (jn n A B).1 a ∧ (jn n A B').2 a = (jn n A B).2 a := by
  simp only [jn]
  rw [if_pos h, if_pos h, if_pos h, if_pos h]
  exact ⟨rfl, rfl⟩
def shLaw : List Sh := WB shX 182 shM
theorem lenX : shX.length = 182 := by decide +kernel
theorem lenM : shM.length = 35 := by decide +kernel
theorem shf_0 : ∀ s : Sh, shf 0 s = s
  | .inl (ci, fl) => by
    simp only [shf]
    congr 2
    rw [show (fun o : Option (Option Nat) => o.map (fun r => r.map (0 + ·))) = id from funext fun o => by rcases o with _ | _ | q <;> simp]
    exact List.map_id _
  | .inr (.inl _) => rfl
  | .inr (.inr (.inl _)) => rfl
  | .inr (.inr (.inr (b, r))) => by
    simp only [shf]
    congr 4
    rw [show (fun o : Option Nat => o.map (0 + ·)) = id from funext fun o => by rcases o with _ | q <;> simp]
    exact List.map_id _
theorem wfX : WFl shX := fun s hs => List.all_eq_true.mp (by decide +kernel : shX.all (shq shX.length) = true) s hs
theorem wfM : WFl shM := fun s hs => List.all_eq_true.mp (by decide +kernel : shM.all (shq shM.length) = true) s hs
theorem subX {ad : Nat → Nat} : Sub (ad, shLaw) 0 shX := ⟨fun k s hs => by
  rw [Nat.zero_add, shf_0]
  exact (lkS lenX (by rw [← lenX]; exact (List.getElem?_eq_some_iff.mp hs).1)).trans hs, wfX, by rw [lenX]; decide⟩
theorem subM {ad : Nat → Nat} : Sub (ad, shLaw) 182 shM := ⟨fun k s hs => lkB lenX hs, wfM, by rw [lenM]; decide⟩
section R10
variable {G : Cx} {cc : ByteArray} {nL : Nat} {own : String} {ret : Option FieldType} {d : Nat} {w : Gv} {cs sl : Nat} {M : Mx} {pc : Nat} {lv lv' : List (Nat × Value)} {st : List Value}
theorem aw_sld (K : Ok G cc nL own ret d) {L : Nat} {f : Nat → Int32} {n i : Int32} (hX : Scr G L f) (hL : L < 2 ^ 31) (hn : Int32.ofNat L = n) (hd : decode cc pc = .ok (.iaload, 1)) (h0 : 0 ≤ i) (h1 : i < n) (k : AW G nL w cs sl M (pc + 1) lv (.int (f i.toNatClampNeg) :: st)) : AW G nL w cs sl M pc lv (.int i :: .ref 1001 :: st) :=
  fun H locs ls hP hD hS hl => va_sld K.hx K.hb hX.1 hX.2.1 hX.2.2 hS (in_of h0 (by rw [hn]; exact h1) hL) hd (k H locs ls hP hD hS hl)
theorem aw_slen (K : Ok G cc nL own ret d) {L : Nat} {f : Nat → Int32} {n : Int32} (hX : Scr G L f) (hn : Int32.ofNat L = n) (hd : decode cc pc = .ok (.arraylength, 1)) (k : AW G nL w cs sl M (pc + 1) lv (.int n :: st)) : AW G nL w cs sl M pc lv (.ref 1001 :: st) :=
  fun H locs ls hP hD hS hl => va_slen K.hx K.hb hX.1 hX.2.1 hX.2.2 hS hd (by rw [hn]; exact k H locs ls hP hD hS hl)
end R10
/-- the law's own end -/
theorem aw_lret {G : Cx} {own : String} {d : Nat} {w : Gv} {cs sl : Nat} {M : Mx} {pc : Nat} {lv : List (Nat × Value)} {b : Nat} (K : Ok G code 4 own ret d) (hR : xR G = room_1) (ha : xa G = #[Value.ref b]) (hZ : xZ G = lw_Z (xb G) #[Value.ref b] (xs G)) (hA : ∀ q, xA G q → (xs G).heap.size ≤ q) (hd : decode code pc = .ok (.ireturn, 1)) (h1 : cs ≤ 600000) (h2 : sl ≤ 7302250) : AW G 4 w cs sl M pc lv [.int 1] := by
  intro H locs ls hP hD hS hl
  rw [hR, ha, hZ]
  exact va_forget (fun q hq => hA _ (hS.2.2 q hq)) (W.widen h1 h2 (lw_ret K.hx K.hb K.hr K.hlk hd))
