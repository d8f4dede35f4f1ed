/-- one of the first n is a -/
def Tk (V : Int32 → Int32) (n a : Int32) : Prop := ∃ b, 0 ≤ b ∧ b < n ∧ V b = a
theorem Tk_0 {V : Int32 → Int32} {a : Int32} : ¬ Tk V 0 a := fun ⟨_, h0, h1, _⟩ => absurd (Int32.lt_of_le_of_lt h0 h1) (by decide)
theorem lt_k1 {b k : Int32} (hk : k ≤ 1000) (h : b < k + 1) : b < k ∨ b = k := by grind
theorem Tk_s {V : Int32 → Int32} {k a : Int32} (h : ¬ Tk V k a) (hk : k ≤ 1000) (hv : ¬ V k = a) : ¬ Tk V (k + 1) a := fun ⟨b, h0, h1, h2⟩ => by
  rcases lt_k1 hk h1 with q | q
  · exact h ⟨b, h0, q, h2⟩
  · exact hv (q ▸ h2)
theorem Tk_i {V : Int32 → Int32} {k n a : Int32} (h0 : 0 ≤ k) (h1 : k < n) (hv : V k = a) : Tk V n a := ⟨k, h0, h1, hv⟩
theorem Tk_m {V : Int32 → Int32} {k n a : Int32} (h : ¬ Tk V k a) (hk : n ≤ k) : ¬ Tk V n a := fun ⟨b, h0, h1, h2⟩ => h ⟨b, h0, Int32.lt_of_lt_of_le h1 hk, h2⟩
/-- one of the first n absences binds f on day d -/
def Bd (Va Vd Vi : Int32 → Int32) (n f d : Int32) : Prop := ∃ b, 0 ≤ b ∧ b < n ∧ Vd b = d ∧ (Va b = f ∨ Vi b = f)
theorem Bd_0 {Va Vd Vi : Int32 → Int32} {f d : Int32} : ¬ Bd Va Vd Vi 0 f d := fun ⟨_, h0, h1, _⟩ => absurd (Int32.lt_of_le_of_lt h0 h1) (by decide)
theorem Bd_s {Va Vd Vi : Int32 → Int32} {k f d : Int32} (h : ¬ Bd Va Vd Vi k f d) (hk : k ≤ 1000) (hv : Vd k = d → ¬ Va k = f ∧ ¬ Vi k = f) : ¬ Bd Va Vd Vi (k + 1) f d := fun ⟨b, h0, h1, h2, h3⟩ => by
  rcases lt_k1 hk h1 with q | q
  · exact h ⟨b, h0, q, h2, h3⟩
  · rw [q] at h2 h3
    obtain ⟨g1, g2⟩ := hv h2
    exact h3.elim g1 g2
theorem Bd_i {Va Vd Vi : Int32 → Int32} {k n f d : Int32} (h0 : 0 ≤ k) (h1 : k < n) (h2 : Vd k = d) (h3 : Va k = f ∨ Vi k = f) : Bd Va Vd Vi n f d := ⟨k, h0, h1, h2, h3⟩
theorem Bd_m {Va Vd Vi : Int32 → Int32} {k n f d : Int32} (h : ¬ Bd Va Vd Vi k f d) (hk : n ≤ k) : ¬ Bd Va Vd Vi n f d := fun ⟨b, h0, h1, h2⟩ => h ⟨b, h0, Int32.lt_of_lt_of_le h1 hk, h2⟩
/-- one place of a row is told -/
def UT (c : Prop) (V V' : Int32 → Int32) (i v : Int32) : Prop := (c ∧ V' i = v ∧ ∀ j, ¬ j = i → V' j = V j) ∨ (¬ c ∧ ∀ j, V' j = V j)
theorem ut_0 {c : Prop} {V V' : Int32 → Int32} {i v : Int32} (h : ¬ c) (e : ∀ j, V' j = V j) : UT c V V' i v := Or.inr ⟨h, e⟩
theorem ut_1 {c : Prop} {V V' : Int32 → Int32} {i v : Int32} (h : c) (e : V' i = v) (f : ∀ j, ¬ j = i → V' j = V j) : UT c V V' i v := Or.inl ⟨h, e, f⟩
theorem ut_c {c d : Prop} {V V' W : Int32 → Int32} {i v : Int32} (h : UT c V V' i v) (e : c ↔ d) (f : ∀ j, W j = V' j) : UT d V W i v := by
  rcases h with ⟨h1, h2, h3⟩ | ⟨h1, h2⟩
  · exact Or.inl ⟨e.mp h1, (f i).trans h2, fun j z => (f j).trans (h3 j z)⟩
  · exact Or.inr ⟨fun z => h1 (e.mpr z), fun j => (f j).trans (h2 j)⟩
/-- is b a foe of a -/
abbrev fo (V : Int32 → Int32) (a b : Int32) : Prop := (V a >>> (b &&& 31)) &&& 1 = 1
/-- a foe told in a set: as the class has it, as the reference has it -/
def fs (e x c : Int32) : Int32 := if e = 0 then x &&& (((1 : Int32) <<< (c &&& 31)) ^^^ (-1 : Int32)) else (x &&& (((1 : Int32) <<< (c &&& 31)) ^^^ (-1 : Int32))) ||| ((1 : Int32) <<< (c &&& 31))
def fr (e x c : Int32) : Int32 := if e = 0 then x &&& (((1 : Int32) <<< (c &&& 31)) ^^^ (-1 : Int32)) else x ||| ((1 : Int32) <<< (c &&& 31))
theorem or_an (x m : Int32) : (x &&& (m ^^^ (-1 : Int32))) ||| m = x ||| m := by
  apply Int32.toBitVec.inj
  rw [Int32.toBitVec_or, Int32.toBitVec_and, Int32.toBitVec_xor, Int32.toBitVec_or]
  generalize x.toBitVec = a
  generalize m.toBitVec = b
  apply BitVec.eq_of_getLsbD_eq
  intro i hi
  have e : (-1 : Int32).toBitVec = BitVec.allOnes 32 := by decide
  rw [e]
  simp only [BitVec.getLsbD_or, BitVec.getLsbD_and, BitVec.getLsbD_xor, BitVec.getLsbD_allOnes]
  simp only [hi, decide_true]
  cases a.getLsbD i <;> cases b.getLsbD i <;> rfl
theorem fs_fr (e x c : Int32) : fs e x c = fr e x c := by
  unfold fs fr
  split
  · rfl
  · exact or_an _ _
theorem b_one {y : Int32} : y &&& 1 = 1 ↔ y.toBitVec.getLsbD 0 = true := by
  have e1 : (1 : Int32).toBitVec = 1#32 := by decide
  constructor
  · intro h
    have q := congrArg (fun z : Int32 => z.toBitVec.getLsbD 0) h
    simp only [Int32.toBitVec_and, BitVec.getLsbD_and, e1] at q
    revert q
    cases y.toBitVec.getLsbD 0 <;> decide
  · intro h
    apply Int32.toBitVec.inj
    rw [Int32.toBitVec_and, e1]
    apply BitVec.eq_of_getLsbD_eq
    intro i hi
    rw [BitVec.getLsbD_and]
    by_cases z : i = 0
    · subst z
      rw [h]
      decide
    · have : (1#32).getLsbD i = false := by
        simp [BitVec.getLsbD_one, z]
      rw [this, Bool.and_false]
theorem b_shr {x : Int32} {n : Nat} (h : n < 9) : (x >>> (nI n &&& 31)).toBitVec.getLsbD 0 = x.toBitVec.getLsbD n := by
  have key : ∀ k : Nat, k < 9 → (nI k &&& 31).toBitVec.smod 32 = BitVec.ofNat 32 k := by decide +kernel
  rw [Int32.toBitVec_shiftRight, key n h]
  have e : (BitVec.ofNat 32 n).toNat = n := by
    rw [BitVec.toNat_ofNat]
    exact Nat.mod_eq_of_lt (by omega)
  show (x.toBitVec.sshiftRight (BitVec.ofNat 32 n).toNat).getLsbD 0 = _
  rw [e, BitVec.getLsbD_sshiftRight]
  have : n + 0 < 32 := by omega
  rw [if_pos this]
  simp
theorem fo_bit {V : Int32 → Int32} {a : Int32} {n : Nat} (h : n < 9) : fo V a (nI n) ↔ (V a).toBitVec.getLsbD n = true := by
  unfold fo
  rw [b_one, b_shr h]
theorem bit_m {c n : Nat} (hc : c < 9) (hn : n < 9) : ((1 : Int32) <<< (nI c &&& 31)).toBitVec.getLsbD n = decide (n = c) ∧ (((1 : Int32) <<< (nI c &&& 31)) ^^^ (-1 : Int32)).toBitVec.getLsbD n = !decide (n = c) := by
  have key : ∀ c : Fin 9, ∀ n : Fin 9, ((1 : Int32) <<< (nI c.val &&& 31)).toBitVec.getLsbD n.val = decide (n.val = c.val) ∧ (((1 : Int32) <<< (nI c.val &&& 31)) ^^^ (-1 : Int32)).toBitVec.getLsbD n.val = !decide (n.val = c.val) := by decide +kernel
  exact key ⟨c, hc⟩ ⟨n, hn⟩
theorem fr_bit {e x : Int32} {c n : Nat} (hc : c < 9) (hn : n < 9) : (fr e x (nI c)).toBitVec.getLsbD n = if n = c then decide (¬ e = 0) else x.toBitVec.getLsbD n := by
  obtain ⟨m1, m2⟩ := bit_m hc hn
  unfold fr
  by_cases he : e = 0
  · rw [if_pos he, Int32.toBitVec_and, BitVec.getLsbD_and, m2]
    by_cases z : n = c <;> simp [z, he]
  · rw [if_neg he, Int32.toBitVec_or, BitVec.getLsbD_or, m1]
    by_cases z : n = c <;> simp [z, he]
/-- the weeds of the others -/
def Sw (V : Int32 → Int32) (f : Int32) : Nat → Int32
  | 0 => 0
  | n + 1 => if nI n = f then Sw V f n else Sw V f n + V (nI n)
theorem sw_0 {V : Int32 → Int32} {f x a : Int32} (e : x = a) : x = a - Sw V f 0 := by
  rw [e]
  simp [Sw]
theorem sw_e {V : Int32 → Int32} {f x a k : Int32} {n : Nat} (en : k = nI n) (e : k = f) (h : x = a - Sw V f n) : x = a - Sw V f (n + 1) := by
  rw [h]
  simp only [Sw]
  rw [if_pos (en.symm.trans e)]
theorem sw_n {V : Int32 → Int32} {f x a k v : Int32} {n : Nat} (en : k = nI n) (e : ¬ k = f) (h : x = a - Sw V f n) (ev : v = V k) : x - v = a - Sw V f (n + 1) := by
  rw [h, ev, en]
  simp only [Sw]
  rw [if_neg (fun z => e (en.trans z))]
  grind
theorem sw_b {V : Int32 → Int32} {f : Int32} (hV : ∀ j, 0 ≤ V j ∧ V j ≤ 9) : ∀ n : Nat, n ≤ 9 → 0 ≤ Sw V f n ∧ Sw V f n ≤ 9 * nI n
  | 0, _ => ⟨by simp [Sw], by simp [Sw]; decide⟩
  | n + 1, h => by
    obtain ⟨h1, h2⟩ := sw_b (f := f) hV n (by omega)
    have hv := hV (nI n)
    have n0 : 0 ≤ nI n := nI_pos' (by omega)
    have n9 : nI n ≤ 8 := nI_le (b := 8) (by omega) (by decide)
    rw [← nI_1]
    simp only [Sw]
    generalize nI n = k at *
    generalize Sw V f n = s at *
    generalize V k = v at *
    split <;> grind
def LsP (w z r : Int32) : Prop := (w = 61 ∧ r = 0) ∨ (¬ w = 61 ∧ r = if 0 < z - w then z - w else 0)
def MsP (w z r : Int32) : Prop := (w = 0 ∧ r = 60) ∨ (¬ w = 0 ∧ r = z - w)
def AnP (w l m r : Int32) : Prop := (m < l ∧ r = -1) ∨ (¬ m < l ∧ w = 0 ∧ r = l) ∨ (¬ m < l ∧ ¬ w = 0 ∧ r = m)
/-- what the answers and counts are -/
def CFm (n a b c d : Int32) : Prop := n ≤ 8 ∧ 0 ≤ a ∧ a ≤ 60 ∧ 0 ≤ b ∧ b ≤ 60 ∧ 0 ≤ c ∧ c ≤ 9 ∧ 0 ≤ d ∧ d ≤ 9999
def PF (n n' a b c d r : Int32) : Prop := (r = -1 ∧ n' = n ∧ ¬ CFm n a b c d) ∨ (r = n ∧ n' = n + 1 ∧ CFm n a b c d)
def CS0 (n b c : Int32) : Prop := n ≤ 7 ∧ 0 ≤ b ∧ b ≤ 99 ∧ 0 ≤ c ∧ c ≤ 9999
def PS0 (n n' b c r : Int32) : Prop := (r = -1 ∧ n' = n ∧ ¬ CS0 n b c) ∨ (r = n ∧ n' = n + 1 ∧ CS0 n b c)
def PS (n n' a b c r : Int32) : Prop := (r = -1 ∧ n' = n ∧ ¬ (0 ≤ a ∧ a ≤ 99999 ∧ CS0 n b c)) ∨ (r = n ∧ n' = n + 1 ∧ 0 ≤ a ∧ a ≤ 99999 ∧ CS0 n b c)
def CB (V : Int32 → Int32) (n nt a b c : Int32) : Prop := n ≤ 9 ∧ 0 ≤ a ∧ a ≤ nt - 1 ∧ 1 ≤ b ∧ b ≤ 99 ∧ 0 ≤ c ∧ c ≤ 99 ∧ ¬ Tk V n a
def PB (V V' : Int32 → Int32) (n n' nt a b c r : Int32) : Prop := (r = -1 ∧ n' = n ∧ (∀ j, V' j = V j) ∧ ¬ CB V n nt a b c) ∨ (r = n ∧ n' = n + 1 ∧ V' n = a ∧ (∀ j, ¬ j = n → V' j = V j) ∧ CB V n nt a b c)
def PG (g g' F f v r : Int32) : Prop := (r = 1 ∧ g' = g + 1 ∧ 0 ≤ f ∧ f ≤ F - 1 ∧ 0 ≤ v ∧ v ≤ 60 ∧ g ≤ 39) ∨ (r = 0 ∧ g' = g ∧ ¬ (0 ≤ f ∧ f ≤ F - 1 ∧ 0 ≤ v ∧ v ≤ 60 ∧ g ≤ 39))
def CA0 (Va Vd Vi : Int32 → Int32) (n a d b : Int32) : Prop := n ≤ 29 ∧ ¬ Bd Va Vd Vi n a d ∧ ¬ Bd Va Vd Vi n b d
def PA0 (Va Vd Vi Va' Vd' Vi' : Int32 → Int32) (n n' a d b r : Int32) : Prop := (r = 0 ∧ n' = n ∧ (∀ j, Va' j = Va j ∧ Vd' j = Vd j ∧ Vi' j = Vi j) ∧ ¬ CA0 Va Vd Vi n a d b) ∨ (r = 1 ∧ n' = n + 1 ∧ (Va' n = a ∧ Vd' n = d ∧ Vi' n = b) ∧ (∀ j, ¬ j = n → Va' j = Va j ∧ Vd' j = Vd j ∧ Vi' j = Vi j) ∧ CA0 Va Vd Vi n a d b)
def CA (Va Vd Vi : Int32 → Int32) (F n a d b : Int32) : Prop := 0 ≤ a ∧ a ≤ F - 1 ∧ 0 ≤ b ∧ b ≤ F - 1 ∧ ¬ a = b ∧ 0 ≤ d ∧ d ≤ 9999 ∧ CA0 Va Vd Vi n a d b
def PA (Va Vd Vi Va' Vd' Vi' : Int32 → Int32) (F n n' a d b r : Int32) : Prop := (r = 0 ∧ n' = n ∧ (∀ j, Va' j = Va j ∧ Vd' j = Vd j ∧ Vi' j = Vi j) ∧ ¬ CA Va Vd Vi F n a d b) ∨ (r = 1 ∧ n' = n + 1 ∧ (Va' n = a ∧ Vd' n = d ∧ Vi' n = b) ∧ (∀ j, ¬ j = n → Va' j = Va j ∧ Vd' j = Vd j ∧ Vi' j = Vi j) ∧ CA Va Vd Vi F n a d b)
def PT (n n' r : Int32) : Prop := (r = -1 ∧ n' = n ∧ ¬ n ≤ 380) ∨ (r = n + 20 ∧ n' = n + 20 ∧ n ≤ 380)
def PE (n n' k r : Int32) : Prop := (r = 1 ∧ n' = k ∧ 0 ≤ k ∧ k ≤ n) ∨ (r = 0 ∧ n' = n ∧ ¬ (0 ≤ k ∧ k ≤ n))
/-- the cells of the Movings -/
def isMv (k : Nat) : Bool := k == 2 || k == 39 || k == 168 || k == 77 || k == 87 || k == 97 || k == 107 || k == 117 || k == 127 || k == 137 || k == 147
theorem mv_in {k a : Nat} (h : isMv k = true) (ha : k ≤ a ∧ a ≤ k + 9) : ∀ j, bX a j = fb := by
  simp only [isMv, Bool.or_eq_true, beq_iff_eq] at h
  rcases h with (((((((((rfl | rfl) | rfl) | rfl) | rfl) | rfl) | rfl) | rfl) | rfl) | rfl) | rfl <;>
    (obtain ⟨i, hi, rfl⟩ : ∃ i, i < 10 ∧ a = _ + i := ⟨a - _, by omega, (Nat.add_sub_cancel' ha.1).symm⟩
     rcases (show i = 0 ∨ i = 1 ∨ i = 2 ∨ i = 3 ∨ i = 4 ∨ i = 5 ∨ i = 6 ∨ i = 7 ∨ i = 8 ∨ i = 9 by omega) with rfl | rfl | rfl | rfl | rfl | rfl | rfl | rfl | rfl | rfl <;> exact fun j => by simp [bX])
theorem TX_mvc {M : Mx} {k k2 : Nat} (h : TX M) (hk : isMv k = true) : TX (mvc M k k2) := Tm_of h (fun a j => by
  by_cases q : k ≤ a ∧ a ≤ k + 9
  · exact Or.inr (mv_in hk q j)
  · exact Or.inl (mvc_o (by omega)))
theorem Sx_mvc {α : Nat → Int32 → Bool} {M N : Mx} {k k2 : Nat} (h : Sx α N M) (hk : ∀ i, i < 10 → ∀ j, α (k + i) j = false) : Sx α N (mvc M k k2) := fun a j ha => by
  by_cases q : k ≤ a ∧ a ≤ k + 9
  · have e := hk (a - k) (by omega) j
    rw [show k + (a - k) = a by omega] at e
    rw [e] at ha
    cases ha
  · rw [mvc_o (by omega)]; exact h a j ha
theorem t10 {p : Nat → Prop} (h0 : p 0) (h1 : p 1) (h2 : p 2) (h3 : p 3) (h4 : p 4) (h5 : p 5) (h6 : p 6) (h7 : p 7) (h8 : p 8) (h9 : p 9) : ∀ i, i < 10 → p i := fun i hi => by
  rcases (show i = 0 ∨ i = 1 ∨ i = 2 ∨ i = 3 ∨ i = 4 ∨ i = 5 ∨ i = 6 ∨ i = 7 ∨ i = 8 ∨ i = 9 by omega) with rfl | rfl | rfl | rfl | rfl | rfl | rfl | rfl | rfl | rfl <;> assumption
theorem SX_mvc {M N : Mx} {k2 : Nat} (h : SX N M) : SX N (mvc M 168 k2) := Sx_mvc h (by apply t10 <;> (intro j; simp [aX]))
theorem SXu_mvc {M N : Mx} {k2 : Nat} (h : SXu N M) : SXu N (mvc M 2 k2) := Sx_mvc h (by apply t10 <;> (intro j; simp [aXu, aX] <;> grind))
theorem TX_fgt {M : Mx} (h : TX M) : TX (fil (fil M (2 + 5) 9 0) (2 + 7) 9 0) := Tm_fil (Tm_fil h (fun j => by rw [show bX (2 + 5) j = fb by simp [bX]]; exact fb_ok _)) (fun j => by rw [show bX (2 + 7) j = fb by simp [bX]]; exact fb_ok _)

def plc (x U N : Int32) : Int32 := if x + U < N then x + U else x + U - N
theorem plc_0 {x U N : Int32} (x0 : 0 ≤ x) (x1 : x < N) (u0 : 0 ≤ U) (u1 : U ≤ 40) (n1 : N ≤ 40) (h : plc x U N = 0) : x.toInt + U.toInt = 0 ∨ x.toInt + U.toInt = N.toInt := by
  unfold plc at h
  rw [i_le] at x0 u0 u1 n1
  rw [i_lt] at x1
  have e40 : (40 : Int32).toInt = 40 := rfl
  rw [i_0] at x0 u0
  rw [e40] at u1 n1
  have e : (x + U).toInt = x.toInt + U.toInt := i_add (by omega) (by omega)
  split at h
  · left
    rw [← e, h]
    rfl
  · right
    have e2 : (x + U - N).toInt = x.toInt + U.toInt - N.toInt := by
      rw [i_sub (by omega) (by omega), e]
    rw [h, i_0] at e2
    omega
theorem plc_u {x y U N : Int32} (x0 : 0 ≤ x) (x1 : x < N) (y0 : 0 ≤ y) (y1 : y < N) (u0 : 0 ≤ U) (u1 : U ≤ 40) (n1 : N ≤ 40) (h : plc x U N = 0) (k : plc y U N = 0) : x = y := by
  have p := plc_0 x0 x1 u0 u1 n1 h
  have q := plc_0 y0 y1 u0 u1 n1 k
  rw [i_le] at x0 y0 u0
  rw [i_lt] at x1 y1
  rw [i_0] at x0 y0 u0
  apply Int32.toInt_inj.mp
  omega
/-- no two buckets at one notch -/
def Dst (M : Mx) : Prop := (∀ a b : Nat, a < b → b < 10 → nI b < M.1 12 1 → ¬ M.1 13 (nI a) = M.1 13 (nI b)) ∧ ∀ a : Nat, a < 10 → nI a < M.1 12 1 → 0 ≤ M.1 13 (nI a) ∧ M.1 13 (nI a) < M.1 12 0
/-- the water of a Moving -/
def Wat (M : Mx) (k : Nat) (c : Int) : Prop := Wv (M.1 k 1) (M.1 k 2) (M.1 k 6) (M.1 (k + 1)) (M.1 (k + 3)) c
theorem up_n {M : Mx} {a b n : Nat} {x : Int32} (hb : b < 2 ^ 31) (hn : n < 2 ^ 31) : (up M a (nI b) x).1 a (nI n) = if n = b then x else M.1 a (nI n) := by
  simp only [up, true_and]
  by_cases h : n = b
  · rw [if_pos h, if_pos (by rw [h])]
  · rw [if_neg h, if_neg (fun z => h ((nI_eq hn hb).mp z))]
theorem upo {M : Mx} {a b : Nat} {j i x : Int32} (h : b ≠ a) : (up M a j x).1 b i = M.1 b i := by simp [up, h]
theorem upf {M : Mx} {a : Nat} {j i x : Int32} (h : ¬ i = j) : (up M a j x).1 a i = M.1 a i := by simp [up, h]
theorem upa {M : Mx} {a : Nat} {j x : Int32} : (up M a j x).1 a j = x := by simp [up]
theorem ix {x : Int32} {m : Nat} {mm : Int32} (hM : mm.toInt = m) (h0 : 0 ≤ x) (h1 : x ≤ mm) : ∃ n : Nat, n ≤ m ∧ x = nI n := nI_of2 hM (Int32.not_lt.mpr h0) h1
theorem wk_p {M : Mx} {c : Int} {b : Int32} (h : Wat M 2 c) (b0 : 0 ≤ b) (b9 : b ≤ 9) : 0 ≤ M.1 3 b := by
  obtain ⟨n, hn, e⟩ := ix (m := 9) (mm := 9) rfl b0 b9
  rw [e, i_le]
  exact h.2.1 n (by omega)
theorem wk_U {M : Mx} {c : Int} (h : Wat M 2 c) : 0 ≤ M.1 2 6 ∧ M.1 2 6 ≤ 40 := by
  obtain ⟨⟨-, -, h1, h2⟩, -⟩ := h
  rw [i_le, i_le]
  exact ⟨h1, h2⟩
theorem wk_L {M : Mx} {c : Int} (h : Wat M 2 c) : 0 ≤ M.1 2 1 := by
  rw [i_le]
  exact h.1.1
theorem wk_mono {M : Mx} {k : Nat} {c c' : Int} (h : Wat M k c) (hc : c ≤ c') : Wat M k c' := wv_mono h hc
theorem wk_o {M : Mx} {a : Nat} {j x : Int32} {c : Int} (h : Wat M 2 c) (h2 : a ≠ 2 ∨ (a = 2 ∧ ¬ j = 1 ∧ ¬ j = 2 ∧ ¬ j = 6)) (h3 : a ≠ 3) (h5 : a ≠ 5) : Wat (up M a j x) 2 c := by
  refine wv_e h ?_ ?_ ?_ (fun n hn => upo (Ne.symm h3)) (fun n hn => upo (Ne.symm h5))
  · rcases h2 with h2 | ⟨rfl, q1, q2, q6⟩
    · exact upo (Ne.symm h2)
    · exact upf (fun z => q1 z.symm)
  · rcases h2 with h2 | ⟨rfl, q1, q2, q6⟩
    · exact upo (Ne.symm h2)
    · exact upf (fun z => q2 z.symm)
  · rcases h2 with h2 | ⟨rfl, q1, q2, q6⟩
    · exact upo (Ne.symm h2)
    · exact upf (fun z => q6 z.symm)
theorem wk_t {M : Mx} {x : Int32} {c : Int} (h : Wat M 2 c) (h0 : 0 ≤ x) (h1 : x ≤ 40) : Wat (up M 2 6 x) 2 c := by
  rw [i_le] at h0 h1
  refine wv_e (wv_turn h (U' := x) h0 h1) ?_ ?_ ?_ (fun n hn => upo (by decide)) (fun n hn => upo (by decide)) <;> simp [up]
theorem i_suc {k : Int32} (h0 : 0 ≤ k) (h1 : k ≤ 1000) : (k + 1).toInt = k.toInt + 1 := by
  rw [i_le] at h0 h1
  have e : (1000 : Int32).toInt = 1000 := rfl
  have e1 : (1 : Int32).toInt = 1 := rfl
  rw [i_0] at h0
  rw [e] at h1
  rw [i_add (by omega) (by omega), e1]
theorem mo_k {A : Mx} {k : Int32} {c : Int} (w : Wat A 2 (c + 99 * k.toInt + 99)) (h0 : 0 ≤ k) (h1 : k ≤ 1000) : Wat A 2 (c + 99 * (k + 1).toInt) := by
  rw [i_suc h0 h1]
  exact wk_mono w (by omega)
theorem mo_0 {A : Mx} {v : Int32} {c : Int} {P : Prop} (w : Wat A 2 c) (hv : 0 ≤ A.1 2 6 → A.1 2 6 ≤ 40 → 0 ≤ v ∧ v ≤ 40) : Wat (up A 2 6 v) 2 (c + 99) ∧ (P ∨ Wat (up A 2 6 v) 2 c) := by
  have u := wk_U w
  have q := hv u.1 u.2
  have z := wk_t w q.1 q.2
  exact ⟨wk_mono z (by omega), Or.inr z⟩
theorem mo_c {k : Int32} {c : Int} (h : c ≤ 790000000) (h0 : 0 ≤ k) (h1 : k ≤ 60) : c + 99 * k.toInt + 99 ≤ 800000000 := by
  rw [i_le] at h0 h1
  have e : (60 : Int32).toInt = 60 := rfl
  rw [e] at h1
  omega
theorem mo_n {A : Mx} {k : Int32} {c : Int} (w : Wat A 2 (c + 99 * k.toInt)) (h0 : 0 ≤ k) (h1 : k ≤ 60) : Wat A 2 (c + 5940) := by
  rw [i_le] at h0 h1
  have e : (60 : Int32).toInt = 60 := rfl
  rw [e] at h1
  exact wk_mono w (by omega)
theorem wk_S {M N : Mx} {c : Int} (h : Wat M 2 c) (e1 : N.1 2 1 = M.1 2 1) (e2 : N.1 2 2 = M.1 2 2) (e6 : N.1 2 6 = M.1 2 6) (e3 : ∀ j, N.1 3 j = M.1 3 j) (e5 : ∀ j, N.1 5 j = M.1 5 j) : Wat N 2 c := wv_e h e1 e2 e6 (fun n _ => e3 _) (fun n _ => e5 _)
theorem wk_SX {M N : Mx} {c : Int} (h : Wat M 2 c) (s : SX M N) : Wat N 2 c := wk_S h (s 2 1 (by decide)) (s 2 2 (by decide)) (s 2 6 (by decide)) (fun j => s 3 j (by simp [aX])) (fun j => s 5 j (by simp [aX]))
theorem dst_e {M N : Mx} (h : Dst M) (e0 : N.1 12 0 = M.1 12 0) (e1 : N.1 12 1 = M.1 12 1) (e : ∀ j, N.1 13 j = M.1 13 j) : Dst N := by
  unfold Dst
  simp only [e0, e1, e]
  exact h
theorem mo_st {M A B : Mx} {k r : Int32} {c0 : Int} (hT : TX M) (hD : Dst M) (hk0 : 0 ≤ k) (hk : k < M.1 12 1) (eU : B.1 2 6 = A.1 2 6) (er : r = plc (M.1 13 k) (A.1 2 6) (M.1 12 0)) (qv : ∀ c : Int, Wat A 2 c → c ≤ 800000000 → (¬ r = 0 → Wat B 2 c) ∧ Wat B 2 (c + 99)) (hc : c0 + 99 ≤ 800000000) (w : Wat A 2 (c0 + 99) ∧ ((∃ b : Nat, b < 10 ∧ nI b < k ∧ plc (M.1 13 (nI b)) (A.1 2 6) (M.1 12 0) = 0) ∨ Wat A 2 c0)) : Wat B 2 (c0 + 99) ∧ ((∃ b : Nat, b < 10 ∧ nI b < k + 1 ∧ plc (M.1 13 (nI b)) (B.1 2 6) (M.1 12 0) = 0) ∨ Wat B 2 c0) := by
  have B10 := tX_12_1 hT
  have N40 := tX_12_0 hT
  have hk9 : k ≤ 9 := by clear w qv er; grind
  obtain ⟨kn, hkn, ek⟩ := ix (m := 9) (mm := 9) rfl hk0 hk9
  have hU := wk_U w.1
  rw [eU]
  have l1 : k < k + 1 := by clear w qv er; grind
  by_cases z : r = 0
  · have pz : plc (M.1 13 k) (A.1 2 6) (M.1 12 0) = 0 := er ▸ z
    rcases w.2 with ⟨b, b1, b2, b3⟩ | w2
    · exfalso
      rw [ek] at pz b2 hk
      have hb : b < kn := (nI_ltI (by omega) (by omega)).mp b2
      have n1 := hD.2 b b1 (Int32.lt_trans b2 hk)
      have n2 := hD.2 kn (by omega) hk
      exact hD.1 b kn hb (by omega) hk (plc_u n1.1 n1.2 n2.1 n2.2 hU.1 hU.2 N40.2 b3 pz)
    · exact ⟨(qv c0 w2 (by omega)).2, Or.inl ⟨kn, by omega, by rw [← ek]; exact l1, by rw [← ek]; exact pz⟩⟩
  · refine ⟨(qv _ w.1 hc).1 z, ?_⟩
    rcases w.2 with ⟨b, b1, b2, b3⟩ | w2
    · exact Or.inl ⟨b, b1, Int32.lt_trans b2 l1, b3⟩
    · exact Or.inr ((qv c0 w2 (by omega)).1 z)
theorem wk_d1 {M : Mx} {c : Int} {b o l v1 v2 x y : Int32} (e1 : v1 = M.1 3 b) (e2 : v2 = M.1 5 o) (h : Wat M 2 c) (hc : c ≤ 800000000) (b0 : 0 ≤ b) (b9 : b ≤ 9) (o0 : 0 ≤ o) (o8 : o ≤ 8) (l0 : 0 ≤ l) (l1 : l ≤ M.1 3 b) : Wat (up (up (up (up M 3 b (v1 - l)) 5 o (v2 + l)) 8 o x) 9 o y) 2 c := by
  obtain ⟨bn, hb, eb⟩ := ix (m := 9) (mm := 9) rfl b0 b9
  obtain ⟨on, ho, eo⟩ := ix (m := 8) (mm := 8) rfl o0 o8
  subst eb eo e1 e2
  have q := wv_dropF h hc (b := bn) (f := on) (by omega) (by omega) l0 l1 (P' := (up (up (up (up M 3 (nI bn) (M.1 3 (nI bn) - l)) 5 (nI on) (M.1 5 (nI on) + l)) 8 (nI on) x) 9 (nI on) y).1 3) (D' := (up (up (up (up M 3 (nI bn) (M.1 3 (nI bn) - l)) 5 (nI on) (M.1 5 (nI on) + l)) 8 (nI on) x) 9 (nI on) y).1 5)
    (fun n hn => by rw [upo (by decide), upo (by decide), upo (by decide), up_n (by omega) (by omega)])
    (fun n hn => by rw [upo (by decide), upo (by decide), up_n (by omega) (by omega), upo (by decide)])
  refine wv_e q ?_ ?_ ?_ (fun n hn => rfl) (fun n hn => rfl) <;> simp [up]
theorem wk_d2 {M : Mx} {c : Int} {b l v1 v2 : Int32} (e1 : v1 = M.1 3 b) (e2 : v2 = M.1 2 1) (h : Wat M 2 c) (hc : c ≤ 800000000) (b0 : 0 ≤ b) (b9 : b ≤ 9) (l0 : 0 ≤ l) (l1 : l ≤ M.1 3 b) : Wat (up (up M 3 b (v1 - l)) 2 1 (v2 + l)) 2 c := by
  obtain ⟨bn, hb, eb⟩ := ix (m := 9) (mm := 9) rfl b0 b9
  subst eb e1 e2
  have q := wv_dropL h hc (b := bn) (by omega) l0 l1 rfl (P' := (up (up M 3 (nI bn) (M.1 3 (nI bn) - l)) 2 1 (M.1 2 1 + l)).1 3)
    (fun n hn => by rw [upo (by decide), up_n (by omega) (by omega)])
  refine wv_e q ?_ ?_ ?_ (fun n hn => rfl) (fun n hn => by rw [upo (by decide), upo (by decide)]) <;> simp [up]
theorem wk_em {M : Mx} {c : Int} {b v1 v2 : Int32} (e1 : v1 = M.1 2 2) (e2 : v2 = M.1 3 b) (h : Wat M 2 c) (hc : c ≤ 800000000) (b0 : 0 ≤ b) (b9 : b ≤ 9) : Wat (up (up M 2 2 (v1 + v2)) 3 b 0) 2 c := by
  obtain ⟨bn, hb, eb⟩ := ix (m := 9) (mm := 9) rfl b0 b9
  subst eb e1 e2
  have q := wv_empty h hc (b := bn) (by omega) rfl (P' := (up (up M 2 2 (M.1 2 2 + M.1 3 (nI bn))) 3 (nI bn) 0).1 3)
    (fun n hn => by rw [up_n (by omega) (by omega), upo (by decide)])
  refine wv_e q ?_ ?_ ?_ (fun n hn => rfl) (fun n hn => by rw [upo (by decide), upo (by decide)]) <;> simp [up]
theorem wk_fi {M : Mx} {c : Int} {b s t v1 v2 v3 L : Int32} (et : t = if L < s - v1 then L else s - v1) (e1 : v1 = M.1 3 b) (eL : L = M.1 2 1) (e2 : v2 = M.1 2 1) (e3 : v3 = M.1 3 b) (h : Wat M 2 c) (hc : c ≤ 800000000) (b0 : 0 ≤ b) (b9 : b ≤ 9) (s0 : 0 ≤ s) (s9 : s ≤ 99) : Wat (up (up M 2 1 (v2 - t)) 3 b (v3 + t)) 2 (c + 99) := by
  obtain ⟨bn, hb, eb⟩ := ix (m := 9) (mm := 9) rfl b0 b9
  subst eb e1 e2 e3 eL
  have et' : t = s - M.1 3 (nI bn) ∧ s - M.1 3 (nI bn) ≤ M.1 2 1 ∨ t = M.1 2 1 ∧ M.1 2 1 ≤ s - M.1 3 (nI bn) := by
    by_cases z : M.1 2 1 < s - M.1 3 (nI bn)
    · rw [if_pos z] at et
      exact Or.inr ⟨et, Int32.le_of_lt z⟩
    · rw [if_neg z] at et
      exact Or.inl ⟨et, Int32.not_lt.mp z⟩
  have q := wv_fill h hc (b := bn) (by omega) s0 s9 et' rfl (P' := (up (up M 2 1 (M.1 2 1 - t)) 3 (nI bn) (M.1 3 (nI bn) + t)).1 3)
    (fun n hn => by rw [up_n (by omega) (by omega), upo (by decide)])
  refine wv_e q ?_ ?_ ?_ (fun n hn => rfl) (fun n hn => by rw [upo (by decide), upo (by decide)]) <;> simp [up]

theorem ad_1 {M : Mx} {c : Int} {x v : Int32} {n : Nat} (h : Wat M 2 c) (hc : c ≤ 800000000) (hn : n < 10) (ex : x.toInt = (M.1 2 1).toInt + (M.1 2 2).toInt + smI (M.1 3) n) (ev : v = M.1 3 (nI n)) : (x + v).toInt = (M.1 2 1).toInt + (M.1 2 2).toInt + smI (M.1 3) (n + 1) := by
  have h : Wv (M.1 2 1) (M.1 2 2) (M.1 2 6) (M.1 3) (M.1 5) c := h
  obtain ⟨⟨a1, a2, a3, a4⟩, h2, h3, h4, h5⟩ := h
  have d0 := sm_nn h3
  have p0 := sm_nn (V := M.1 3) (N := n) (fun k hk => h2 k (by omega))
  have l := sm_le h2 (K := n + 1) (by omega)
  have q := h2 n hn
  have s : smI (M.1 3) (n + 1) = smI (M.1 3) n + (M.1 3 (nI n)).toInt := rfl
  subst ev
  rw [i_add (by omega) (by omega), ex]
  omega
theorem ad_2 {M : Mx} {c : Int} {x v : Int32} {n : Nat} (h : Wat M 2 c) (hc : c ≤ 800000000) (hn : n < 9) (ex : x.toInt = (M.1 2 1).toInt + (M.1 2 2).toInt + smI (M.1 3) 10 + smI (M.1 5) n) (ev : v = M.1 5 (nI n)) : (x + v).toInt = (M.1 2 1).toInt + (M.1 2 2).toInt + smI (M.1 3) 10 + smI (M.1 5) (n + 1) := by
  have h : Wv (M.1 2 1) (M.1 2 2) (M.1 2 6) (M.1 3) (M.1 5) c := h
  obtain ⟨⟨a1, a2, a3, a4⟩, h2, h3, h4, h5⟩ := h
  have p0 := sm_nn h2
  have d0 := sm_nn (V := M.1 5) (N := n) (fun k hk => h3 k (by omega))
  have l := sm_le h3 (K := n + 1) (by omega)
  have q := h3 n hn
  have s : smI (M.1 5) (n + 1) = smI (M.1 5) n + (M.1 5 (nI n)).toInt := rfl
  subst ev
  rw [i_add (by omega) (by omega), ex]
  omega
theorem ad_0 {M : Mx} {c : Int} {u v : Int32} (h : Wat M 2 c) (hc : c ≤ 800000000) (eu : u = M.1 2 1) (ev : v = M.1 2 2) : (u + v).toInt = (M.1 2 1).toInt + (M.1 2 2).toInt + smI (M.1 3) 0 := by
  have h : Wv (M.1 2 1) (M.1 2 2) (M.1 2 6) (M.1 3) (M.1 5) c := h
  obtain ⟨⟨a1, a2, a3, a4⟩, h2, h3, h4, h5⟩ := h
  have p0 := sm_nn h2
  have d0 := sm_nn h3
  subst eu ev
  have s : smI (M.1 3) 0 = 0 := rfl
  rw [i_add (by omega) (by omega)]
  omega
/-- the lake may be told -/
theorem ad_l {M : Mx} {c : Int} {r u v : Int32} (h : Wat M 2 c) (hc : c ≤ 800000000) (er : r.toInt = (M.1 2 1).toInt + (M.1 2 2).toInt + smI (M.1 3) 10 + smI (M.1 5) 9) (eu : u = M.1 2 1) (v0 : 0 ≤ v) (v1 : v ≤ 9999999) : r - u + v ≤ 999999999 := by
  have h : Wv (M.1 2 1) (M.1 2 2) (M.1 2 6) (M.1 3) (M.1 5) c := h
  obtain ⟨⟨a1, a2, a3, a4⟩, h2, h3, h4, h5⟩ := h
  have p0 := sm_nn h2
  have d0 := sm_nn h3
  subst eu
  rw [i_le] at v0 v1 ⊢
  have e1 : (9999999 : Int32).toInt = 9999999 := rfl
  have e2 : (999999999 : Int32).toInt = 999999999 := rfl
  rw [i_0] at v0
  rw [e1] at v1
  rw [e2]
  have e3 : (r - M.1 2 1).toInt = r.toInt - (M.1 2 1).toInt := i_sub (by omega) (by omega)
  rw [i_add (by omega) (by omega), e3]
  omega
theorem wk_l {M : Mx} {c : Int} {v : Int32} (h : Wat M 2 c) (v0 : 0 ≤ v) (v1 : v ≤ 9999999) : Wat (up M 2 1 v) 2 c := by
  refine wv_e (wv_lake h v0 v1) ?_ ?_ ?_ (fun n hn => upo (by decide)) (fun n hn => upo (by decide)) <;> simp [up]
theorem wk_dr {M : Mx} {c : Int} {f d x v1 v2 : Int32} (e1 : v1 = M.1 5 f) (e2 : v2 = M.1 2 1) (h : Wat M 2 c) (hc : c ≤ 800000000) (f0 : 0 ≤ f) (f8 : f ≤ 8) (d0 : 0 ≤ d) (d1 : d ≤ M.1 5 f) : Wat (up (up M 5 f (v1 - d)) 2 1 (v2 + d)) 2 c := by
  obtain ⟨fn, hf, ef⟩ := ix (m := 8) (mm := 8) rfl f0 f8
  subst ef e1 e2
  have q := wv_drink h hc (f := fn) (by omega) d0 d1 rfl (D' := (up (up M 5 (nI fn) (M.1 5 (nI fn) - d)) 2 1 (M.1 2 1 + d)).1 5)
    (fun n hn => by rw [upo (by decide), up_n (by omega) (by omega)])
  refine wv_e q ?_ ?_ ?_ (fun n hn => by rw [upo (by decide), upo (by decide)]) (fun n hn => rfl) <;> simp [up]
theorem wk_dr2 {M : Mx} {c : Int} {f d x v1 v2 : Int32} (e1 : v1 = M.1 5 f) (e2 : v2 = M.1 2 1) (h : Wat M 2 c) (hc : c ≤ 800000000) (f0 : 0 ≤ f) (f8 : f ≤ 8) (d0 : 0 ≤ d) (d1 : d ≤ M.1 5 f) : Wat (up (up (up M 10 f x) 5 f (v1 - d)) 2 1 (v2 + d)) 2 c :=
  wk_dr (x := 0) (e1.trans (upo (by decide)).symm) (e2.trans (upo (by decide)).symm) (wk_o h (Or.inl (by decide)) (by decide) (by decide)) hc f0 f8 d0 (by rw [upo (by decide)]; exact d1)
theorem wk_f {M : Mx} {c : Int} {f : Int32} (h : Wat M 2 c) (f0 : 0 ≤ f) (f8 : f ≤ 8) : 0 ≤ M.1 5 f := by
  obtain ⟨n, hn, e⟩ := ix (m := 8) (mm := 8) rfl f0 f8
  rw [e, i_le]
  exact h.2.2.1 n (by omega)

set_option maxHeartbeats 400000 in
set_option maxRecDepth 100000 in
theorem t_X3_draw {gk : Gk} {ad : Nat → Nat} (m : Int32) (M : Mx) (hT : TX M) : Ct (gk, (ad, shX)) yX3_draw cX3_draw 2 (some .int) 1 0 0 [.ref 2, .int m] M (Rs (gk, (ad, shX)) (RI (fun r M' => TX M' ∧ SX M M' ∧ (True)))) := by
  refine Ct.of (by decide) (Nat.le_of_ble_eq_true rfl) ?_
  intro G hgk hQ hmc hms hZ hnm K
  have hgk : gk = xk G := hgk.symm
  subst hgk
  have hq : ∀ (r : Int32) (M' : Mx), (TX M' ∧ SX M M' ∧ (True)) → xQ G (xk G, (ad, shX)) (some (.int r)) M' := fun r M' h => by rw [hQ]; exact ⟨rfl, r, rfl, h⟩
  show AW G 2 (ad, shX) 0 0 M 0 [(0, .ref 2), (1, .int m)] []
  have hS0 : SX M M := Sx.rf
  refine aw_aload_n K dX3_draw_0 0 rfl rfl ?_
  refine aw_ldc (v := 1664525) K dX3_draw_1 kcX3_76 ?_
  refine aw_aload_n K dX3_draw_3 0 rfl rfl ?_
  refine aw_geti (j := 0) (i := 0) K cf3 flX3_39 dX3_draw_4 s2 (by decide) rfl rfl ?_
  refine aw_topi (fun v_1 ev_1 => ?_)
  refine aw_imul K dX3_draw_7 ?_
  refine aw_ldc (v := 1013904223) K dX3_draw_8 kcX3_77 ?_
  refine aw_iadd K dX3_draw_10 ?_
  refine aw_puti (j := 0) (i := 0) (ty := .int) K cf3 flX3_39 dX3_draw_11 s2 (by decide) rfl rfl rfl (by decide +kernel) rfl rfl (ln_ok rfl) ?_
  have hT_2 : TX (up M 2 0 ((1664525 * v_1) + 1013904223)) := vX_2_0 hT
  have hS_3 : SX M (up M 2 0 ((1664525 * v_1) + 1013904223)) := nX_2_0 hS0
  refine aw_iload_n K dX3_draw_14 1 rfl rfl ?_
  have J_6 : ∀ (v_5 : Int32), (((m ≤ 0) ∧ v_5 = 0) ∨ ((¬ (m ≤ 0)) ∧ v_5 = ((ushr ((1664525 * v_1) + 1013904223) 8) - (ushr ((1664525 * v_1) + 1013904223) 8) / m * m))) → AW G 2 (ad, shX) 0 0 (up M 2 0 ((1664525 * v_1) + 1013904223)) 31 [(0, .ref 2), (1, .int m)] [.int v_5] := by
    intro v_5  h_7
    refine aw_iret (v := v_5) K dX3_draw_31 (hq v_5 (up M 2 0 ((1664525 * v_1) + 1013904223)) ?_) hZ hmc.symm hms.symm
    exact ⟨hT_2, hS_3, trivial⟩
  refine aw_if_le (tgt := 30) K dX3_draw_15 (by decide) (fun c_4 => ?_) (fun c_4 => ?_)
  · refine aw_iconst (v := 0) K dX3_draw_30 (by decide) ?_
    exact J_6 _  (Or.inl ⟨c_4, rfl⟩)
  · refine aw_aload_n K dX3_draw_18 0 rfl rfl ?_
    refine aw_geti (j := 0) (i := 0) K cf3 flX3_39 dX3_draw_19 s2 (by decide) rfl rfl ?_
    refine aw_topr (y := ((1664525 * v_1) + 1013904223)) (by simp [up]) ?_
    refine aw_bipush (v := 8) K dX3_draw_22 (by decide) ?_
    refine aw_iushr (v := (ushr ((1664525 * v_1) + 1013904223) 8)) K dX3_draw_24 rfl ?_
    refine aw_iload_n K dX3_draw_25 1 rfl rfl ?_
    refine aw_irem K dX3_draw_26 (by clear hgk hq hQ hmc hms hZ hnm K J_6 G; grind (splits := 30)) ?_
    refine aw_goto (tgt := 31) K dX3_draw_27 (by decide) ?_
    exact J_6 _  (Or.inr (⟨c_4, rfl⟩))

set_option maxHeartbeats 400000 in
set_option maxRecDepth 100000 in
theorem t_X3_allDrops {gk : Gk} {ad : Nat → Nat} (M : Mx) (hT : TX M) : Ct (gk, (ad, shX)) yX3_allDrops cX3_allDrops 3 (some .int) 1 0 0 [.ref 2] M (Rs (gk, (ad, shX)) (RI (fun r M' => M' = M ∧ (∀ c : Int, Wat M 2 c → c ≤ 800000000 → r.toInt = (M.1 2 1).toInt + (M.1 2 2).toInt + smI (M.1 3) 10 + smI (M.1 5) 9)))) := by
  refine Ct.of (by decide) (Nat.le_of_ble_eq_true rfl) ?_
  intro G hgk hQ hmc hms hZ hnm K
  have hgk : gk = xk G := hgk.symm
  subst hgk
  have hq : ∀ (r : Int32) (M' : Mx), (M' = M ∧ (∀ c : Int, Wat M 2 c → c ≤ 800000000 → r.toInt = (M.1 2 1).toInt + (M.1 2 2).toInt + smI (M.1 3) 10 + smI (M.1 5) 9)) → xQ G (xk G, (ad, shX)) (some (.int r)) M' := fun r M' h => by rw [hQ]; exact ⟨rfl, r, rfl, h⟩
  show AW G 3 (ad, shX) 0 0 M 0 [(0, .ref 2)] []
  refine aw_aload_n K dX3_allDrops_0 0 rfl rfl ?_
  refine aw_geti (j := 1) (i := 1) K cf3 flX3_43 dX3_allDrops_1 s2 (by decide) rfl rfl ?_
  refine aw_topi (fun v_1 ev_1 => ?_)
  refine aw_aload_n K dX3_allDrops_4 0 rfl rfl ?_
  refine aw_geti (j := 2) (i := 2) K cf3 flX3_46 dX3_allDrops_5 s2 (by decide) rfl rfl ?_
  refine aw_topi (fun v_2 ev_2 => ?_)
  refine aw_iadd K dX3_allDrops_8 ?_
  refine aw_istore_n (lv' := [(0, .ref 2), (1, .int (v_1 + v_2))]) K dX3_allDrops_9 [1, 0] rfl rfl (by decide) ?_
  refine aw_iconst (v := 0) K dX3_allDrops_10 (by decide) ?_
  refine aw_istore_n (lv' := [(0, .ref 2), (1, .int (v_1 + v_2)), (2, .int 0)]) K dX3_allDrops_11 [1, 2, 0] rfl rfl (by decide) ?_
  have L12 : ∀ (k12 : Int32), 0 ≤ k12 → k12 ≤ 10 → ∀ (x12_1 : Int32), (∃ n : Nat, n ≤ 10 ∧ k12 = nI n ∧ ∀ c : Int, Wat M 2 c → c ≤ 800000000 → x12_1.toInt = (M.1 2 1).toInt + (M.1 2 2).toInt + smI (M.1 3) n) → AW G 3 (ad, shX) 0 0 M 12 [(0, .ref 2), (1, .int x12_1), (2, .int k12)] [] := by
    refine for_up 10 ?_
    intro k12 hk120 hk121 ih12 x12_1  hI12
    obtain ⟨n, nl, en, hx⟩ := hI12
    refine aw_iload_n K dX3_allDrops_12 2 rfl rfl ?_
    refine aw_bipush (v := 10) K dX3_allDrops_13 (by decide) ?_
    refine aw_icmp_ge (tgt := 33) K dX3_allDrops_15 (by decide) (fun c_3 => ?_) (fun c_3 => ?_)
    · have n_e : n = 10 := (nI_eq (by omega) (by decide)).mp (by rw [← en]; show k12 = 10; clear hx; grind)
      subst n_e
      refine aw_iconst (v := 0) K dX3_allDrops_33 (by decide) ?_
      refine aw_istore_n (lv' := [(0, .ref 2), (1, .int x12_1), (2, .int 0)]) K dX3_allDrops_34 [1, 2, 0] rfl rfl (by decide) ?_
      have L35 : ∀ (k35 : Int32), 0 ≤ k35 → k35 ≤ 9 → ∀ (x35_1 : Int32), (∃ n : Nat, n ≤ 9 ∧ k35 = nI n ∧ ∀ c : Int, Wat M 2 c → c ≤ 800000000 → x35_1.toInt = (M.1 2 1).toInt + (M.1 2 2).toInt + smI (M.1 3) 10 + smI (M.1 5) n) → AW G 3 (ad, shX) 0 0 M 35 [(0, .ref 2), (1, .int x35_1), (2, .int k35)] [] := by
        refine for_up 9 ?_
        intro k35 hk350 hk351 ih35 x35_1  hI35
        obtain ⟨n, nl, en, hx⟩ := hI35
        refine aw_iload_n K dX3_allDrops_35 2 rfl rfl ?_
        refine aw_bipush (v := 9) K dX3_allDrops_36 (by decide) ?_
        refine aw_icmp_ge (tgt := 56) K dX3_allDrops_38 (by decide) (fun c_4 => ?_) (fun c_4 => ?_)
        · refine aw_iload_n K dX3_allDrops_56 1 rfl rfl ?_
          refine aw_iret (v := x35_1) K dX3_allDrops_57 (hq x35_1 M ?_) hZ hmc.symm hms.symm
          refine ⟨rfl, ?_⟩
          clear hgk hq hQ hmc hms hZ hnm K ih12 ih35 G
          have n_e : n = 9 := (nI_eq (by omega) (by decide)).mp (by rw [← en]; show k35 = 9; clear hx; grind (splits := 30))
          subst n_e
          exact hx
        · have hn : n < 9 := (nI_ltI (by omega) (by decide)).mp (by rw [← en]; show k35 < 9; clear hx; grind)
          refine aw_iload_n K dX3_allDrops_41 1 rfl rfl ?_
          refine aw_aload_n K dX3_allDrops_42 0 rfl rfl ?_
          refine aw_getr (j := 9) K cf3 flX3_18 dX3_allDrops_43 s2 (by decide) rfl ?_
          refine aw_iload_n K dX3_allDrops_46 2 rfl rfl ?_
          refine aw_iald (nv := 9) K dX3_allDrops_47 s5 (by decide) (by decide) (by clear hgk hq hQ hmc hms hZ hnm K ih12 ih35 G; grind (splits := 30)) (by clear hgk hq hQ hmc hms hZ hnm K ih12 ih35 G; grind (splits := 30)) ?_
          refine aw_topi (fun v_5 ev_5 => ?_)
          refine aw_iadd K dX3_allDrops_48 ?_
          refine aw_istore_n (lv' := [(0, .ref 2), (1, .int (x35_1 + v_5)), (2, .int k35)]) K dX3_allDrops_49 [1, 0, 2] rfl rfl (by decide) ?_
          refine aw_iinc (v := (k35 + 1)) (lv' := [(0, .ref 2), (1, .int (x35_1 + v_5)), (2, .int (k35 + 1))]) K dX3_allDrops_50 2 rfl rfl [1, 2, 0] rfl (by decide) ?_
          refine aw_goto (tgt := 35) K dX3_allDrops_53 (by decide) ?_
          exact ih35 (by clear hgk hq hQ hmc hms hZ hnm K ih12 ih35 G; grind (splits := 30)) _  ⟨n + 1, by omega, (by rw [en, nI_1]), fun c h1 h2 => ad_2 h1 h2 hn (hx c h1 h2) (en ▸ (by assumption))⟩
      exact L35 0 (by decide) (by clear hgk hq hQ hmc hms hZ hnm K ih12 L35 G; grind (splits := 30)) _  ⟨0, by omega, rfl, fun c h1 h2 => by rw [hx c h1 h2]; simp [smI]⟩
    · have hn : n < 10 := (nI_ltI (by omega) (by decide)).mp (by rw [← en]; show k12 < 10; clear hx; grind)
      refine aw_iload_n K dX3_allDrops_18 1 rfl rfl ?_
      refine aw_aload_n K dX3_allDrops_19 0 rfl rfl ?_
      refine aw_getr (j := 7) K cf3 flX3_9 dX3_allDrops_20 s2 (by decide) rfl ?_
      refine aw_iload_n K dX3_allDrops_23 2 rfl rfl ?_
      refine aw_iald (nv := 10) K dX3_allDrops_24 s3 (by decide) (by decide) (by clear hgk hq hQ hmc hms hZ hnm K ih12 G; grind (splits := 30)) (by clear hgk hq hQ hmc hms hZ hnm K ih12 G; grind (splits := 30)) ?_
      refine aw_topi (fun v_6 ev_6 => ?_)
      refine aw_iadd K dX3_allDrops_25 ?_
      refine aw_istore_n (lv' := [(0, .ref 2), (1, .int (x12_1 + v_6)), (2, .int k12)]) K dX3_allDrops_26 [1, 0, 2] rfl rfl (by decide) ?_
      refine aw_iinc (v := (k12 + 1)) (lv' := [(0, .ref 2), (1, .int (x12_1 + v_6)), (2, .int (k12 + 1))]) K dX3_allDrops_27 2 rfl rfl [1, 2, 0] rfl (by decide) ?_
      refine aw_goto (tgt := 12) K dX3_allDrops_30 (by decide) ?_
      exact ih12 (by clear hgk hq hQ hmc hms hZ hnm K ih12 G; grind (splits := 30)) _  ⟨n + 1, by omega, (by rw [en, nI_1]), fun c h1 h2 => ad_1 h1 h2 hn (hx c h1 h2) (en ▸ (by assumption))⟩
  exact L12 0 (by decide) (by clear hgk hq hQ hmc hms hZ hnm K L12 G; grind (splits := 30)) _  ⟨0, by omega, rfl, fun c h1 h2 => ad_0 h1 h2 (by assumption) (by assumption)⟩

set_option maxHeartbeats 400000 in
set_option maxRecDepth 100000 in
theorem t_X3_debtOf {gk : Gk} {ad : Nat → Nat} (f : Int32) (M : Mx) (hT : TX M) (h0 : 0 ≤ f) (h1 : f ≤ 8) : Ct (gk, (ad, shX)) yX3_debtOf cX3_debtOf 4 (some .int) 1 0 0 [.ref 2, .int f] M (Rs (gk, (ad, shX)) (RI (fun r M' => M' = M ∧ (True)))) := by
  refine Ct.of (by decide) (Nat.le_of_ble_eq_true rfl) ?_
  intro G hgk hQ hmc hms hZ hnm K
  have hgk : gk = xk G := hgk.symm
  subst hgk
  have hq : ∀ (r : Int32) (M' : Mx), (M' = M ∧ (True)) → xQ G (xk G, (ad, shX)) (some (.int r)) M' := fun r M' h => by rw [hQ]; exact ⟨rfl, r, rfl, h⟩
  show AW G 4 (ad, shX) 0 0 M 0 [(0, .ref 2), (1, .int f)] []
  refine aw_iconst (v := 0) K dX3_debtOf_0 (by decide) ?_
  refine aw_istore_n (lv' := [(0, .ref 2), (1, .int f), (2, .int 0)]) K dX3_debtOf_1 [1, 2, 0] rfl rfl (by decide) ?_
  refine aw_iconst (v := 0) K dX3_debtOf_2 (by decide) ?_
  refine aw_istore_n (lv' := [(0, .ref 2), (1, .int f), (2, .int 0), (3, .int 0)]) K dX3_debtOf_3 [1, 2, 3, 0] rfl rfl (by decide) ?_
  have L4 : ∀ (k4 : Int32), 0 ≤ k4 → k4 ≤ 2147483647 → ∀ (x4_2 : Int32), (True) → AW G 4 (ad, shX) 0 0 M 4 [(0, .ref 2), (1, .int f), (2, .int x4_2), (3, .int k4)] [] := by
    refine for_up 2147483647 ?_
    intro k4 hk40 hk41 ih4 x4_2  hI4
    refine aw_iload_n K dX3_debtOf_4 3 rfl rfl ?_
    refine aw_bipush (v := 9) K dX3_debtOf_5 (by decide) ?_
    refine aw_icmp_ge (tgt := 30) K dX3_debtOf_7 (by decide) (fun c_1 => ?_) (fun c_1 => ?_)
    · refine aw_iload_n K dX3_debtOf_30 2 rfl rfl ?_
      refine aw_iret (v := x4_2) K dX3_debtOf_31 (hq x4_2 M ?_) hZ hmc.symm hms.symm
      exact ⟨rfl, trivial⟩
    · refine aw_iload_n K dX3_debtOf_10 2 rfl rfl ?_
      refine aw_aload_n K dX3_debtOf_11 0 rfl rfl ?_
      refine aw_getr (j := 15) K cf3 flX3_36 dX3_debtOf_12 s2 (by decide) rfl ?_
      refine aw_iload_n K dX3_debtOf_15 1 rfl rfl ?_
      refine aw_bipush (v := 9) K dX3_debtOf_16 (by decide) ?_
      refine aw_imul K dX3_debtOf_18 ?_
      refine aw_iload_n K dX3_debtOf_19 3 rfl rfl ?_
      refine aw_iadd K dX3_debtOf_20 ?_
      refine aw_iald (nv := 81) K dX3_debtOf_21 s11 (by decide) (by decide) (by clear hgk hq hQ hmc hms hZ hnm K ih4 G; grind (splits := 30)) (by clear hgk hq hQ hmc hms hZ hnm K ih4 G; grind (splits := 30)) ?_
      refine aw_topi (fun v_2 ev_2 => ?_)
      refine aw_iadd K dX3_debtOf_22 ?_
      refine aw_istore_n (lv' := [(0, .ref 2), (1, .int f), (2, .int (x4_2 + v_2)), (3, .int k4)]) K dX3_debtOf_23 [1, 2, 0, 3] rfl rfl (by decide) ?_
      refine aw_iinc (v := (k4 + 1)) (lv' := [(0, .ref 2), (1, .int f), (2, .int (x4_2 + v_2)), (3, .int (k4 + 1))]) K dX3_debtOf_24 3 rfl rfl [1, 2, 3, 0] rfl (by decide) ?_
      refine aw_goto (tgt := 4) K dX3_debtOf_27 (by decide) ?_
      exact ih4 (by clear hgk hq hQ hmc hms hZ hnm K ih4 G; grind (splits := 30)) _  trivial
  exact L4 0 (by decide) (mx_le _) _  trivial

set_option maxHeartbeats 400000 in
set_option maxRecDepth 100000 in
theorem t_X3_creditOf {gk : Gk} {ad : Nat → Nat} (f : Int32) (M : Mx) (hT : TX M) (h0 : 0 ≤ f) (h1 : f ≤ 8) : Ct (gk, (ad, shX)) yX3_creditOf cX3_creditOf 4 (some .int) 1 0 0 [.ref 2, .int f] M (Rs (gk, (ad, shX)) (RI (fun r M' => M' = M ∧ (True)))) := by
  refine Ct.of (by decide) (Nat.le_of_ble_eq_true rfl) ?_
  intro G hgk hQ hmc hms hZ hnm K
  have hgk : gk = xk G := hgk.symm
  subst hgk
  have hq : ∀ (r : Int32) (M' : Mx), (M' = M ∧ (True)) → xQ G (xk G, (ad, shX)) (some (.int r)) M' := fun r M' h => by rw [hQ]; exact ⟨rfl, r, rfl, h⟩
  show AW G 4 (ad, shX) 0 0 M 0 [(0, .ref 2), (1, .int f)] []
  refine aw_iconst (v := 0) K dX3_creditOf_0 (by decide) ?_
  refine aw_istore_n (lv' := [(0, .ref 2), (1, .int f), (2, .int 0)]) K dX3_creditOf_1 [1, 2, 0] rfl rfl (by decide) ?_
  refine aw_iconst (v := 0) K dX3_creditOf_2 (by decide) ?_
  refine aw_istore_n (lv' := [(0, .ref 2), (1, .int f), (2, .int 0), (3, .int 0)]) K dX3_creditOf_3 [1, 2, 3, 0] rfl rfl (by decide) ?_
  have L4 : ∀ (k4 : Int32), 0 ≤ k4 → k4 ≤ 2147483647 → ∀ (x4_2 : Int32), (True) → AW G 4 (ad, shX) 0 0 M 4 [(0, .ref 2), (1, .int f), (2, .int x4_2), (3, .int k4)] [] := by
    refine for_up 2147483647 ?_
    intro k4 hk40 hk41 ih4 x4_2  hI4
    refine aw_iload_n K dX3_creditOf_4 3 rfl rfl ?_
    refine aw_bipush (v := 9) K dX3_creditOf_5 (by decide) ?_
    refine aw_icmp_ge (tgt := 30) K dX3_creditOf_7 (by decide) (fun c_1 => ?_) (fun c_1 => ?_)
    · refine aw_iload_n K dX3_creditOf_30 2 rfl rfl ?_
      refine aw_iret (v := x4_2) K dX3_creditOf_31 (hq x4_2 M ?_) hZ hmc.symm hms.symm
      exact ⟨rfl, trivial⟩
    · refine aw_iload_n K dX3_creditOf_10 2 rfl rfl ?_
      refine aw_aload_n K dX3_creditOf_11 0 rfl rfl ?_
      refine aw_getr (j := 15) K cf3 flX3_36 dX3_creditOf_12 s2 (by decide) rfl ?_
      refine aw_iload_n K dX3_creditOf_15 3 rfl rfl ?_
      refine aw_bipush (v := 9) K dX3_creditOf_16 (by decide) ?_
      refine aw_imul K dX3_creditOf_18 ?_
      refine aw_iload_n K dX3_creditOf_19 1 rfl rfl ?_
      refine aw_iadd K dX3_creditOf_20 ?_
      refine aw_iald (nv := 81) K dX3_creditOf_21 s11 (by decide) (by decide) (by clear hgk hq hQ hmc hms hZ hnm K ih4 G; grind (splits := 30)) (by clear hgk hq hQ hmc hms hZ hnm K ih4 G; grind (splits := 30)) ?_
      refine aw_topi (fun v_2 ev_2 => ?_)
      refine aw_iadd K dX3_creditOf_22 ?_
      refine aw_istore_n (lv' := [(0, .ref 2), (1, .int f), (2, .int (x4_2 + v_2)), (3, .int k4)]) K dX3_creditOf_23 [1, 2, 0, 3] rfl rfl (by decide) ?_
      refine aw_iinc (v := (k4 + 1)) (lv' := [(0, .ref 2), (1, .int f), (2, .int (x4_2 + v_2)), (3, .int (k4 + 1))]) K dX3_creditOf_24 3 rfl rfl [1, 2, 3, 0] rfl (by decide) ?_
      refine aw_goto (tgt := 4) K dX3_creditOf_27 (by decide) ?_
      exact ih4 (by clear hgk hq hQ hmc hms hZ hnm K ih4 G; grind (splits := 30)) _  trivial
  exact L4 0 (by decide) (mx_le _) _  trivial
