/-! CONDITIONS: what waits and what is to come -/
theorem mk_I : ∀ L : List Int32, mrkI L = nI (mk L)
  | [] => rfl
  | x :: L => by
    simp only [mrkI, mk]
    by_cases c : x = 9 ∨ x = 12
    · rw [if_pos c, if_pos c, mk_I L, nI_1]
    · rw [if_neg c, if_neg c, mk_I L]
theorem mk_le : ∀ L : List Int32, mk L ≤ L.length
  | [] => Nat.le_refl _
  | x :: L => by
    have := mk_le L
    simp only [mk, List.length_cons]
    by_cases c : x = 9 ∨ x = 12
    · rw [if_pos c]; omega
    · rw [if_neg c]; omega
theorem aft_pp {C : Nat → Int32} {w : Int32} (hw : ¬ w = 12) : ∀ L : List Int32, aft C (ppl w L) = aft C L
  | [] => rfl
  | x :: L => by
    by_cases c : x = w
    · have e : ppl w (x :: L) = ppl w L := by simp only [ppl]; rw [if_pos c]
      rw [e, aft_pp hw L, aft_o (by rw [c]; exact hw)]
    · have e : ppl w (x :: L) = x :: L := by simp only [ppl]; rw [if_neg c]
      rw [e]
theorem aft_ao {C : Nat → Int32} {N k : Nat} (h : En C N) (hc : C k = -302 ∨ C k = -303) : ∀ L : List Int32, Ad9 L → ¬ L.head? = some 9 → aft C L k = due C L (k + 1)
  | [], _, _ => aft_z0 h hc
  | x :: L, ha, h9 => by
    rcases ha.1 with e | e | e | e
    · exact absurd (by rw [e]; rfl) h9
    · rw [aft_o (by rw [e]; decide), due_o (Or.inl e)]
      exact aft_ao h hc L ha.2.2.2 (ha.2.1 e).2
    · rw [aft_o (by rw [e]; decide), due_o (Or.inr e)]
      exact aft_ao h hc L ha.2.2.2 (ha.2.2.1 e).2.2
    · subst e
      exact aft_z1 h hc
def ANY (C : Nat → Int32) (k : Nat) : Rz := anyv C (cds C 8) k
def AnF (M N : Mx) (d : Int32) (L : List Int32) : Prop := ∀ b n k, AtM M b n k → ∃ j, AtM N b n j ∧ ANY (tkc b n) k = if d = 1 then due (tkc b n) L j else aft (tkc b n) L j
def AnA (M N : Mx) (b d : Int32) (L : List Int32) : Prop := An M N b d L ∧ AnF M N d L
theorem ana {M N : Mx} {b d : Int32} {L : List Int32} (h : An M N b d L) (f : AnF M N d L) : AnA M N b d L := ⟨h, f⟩
theorem anf_0 {M N : Mx} (q : EqM M N) (f : F4M M N) : AnF M N 1 [] := fun b n k h => ⟨k, at_e q f h, rfl⟩
theorem anf_e {M N N1 : Mx} {d : Int32} {L : List Int32} (h : AnF M N d L) (q : EqM N N1) (f : F4M N N1) : AnF M N1 d L := fun b n k hh => by
  obtain ⟨j, a, e⟩ := h b n k hh
  exact ⟨j, at_e q f a, e⟩
/-- a not or a bracket -/
def NbM (N : Mx) (w : Int32) : Prop := (w = 9 ∧ N.1 0 33 = 2 ∧ N.1 0 34 = 4) ∨ (w = 12 ∧ N.1 0 33 = 4 ∧ N.1 0 34 = 40)
theorem nb_c {N : Mx} {b : Nat → Int32} {n j : Nat} {w : Int32} (a : AtM N b n j) (h : NbM N w) : (w = 9 ∧ tkc b n j = -304) ∨ (w = 12 ∧ tkc b n j = -40) := by
  rcases h with ⟨h1, h2⟩ | ⟨h1, h2⟩
  · exact Or.inl ⟨h1, (tv_w a.2.2.2 (w := 4) (by decide) (by decide)).mp h2⟩
  · exact Or.inr ⟨h1, (tv_s a.2.2.2 (w := 40) (by decide)).mp h2⟩
theorem nb_n {N : Mx} {b : Nat → Int32} {n j : Nat} (a : AtM N b n j) (h1 : ¬ (N.1 0 33 = 2 ∧ N.1 0 34 = 4)) (h2 : ¬ (N.1 0 33 = 4 ∧ N.1 0 34 = 40)) : ¬ tkc b n j = -304 ∧ ¬ tkc b n j = -40 := ⟨fun z => h1 ((tv_w a.2.2.2 (w := 4) (by decide) (by decide)).mpr z), fun z => h2 ((tv_s a.2.2.2 (w := 40) (by decide)).mpr z)⟩
theorem mk_7 {N : Mx} {L : List Int32} (h : N.1 0 43 = mrkI L) (hl : L.length ≤ 60) (h7 : N.1 0 43 ≤ 7) : mk L < 8 := by
  rw [h, mk_I] at h7
  have := mk_le L
  have := (nI_leI (b := 7) (by omega) (by omega)).mp h7
  omega
theorem mk_8 {N : Mx} {L : List Int32} (h : N.1 0 43 = mrkI L) (hl : L.length ≤ 60) (h8 : N.1 0 43 = 8) : mk L = 8 := by
  rw [h, mk_I] at h8
  have := mk_le L
  exact (nI_eq (b := 8) (by omega) (by omega)).mp h8
theorem anf_push {M N N1 N2 : Mx} {w : Int32} {L : List Int32} (h : AnF M N 1 L) (hm : mk L < 8) (hw : NbM N w) (q1 : EqM N N1) (f1 : F4M N N1) (hr : RdM N1 N2) (q2 : EqM N1 N2) : AnF M N2 1 (w :: L) := fun b n k hh => by
  obtain ⟨j, a, e⟩ := h b n k hh
  refine ⟨j + 1, at_r q2 hr (at_e q1 f1 a), ?_⟩
  rw [e, if_pos rfl, if_pos rfl]
  rcases nb_c a hw with ⟨rfl, g⟩ | ⟨rfl, g⟩
  · exact due_not hm g
  · exact due_br hm g
theorem anf_8 {M N N1 : Mx} {w r : Int32} {L : List Int32} (h : AnF M N 1 L) (hm : mk L = 8) (hw : NbM N w) (he : ErM N N1 3) (hr : r = -1) : RfM M N1 r ANY := fun b n k hh => by
  obtain ⟨j, a, e⟩ := h b n k hh
  rw [e, if_pos rfl, due_8 hm (by
    rcases nb_c a hw with ⟨-, g⟩ | ⟨-, g⟩
    · exact Or.inl g
    · exact Or.inr g)]
  exact ⟨hr, er_a (w := 3) a he (by decide)⟩
theorem anf_c {M N N1 : Mx} {r : Int32} {L : List Int32} (h : AnF M N 1 L) (h1 : ¬ (N.1 0 33 = 2 ∧ N.1 0 34 = 4)) (h2 : ¬ (N.1 0 33 = 4 ∧ N.1 0 34 = 40)) (hc : RfM N N1 r cmr) : (r = -1 → RfM M N1 (-1) ANY) ∧ (¬ r = -1 → ∀ N2, EqM N1 N2 → F4M N1 N2 → AnF M N2 0 (ppl 9 L)) := by
  refine ⟨fun c b n k hh => ?_, fun c N2 q f b n k hh => ?_⟩
  · obtain ⟨j, a, e⟩ := h b n k hh
    obtain ⟨n1, n2⟩ := nb_n a h1 h2
    obtain ⟨e1, i, x, y⟩ := ot_1 (hc b n j a) c
    rw [e, if_pos rfl, due_c n1 n2, x]
    exact ⟨rfl, y⟩
  · obtain ⟨j, a, e⟩ := h b n k hh
    obtain ⟨n1, n2⟩ := nb_n a h1 h2
    obtain ⟨i, x, y⟩ := ot_0 (hc b n j a) c
    refine ⟨i, at_e q f y, ?_⟩
    rw [e, if_pos rfl, due_c n1 n2, x, if_neg (by decide), aft_pp (by decide)]
    rfl
theorem anf_set {M N N1 : Mx} {w : Int32} {L : List Int32} (h : AnF M N 0 L) (hw : ¬ w = 12) (q : EqM N N1) (f : F4M N N1) : AnF M N1 0 (ppl w L) := fun b n k hh => by
  obtain ⟨j, a, e⟩ := h b n k hh
  refine ⟨j, at_e q f a, ?_⟩
  rw [e, if_neg (by decide), if_neg (by decide), aft_pp hw]
/-- an and or an or -/
def AoM (N : Mx) : Prop := N.1 0 33 = 2 ∧ (N.1 0 34 = 3 ∨ N.1 0 34 = 2)
theorem ao_c {N : Mx} {b : Nat → Int32} {n j : Nat} (a : AtM N b n j) : AoM N ↔ (tkc b n j = -302 ∨ tkc b n j = -303) := by
  have w2 := tv_w a.2.2.2 (w := 2) (by decide) (by decide)
  have w3 := tv_w a.2.2.2 (w := 3) (by decide) (by decide)
  constructor
  · rintro ⟨h, g | g⟩
    · exact Or.inr (w3.mp ⟨h, g⟩)
    · exact Or.inl (w2.mp ⟨h, g⟩)
  · rintro (g | g)
    · exact ⟨(w2.mpr g).1, Or.inr (w2.mpr g).2⟩
    · exact ⟨(w3.mpr g).1, Or.inl (w3.mpr g).2⟩
theorem ao_f {N N1 : Mx} (f : F4M N N1) : AoM N1 ↔ AoM N := by
  unfold AoM
  rw [f.2.2.1, f.2.2.2]
theorem f4_t {M N O : Mx} (f : F4M M N) (g : F4M N O) : F4M M O := ⟨g.1.trans f.1, g.2.1.trans f.2.1, g.2.2.1.trans f.2.2.1, g.2.2.2.trans f.2.2.2⟩
theorem eqm_t {M N O : Mx} (f : EqM M N) (g : EqM N O) : EqM M O := ⟨g.1.trans f.1, fun j => (g.2 j).trans (f.2 j)⟩
theorem anf_op {M N0 N N1 N2 : Mx} {w : Int32} {L : List Int32} (h : AnF M N 0 L) (ha : Ad9 L) (h9 : ¬ L.head? = some 9) (hc : AoM N0) (f0 : F4M N0 N) (hw : w = 10 ∨ w = 11) (q1 : EqM N N1) (f1 : F4M N N1) (hr : RdM N1 N2) (q2 : EqM N1 N2) : AnF M N2 1 (w :: L) := fun b n k hh => by
  obtain ⟨j, a, e⟩ := h b n k hh
  refine ⟨j + 1, at_r q2 hr (at_e q1 f1 a), ?_⟩
  rw [e, if_neg (by decide), if_pos rfl, due_o hw]
  exact aft_ao (at_n a) ((ao_c a).mp ((ao_f f0).mpr hc)) L ha h9
theorem an_nl {M0 N : Mx} {b : Int32} {L : List Int32} (h : An M0 N b 0 L) (hb : b = 0) (h10 : ¬ L.head? = some 10) (h11 : ¬ L.head? = some 11) : L = [] := by
  cases L with
  | nil => rfl
  | cons x K =>
    obtain ⟨a1, a2, a3, a4, a5, a6, a7, a8, a9, a10, a11⟩ := h
    rcases a3.1 with rfl | rfl | rfl | rfl
    · exact absurd rfl (a11 rfl)
    · exact absurd rfl h10
    · exact absurd rfl h11
    · have ek : brkI (12 :: K) = brkI K + 1 := by simp [brkI]
      have cK := cnt9 K (Nat.le_of_succ_le a2) a3.2.2.2
      have d1 := cK.2.2.2.1
      have d2 := cK.2.2.2.2.1
      have d3 := cK.2.2.2.2.2.2.2.2.2.1
      rw [ek, hb] at a6
      exact absurd a6 (by grind)
theorem anf_end {M N0 N : Mx} {L : List Int32} (h : AnF M N 0 L) (hL : L = []) (hc : ¬ AoM N0) (f0 : F4M N0 N) : RfM M N 0 ANY := fun b n k hh => by
  obtain ⟨j, a, e⟩ := h b n k hh
  subst hL
  rw [e, if_neg (by decide), aft_0 (at_n a) (fun z => hc ((ao_f f0).mp ((ao_c a).mpr z)))]
  exact ⟨rfl, a⟩
theorem anf_1 {M N0 N N1 : Mx} {r : Int32} {L K : List Int32} (h : AnF M N 0 L) (hL : L = 12 :: K) (hc : ¬ AoM N0) (f0 : F4M N0 N) (hs : ¬ (N.1 0 33 = 4 ∧ N.1 0 34 = 41)) (he : ErM N N1 1) (hr : r = -1) : RfM M N1 r ANY := fun b n k hh => by
  obtain ⟨j, a, e⟩ := h b n k hh
  subst hL
  rw [e, if_neg (by decide), aft_b (at_n a) (fun z => hc ((ao_f f0).mp ((ao_c a).mpr z)))]
  unfold xpt
  rw [if_neg (fun z => hs ((tv_s a.2.2.2 (w := 41) (by decide)).mpr z))]
  exact ⟨hr, er_a (w := 1) a he (by decide)⟩
theorem anf_cl {M N0 N N1 N2 : Mx} {L K : List Int32} (h : AnF M N 0 L) (hL : L = 12 :: K) (hc : ¬ AoM N0) (f0 : F4M N0 N) (hs : N.1 0 33 = 4 ∧ N.1 0 34 = 41) (q1 : EqM N N1) (f1 : F4M N N1) (hr : RdM N1 N2) (q2 : EqM N1 N2) : AnF M N2 0 (ppl 9 K) := fun b n k hh => by
  obtain ⟨j, a, e⟩ := h b n k hh
  subst hL
  refine ⟨j + 1, at_r q2 hr (at_e q1 f1 a), ?_⟩
  rw [e, if_neg (by decide), if_neg (by decide), aft_b (at_n a) (fun z => hc ((ao_f f0).mp ((ao_c a).mpr z)))]
  unfold xpt
  rw [if_pos ((tv_s a.2.2.2 (w := 41) (by decide)).mp hs), aft_pp (by decide)]
  rfl
/-! a text's lines -/
def RtL (M N : Mx) (x : Int32) : Prop := ∀ b n, AtM M b n 0 → ∃ l k, l ≤ 16 ∧ x = nI l ∧ AtM N b n k ∧ rdv (tkc b n) 16 0 0 = rdv (tkc b n) (16 - l) l k
def RtM (M N : Mx) (r : Int32) : Prop := ∀ b n, AtM M b n 0 → (∃ l, rdv (tkc b n) 16 0 0 = .ok l ∧ r = nI l) ∨ (∃ e j, rdv (tkc b n) 16 0 0 = .error (e, j) ∧ r = -1 ∧ ErA N b n e j)
theorem rt_0 {M : Mx} : RtL M M 0 := fun b n h => ⟨0, 0, by omega, rfl, h, rfl⟩
theorem rt_sh {N : Mx} {b : Nat → Int32} {n j : Nat} (a : AtM N b n j) : (N.1 0 33 = 2 ∧ N.1 0 34 = 0) ↔ tkc b n j = -300 := by
  have q := tv_w a.2.2.2 (w := 0) (by decide) (by decide)
  have e : (-300 - 0 : Int32) = -300 := by decide
  rw [e] at q
  exact q
theorem rt_3 {M N N1 : Mx} {x r : Int32} (h : RtL M N x) (hs : N.1 0 33 = 2 ∧ N.1 0 34 = 0) (hx : x = 16) (he : ErM N N1 3) (hr : r = -1) : RtM M N1 r := fun b n hh => by
  obtain ⟨l, k, l16, ex, a, e⟩ := h b n hh
  have el : l = 16 := (nI_eq (b := 16) (by omega) (by omega)).mp (ex.symm.trans hx)
  subst el
  refine Or.inr ⟨3, k, ?_, hr, er_a (w := 3) a he (by decide)⟩
  rw [e]
  show rdv _ 0 16 k = _
  simp only [rdv]
  rw [if_pos ((rt_sh a).mp hs)]
theorem rt_l {M N : Mx} {x : Int32} (h : RtL M N x) (hs : N.1 0 33 = 2 ∧ N.1 0 34 = 0) (hx : ¬ x = 16) : ∀ b n, AtM M b n 0 → ∃ l k, l ≤ 15 ∧ x = nI l ∧ AtM N b n k ∧ rdv (tkc b n) 16 0 0 = bnd (lnv (tkc b n) k) (rdv (tkc b n) (16 - (l + 1)) (l + 1)) := fun b n hh => by
  obtain ⟨l, k, l16, ex, a, e⟩ := h b n hh
  have el : l ≤ 15 := by
    by_cases z : l = 16
    · subst z; exact absurd ex hx
    · omega
  refine ⟨l, k, el, ex, a, ?_⟩
  rw [e, show 16 - l = (16 - (l + 1)) + 1 by omega]
  simp only [rdv]
  rw [if_pos ((rt_sh a).mp hs)]
theorem rdv_l {C : Nat → Int32} : ∀ m l k j, rdv C m l k = .ok j → j ≤ l + m := by
  intro m
  induction m with
  | zero =>
    intro l k j h
    simp only [rdv] at h
    by_cases c : C k = -300
    · rw [if_pos c] at h; cases h
    · rw [if_neg c] at h
      by_cases d : C k = -2
      · rw [if_pos d] at h
        have := Except.ok.inj h
        omega
      · rw [if_neg d] at h; cases h
  | succ m ih =>
    intro l k j h
    simp only [rdv] at h
    by_cases c : C k = -300
    · rw [if_pos c] at h
      obtain ⟨i, h1, h2⟩ := bnd_k h
      have := ih _ _ _ h2
      omega
    · rw [if_neg c] at h
      by_cases d : C k = -2
      · rw [if_pos d] at h
        have := Except.ok.inj h
        omega
      · rw [if_neg d] at h; cases h
/-- one line -/
def LnM (M N : Mx) (r : Int32) : Prop := RfM M N r lnv
theorem rt_s {M N N1 : Mx} {x : Int32} (h : RtL M N x) (hs : N.1 0 33 = 2 ∧ N.1 0 34 = 0) (hx : ¬ x = 16) (hl : LnM N N1 0) : RtL M N1 (x + 1) := fun b n hh => by
  obtain ⟨l, k, l15, ex, a, e⟩ := rt_l h hs hx b n hh
  obtain ⟨j, y, z⟩ := ot_0 (hl b n k a) (by decide)
  refine ⟨l + 1, j, by omega, by rw [ex, nI_1], z, ?_⟩
  rw [e, y]
  rfl
theorem rt_x {M N N1 : Mx} {x r : Int32} (h : RtL M N x) (hs : N.1 0 33 = 2 ∧ N.1 0 34 = 0) (hx : ¬ x = 16) (hl : LnM N N1 r) (hr : r = -1) : RtM M N1 r := fun b n hh => by
  obtain ⟨l, k, l15, ex, a, e⟩ := rt_l h hs hx b n hh
  obtain ⟨e1, j, y, z⟩ := ot_1 (hl b n k a) hr
  refine Or.inr ⟨e1, j, ?_, hr, z⟩
  rw [e, y]
  rfl
theorem rdv_o {C : Nat → Int32} {m l j : Nat} (h : ¬ C j = -300) : rdv C m l j = if C j = -2 then .ok l else .error (1, j) := by
  cases m <;> simp [rdv, h]
theorem rt_e {M N : Mx} {x : Int32} (h : RtL M N x) (hs : ¬ (N.1 0 33 = 2 ∧ N.1 0 34 = 0)) (he : N.1 0 33 = 0) : RtM M N x := fun b n hh => by
  obtain ⟨l, k, l16, ex, a, e⟩ := h b n hh
  refine Or.inl ⟨l, ?_, ex⟩
  rw [e, rdv_o (fun z => hs ((rt_sh a).mpr z)), if_pos ((tv_0 a.2.2.2).mp he)]
theorem rt_f {M N N1 : Mx} {x r : Int32} (h : RtL M N x) (hs : ¬ (N.1 0 33 = 2 ∧ N.1 0 34 = 0)) (he : ¬ N.1 0 33 = 0) (hf : ErM N N1 1) (hr : r = -1) : RtM M N1 r := fun b n hh => by
  obtain ⟨l, k, l16, ex, a, e⟩ := h b n hh
  refine Or.inr ⟨1, k, ?_, hr, er_a (w := 1) a hf (by decide)⟩
  rw [e, rdv_o (fun z => hs ((rt_sh a).mpr z)), if_neg (fun z => he ((tv_0 a.2.2.2).mpr z))]
/-- of a line: the sum is read, then what is behind it -/
def LnJ (M N : Mx) (t : Int32) : Prop := ∀ b n k, AtM M b n k → ∃ j, AtM N b n j ∧ lnv (tkc b n) k = bnd (if t = 1 then anyv (tkc b n) (cds (tkc b n) 8) j else .ok j) (xpt (tkc b n) (-59))
theorem ln_1 {M N1 N2 : Mx} {r : Int32} (hd : RdM M N1) (q1 : EqM M N1) (hs : RfM N1 N2 r smv) (hr : r = -1) : LnM M N2 (-1) := fun b n k hh => by
  have a1 := at_r q1 hd hh
  obtain ⟨e1, j, y, z⟩ := ot_1 (hs b n _ a1) hr
  unfold lnv
  rw [y]
  exact ⟨rfl, z⟩
theorem ln_when {N : Mx} {b : Nat → Int32} {n j : Nat} (a : AtM N b n j) : (N.1 0 33 = 2 ∧ N.1 0 34 = 1) ↔ tkc b n j = -301 := by
  have q := tv_w a.2.2.2 (w := 1) (by decide) (by decide)
  have e : (-300 - 1 : Int32) = -301 := by decide
  rw [e] at q
  exact q
theorem ln_j {M N1 N2 N3 : Mx} {r : Int32} (hd : RdM M N1) (q1 : EqM M N1) (hs : RfM N1 N2 r smv) (hr : ¬ r = -1) (q2 : EqM N2 N3) (f2 : F4M N2 N3) : (¬ (N3.1 0 33 = 2 ∧ N3.1 0 34 = 1) → LnJ M N3 0) ∧ (N3.1 0 33 = 2 ∧ N3.1 0 34 = 1 → ∀ N4, RdM N3 N4 → EqM N3 N4 → LnJ M N4 1) := by
  have key : ∀ b n k, AtM M b n k → ∃ j, AtM N3 b n j ∧ lnv (tkc b n) k = bnd (if tkc b n j = -301 then anyv (tkc b n) (cds (tkc b n) 8) (j + 1) else .ok j) (xpt (tkc b n) (-59)) := fun b n k hh => by
    have a1 := at_r q1 hd hh
    obtain ⟨j, y, z⟩ := ot_0 (hs b n _ a1) hr
    refine ⟨j, at_e q2 f2 z, ?_⟩
    unfold lnv
    rw [y]
    rfl
  refine ⟨fun c b n k hh => ?_, fun c N4 hr4 q4 b n k hh => ?_⟩
  · obtain ⟨j, a, e⟩ := key b n k hh
    refine ⟨j, a, ?_⟩
    rw [e, if_neg (fun z => c ((ln_when a).mpr z)), if_neg (by decide)]
  · obtain ⟨j, a, e⟩ := key b n k hh
    refine ⟨j + 1, at_r q4 hr4 a, ?_⟩
    rw [e, if_pos ((ln_when a).mp c), if_pos rfl]
theorem ln_any {M N4 N5 : Mx} {r : Int32} (h : LnJ M N4 1) (hA : RfM N4 N5 r ANY) : (r = -1 → LnM M N5 (-1)) ∧ (¬ r = -1 → LnJ M N5 0) := by
  refine ⟨fun c b n k hh => ?_, fun c b n k hh => ?_⟩
  · obtain ⟨j, a, e⟩ := h b n k hh
    obtain ⟨e1, i, y, z⟩ := ot_1 (hA b n j a) c
    have y : anyv (tkc b n) (cds (tkc b n) 8) j = .error (e1, i) := y
    rw [e, if_pos rfl, y]
    exact ⟨rfl, z⟩
  · obtain ⟨j, a, e⟩ := h b n k hh
    obtain ⟨i, y, z⟩ := ot_0 (hA b n j a) c
    have y : anyv (tkc b n) (cds (tkc b n) 8) j = .ok i := y
    refine ⟨i, z, ?_⟩
    rw [e, if_pos rfl, y, if_neg (by decide)]
theorem ln_f {M N N1 : Mx} {r : Int32} (h : LnJ M N 0) (hs : ¬ (N.1 0 33 = 4 ∧ N.1 0 34 = 59)) (he : ErM N N1 1) (hr : r = -1) : LnM M N1 r := fun b n k hh => by
  obtain ⟨j, a, e⟩ := h b n k hh
  rw [e, if_neg (by decide)]
  show OtM N1 b n r (xpt (tkc b n) (-59) j)
  unfold xpt
  rw [if_neg (fun z => hs ((tv_s a.2.2.2 (w := 59) (by decide)).mpr z))]
  exact ⟨hr, er_a (w := 1) a he (by decide)⟩
theorem ln_s {M N N1 : Mx} (h : LnJ M N 0) (hs : N.1 0 33 = 4 ∧ N.1 0 34 = 59) (hd : RdM N N1) (q : EqM N N1) : LnM M N1 0 := fun b n k hh => by
  obtain ⟨j, a, e⟩ := h b n k hh
  rw [e, if_neg (by decide)]
  show OtM N1 b n 0 (xpt (tkc b n) (-59) j)
  unfold xpt
  rw [if_pos ((tv_s a.2.2.2 (w := 59) (by decide)).mp hs)]
  exact ⟨rfl, at_r q hd a⟩
theorem lnj_e {M N N1 : Mx} {t : Int32} (h : LnJ M N t) (q : EqM N N1) (f : F4M N N1) : LnJ M N1 t := fun b n k hh => by
  obtain ⟨j, a, e⟩ := h b n k hh
  exact ⟨j, at_e q f a, e⟩
