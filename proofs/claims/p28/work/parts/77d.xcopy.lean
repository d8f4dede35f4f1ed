theorem TX_vlb {M : Mx} {n : Int32} (h : TX M) (hn : 0 ≤ n ∧ n ≤ 40) : TX (vlb M 1 n) := (vX_1_6 (uX_1_5 (uX_33_1 (vX_33_0 (uX_28_1 (gX_29 (gX_27 (gX_26 (vX_19_3 (gX_25 (gX_24 (gX_23 (gX_22 (gX_21 (uX_19_0 (gX_16 (uX_12_2 (uX_12_1 (uX_12_0 (gX_9 (gX_7 (gX_11 (gX_10 (gX_8 (gX_6 (gX_5 (gX_4 (gX_3 (vX_2_6 (vX_2_5 (vX_2_4 (vX_2_3 (vX_2_2 (vX_2_1 h))))))))))))))) hn.1 hn.2) (by decide) (by decide)) (by decide) (by decide))) (by decide) (by decide)) (by decide) (by decide)) (by decide) (by decide)) (by decide) (by decide)) (by decide) (by decide)))) (by decide) (by decide)) (by decide) (by decide))) (by decide) (by decide))) (by decide) (by decide)) (by decide) (by decide)))
theorem TX_rpc1 {M : Mx} (h : TX M) : TX (rpc M (1 + 11) (38 + 11)) := (cX_55_18 (cX_54_17 (cX_53_16 (cX_52_15 (cX_51_14 (cX_50_13 (uX_12_2 (uX_12_1 (uX_12_0 h (tX_49_0 h).1 (tX_49_0 h).2) (tX_49_1 h).1 (tX_49_1 h).2) (tX_49_2 h).1 (tX_49_2 h).2)))))))
theorem TX_fkc1 {M : Mx} (h : TX M) : TX (fkc M (1 + 18) (38 + 18)) := (cX_64_27 (cX_63_26 (vX_19_3 (cX_62_25 (cX_61_24 (cX_60_23 (cX_59_22 (cX_58_21 (uX_19_0 h (tX_56_0 h).1 (tX_56_0 h).2)))))))))
theorem TX_rsc1 {M : Mx} (h : TX M) : TX (rsc M (1 + 27) (38 + 27)) := (cX_69_32 (cX_68_31 (cX_67_30 (uX_28_1 (cX_66_29 h) (tX_65_1 (cX_66_29 h)).1 (tX_65_1 (cX_66_29 h)).2))))
theorem TX_lwc1 {M : Mx} (h : TX M) : TX (lwc M (1 + 32) (38 + 32)) := (cX_71_34 (uX_33_1 (vX_33_0 h) (tX_70_1 h).1 (tX_70_1 h).2))
theorem TX_vlc1 {M : Mx} (h : TX M) : TX (vlc M 1 38) := (vX_1_6 (uX_1_5 (TX_lwc1 (TX_rsc1 (TX_fkc1 (TX_rpc1 (TX_mvc (k := 1 + 1) (k2 := 38 + 1) h (by decide)))))) (tX_38_5 (TX_lwc1 (TX_rsc1 (TX_fkc1 (TX_rpc1 (TX_mvc (k := 1 + 1) (k2 := 38 + 1) h (by decide))))))).1 (tX_38_5 (TX_lwc1 (TX_rsc1 (TX_fkc1 (TX_rpc1 (TX_mvc (k := 1 + 1) (k2 := 38 + 1) h (by decide))))))).2))
theorem TX_rpc2 {M : Mx} (h : TX M) : TX (rpc M (38 + 11) (1 + 11)) := (cX_18_55 (cX_17_54 (cX_16_53 (cX_15_52 (cX_14_51 (cX_13_50 (uX_49_2 (uX_49_1 (uX_49_0 h (tX_12_0 h).1 (tX_12_0 h).2) (tX_12_1 h).1 (tX_12_1 h).2) (tX_12_2 h).1 (tX_12_2 h).2)))))))
theorem TX_fkc2 {M : Mx} (h : TX M) : TX (fkc M (38 + 18) (1 + 18)) := (cX_27_64 (cX_26_63 (vX_56_3 (cX_25_62 (cX_24_61 (cX_23_60 (cX_22_59 (cX_21_58 (uX_56_0 h (tX_19_0 h).1 (tX_19_0 h).2)))))))))
theorem TX_rsc2 {M : Mx} (h : TX M) : TX (rsc M (38 + 27) (1 + 27)) := (cX_32_69 (cX_31_68 (cX_30_67 (uX_65_1 (cX_29_66 h) (tX_28_1 (cX_29_66 h)).1 (tX_28_1 (cX_29_66 h)).2))))
theorem TX_lwc2 {M : Mx} (h : TX M) : TX (lwc M (38 + 32) (1 + 32)) := (cX_34_71 (uX_70_1 (vX_70_0 h) (tX_33_1 h).1 (tX_33_1 h).2))
theorem TX_vlc2 {M : Mx} (h : TX M) : TX (vlc M 38 1) := (vX_38_6 (uX_38_5 (TX_lwc2 (TX_rsc2 (TX_fkc2 (TX_rpc2 (TX_mvc (k := 38 + 1) (k2 := 1 + 1) h (by decide)))))) (tX_1_5 (TX_lwc2 (TX_rsc2 (TX_fkc2 (TX_rpc2 (TX_mvc (k := 38 + 1) (k2 := 1 + 1) h (by decide))))))).1 (tX_1_5 (TX_lwc2 (TX_rsc2 (TX_fkc2 (TX_rpc2 (TX_mvc (k := 38 + 1) (k2 := 1 + 1) h (by decide))))))).2))

theorem up_oX {M : Mx} {a b : Nat} {j i x : Int32} (h : b ≠ a) : (up M a j x).1 b i = M.1 b i := by simp [up, h]
theorem up_aX {M : Mx} {a : Nat} {j x : Int32} : (up M a j x).1 a j = x := by simp [up]
theorem up_nX {M : Mx} {a : Nat} {j i x : Int32} (h : ¬ i = j) : (up M a j x).1 a i = M.1 a i := by simp [up, h]
theorem cpy_aX {M : Mx} {c a : Nat} {n i : Int32} (h0 : 0 ≤ i) (h1 : i < n) : (cpy M c a n).1 a i = M.1 c i := by simp [cpy, h0, h1]
theorem fil_oX {M : Mx} {a b : Nat} {n x i : Int32} (h : b ≠ a) : (fil M a n x).1 b i = M.1 b i := by simp [fil, h]
theorem cpy_oX {M : Mx} {a c b : Nat} {n i : Int32} (h : b ≠ a) : (cpy M c a n).1 b i = M.1 b i := by simp [cpy, h]
theorem fil_aX {M : Mx} {a : Nat} {n x i : Int32} (h0 : 0 ≤ i) (h1 : i < n) : (fil M a n x).1 a i = x := by simp [fil, h0, h1]
theorem vlb_oX {M : Mx} {k a : Nat} {n j : Int32} (h : a < k ∨ k + 36 < a) : (vlb M k n).1 a j = M.1 a j := by
  simp only [vlb, lwb, rsb, fkb, rpb, mvz]
  repeat (first | rw [up_oX (by omega)] | rw [fil_oX (by omega)])
theorem vlc_oX {M : Mx} {k k2 a : Nat} {j : Int32} (h : a < k ∨ k + 36 < a) : (vlc M k k2).1 a j = M.1 a j := by
  simp only [vlc, lwc, rsc, fkc, rpc]
  repeat (first | rw [up_oX (by omega)] | rw [cpy_oX (by omega)])
  exact mvc_o (by omega)

/-- what is watched of the valley -/
def isV (c : Nat) (j : Int32) : Prop := (c = 12 ∧ j = 0) ∨ (c = 12 ∧ j = 1) ∨ (c = 12 ∧ j = 2) ∨ (c = 19 ∧ j = 0) ∨ (c = 19 ∧ j = 3) ∨ (c = 28 ∧ j = 1) ∨ (c = 13 ∧ 0 ≤ j ∧ j < 10) ∨ (c = 21 ∧ 0 ≤ j ∧ j < 9) ∨ (c = 23 ∧ 0 ≤ j ∧ j < 9) ∨ (c = 25 ∧ 0 ≤ j ∧ j < 9) ∨ (c = 26 ∧ 0 ≤ j ∧ j < 9) ∨ (c = 27 ∧ 0 ≤ j ∧ j < 9) ∨ (c = 30 ∧ 0 ≤ j ∧ j < 30) ∨ (c = 31 ∧ 0 ≤ j ∧ j < 30) ∨ (c = 32 ∧ 0 ≤ j ∧ j < 30)
theorem vlc_v {M : Mx} {c : Nat} {j : Int32} (h : isV c j) : (vlc M 38 1).1 (c + 37) j = M.1 c j := by
  unfold isV at h
  unfold vlc lwc rsc fkc rpc
  rcases h with ⟨rfl, rfl⟩ | ⟨rfl, rfl⟩ | ⟨rfl, rfl⟩ | ⟨rfl, rfl⟩ | ⟨rfl, rfl⟩ | ⟨rfl, rfl⟩ | ⟨rfl, h0, h1⟩ | ⟨rfl, h0, h1⟩ | ⟨rfl, h0, h1⟩ | ⟨rfl, h0, h1⟩ | ⟨rfl, h0, h1⟩ | ⟨rfl, h0, h1⟩ | ⟨rfl, h0, h1⟩ | ⟨rfl, h0, h1⟩ | ⟨rfl, h0, h1⟩
  all_goals (
    simp only [Nat.reduceAdd]
    repeat (first | rw [up_oX (by decide)] | rw [cpy_oX (by decide)] | rw [up_nX (by decide)] | rw [up_aX] | rw [cpy_aX (by assumption) (by assumption)])
    exact mvc_o (by decide))
theorem vlc_b {M : Mx} {c : Nat} {j : Int32} (h : isV c j) : (vlc M 1 38).1 c j = M.1 (c + 37) j := by
  unfold isV at h
  unfold vlc lwc rsc fkc rpc
  rcases h with ⟨rfl, rfl⟩ | ⟨rfl, rfl⟩ | ⟨rfl, rfl⟩ | ⟨rfl, rfl⟩ | ⟨rfl, rfl⟩ | ⟨rfl, rfl⟩ | ⟨rfl, h0, h1⟩ | ⟨rfl, h0, h1⟩ | ⟨rfl, h0, h1⟩ | ⟨rfl, h0, h1⟩ | ⟨rfl, h0, h1⟩ | ⟨rfl, h0, h1⟩ | ⟨rfl, h0, h1⟩ | ⟨rfl, h0, h1⟩ | ⟨rfl, h0, h1⟩
  all_goals (
    simp only [Nat.reduceAdd]
    repeat (first | rw [up_oX (by decide)] | rw [cpy_oX (by decide)] | rw [up_nX (by decide)] | rw [up_aX] | rw [cpy_aX (by assumption) (by assumption)])
    exact mvc_o (by decide))
theorem isV_lt {c : Nat} {j : Int32} (h : isV c j) : 12 ≤ c ∧ c ≤ 32 := by
  unfold isV at h
  omega
theorem isV_a {c : Nat} {j : Int32} (h : isV c j) : aXz c j = true ∧ aXz (c + 37) j = true := by
  unfold isV at h
  rcases h with ⟨rfl, rfl⟩ | ⟨rfl, rfl⟩ | ⟨rfl, rfl⟩ | ⟨rfl, rfl⟩ | ⟨rfl, rfl⟩ | ⟨rfl, rfl⟩ | ⟨rfl, h0, h1⟩ | ⟨rfl, h0, h1⟩ | ⟨rfl, h0, h1⟩ | ⟨rfl, h0, h1⟩ | ⟨rfl, h0, h1⟩ | ⟨rfl, h0, h1⟩ | ⟨rfl, h0, h1⟩ | ⟨rfl, h0, h1⟩ | ⟨rfl, h0, h1⟩ <;> simp [aXz, aX]
theorem vlb_v {M : Mx} {n : Int32} : (vlb M 1 n).1 12 0 = n ∧ (vlb M 1 n).1 12 1 = 0 ∧ (vlb M 1 n).1 12 2 = 0 ∧ (vlb M 1 n).1 19 0 = 0 ∧ (vlb M 1 n).1 19 3 = 0 ∧ (vlb M 1 n).1 28 1 = 0 := by
  unfold vlb lwb rsb fkb rpb
  simp only [Nat.reduceAdd]
  refine ⟨?_, ?_, ?_, ?_, ?_, ?_⟩ <;> (repeat (first | rw [up_oX (by decide)] | rw [fil_oX (by decide)] | rw [up_nX (by decide)] | rw [up_aX]))
theorem vlb_l {M : Mx} {n j : Int32} (h0 : 0 ≤ j) (h1 : j < 9) : (vlb M 1 n).1 26 j = 61 ∧ (vlb M 1 n).1 27 j = 0 := by
  unfold vlb lwb rsb fkb rpb
  simp only [Nat.reduceAdd]
  refine ⟨?_, ?_⟩ <;> (repeat (first | rw [up_oX (by decide)] | rw [fil_oX (by decide)] | rw [fil_aX h0 h1]))
theorem vlb_f {M : Mx} {n j : Int32} (h0 : 0 ≤ j) (h1 : j < 9) : (vlb M 1 n).1 25 j = 0 := by
  unfold vlb lwb rsb fkb rpb
  simp only [Nat.reduceAdd]
  repeat (first | rw [up_oX (by decide)] | rw [fil_oX (by decide)] | rw [fil_aX h0 h1])
theorem SXn_vlb {M N : Mx} {n : Int32} (h : SXn N M) : SXn N (vlb M 1 n) := fun a j q => by
  rw [vlb_oX (by
    simp only [aXn, Bool.or_eq_true, Bool.and_eq_true, decide_eq_true_eq] at q
    omega)]
  exact h a j q
theorem SXi_vlc {M N : Mx} {k k2 : Nat} (hk : k = 1 ∨ k = 38) (h : SXi N M) : SXi N (vlc M k k2) := fun a j q => by
  rw [vlc_oX (by
    simp only [aXi, Bool.or_eq_true, Bool.and_eq_true, decide_eq_true_eq] at q
    omega)]
  exact h a j q
/-- what an image does -/
def PI (M M' : Mx) (t r : Int32) : Prop := (¬ t = 0 ∧ r = 1 ∧ M'.1 0 2 = 1 ∧ (∀ c j, isV c j → M'.1 (c + 37) j = M.1 c j) ∧ ∀ c j, isV c j → M'.1 c j = M.1 c j) ∨ (t = 0 ∧ M.1 0 2 = 0 ∧ r = 0 ∧ M' = M) ∨ (t = 0 ∧ ¬ M.1 0 2 = 0 ∧ r = 1 ∧ M'.1 0 2 = M.1 0 2 ∧ (∀ c j, isV c j → M'.1 c j = M.1 (c + 37) j) ∧ ∀ c j, isV c j → M'.1 (c + 37) j = M.1 (c + 37) j)
theorem pi_t {M : Mx} {t : Int32} (ht : ¬ t = 0) : PI M (up (vlc M 38 1) 0 2 1) t 1 := Or.inl ⟨ht, rfl, up_aX, fun c j h => by
  rw [up_oX (by omega)]
  exact vlc_v h, fun c j h => by
  have q := isV_lt h
  rw [up_oX (by omega), vlc_oX (by omega)]⟩
theorem pi_n {M : Mx} {t : Int32} (ht : t = 0) (h0 : M.1 0 2 = 0) : PI M M t 0 := Or.inr (Or.inl ⟨ht, h0, rfl, rfl⟩)
theorem pi_b {M N : Mx} {t : Int32} (ht : t = 0) (h0 : ¬ M.1 0 2 = 0) (hS : SXz (vlc M 1 38) N) : PI M N t 1 := Or.inr (Or.inr ⟨ht, h0, rfl, by
  rw [hS 0 2 (by decide), vlc_oX (by omega)], fun c j h => by
  rw [hS c j (isV_a h).1]
  exact vlc_b h, fun c j h => by
  have q := isV_lt h
  rw [hS (c + 37) j (isV_a h).2, vlc_oX (by omega)]⟩)

theorem vlc_mo {M : Mx} {k k2 a : Nat} {j : Int32} (h1 : k + 1 ≤ a) (h2 : a ≤ k + 10) : (vlc M k k2).1 a j = (mvc M (k + 1) (k2 + 1)).1 a j := by
  unfold vlc lwc rsc fkc rpc
  repeat (first | rw [up_oX (by omega)] | rw [cpy_oX (by omega)])
theorem vlc_w {M : Mx} {k k2 : Nat} {c : Int} (h : Wat M (k2 + 1) c) (hd : k + 10 < k2 ∨ k2 + 10 < k) : Wat (vlc M k k2) (k + 1) c := by
  refine wv_e h ?_ ?_ ?_ (fun n hn => ?_) (fun n hn => ?_)
  · rw [vlc_mo (by omega) (by omega), mvc_f (by decide)]
  · rw [vlc_mo (by omega) (by omega), mvc_f (by decide)]
  · rw [vlc_mo (by omega) (by omega), mvc_f (by decide)]
  · rw [vlc_mo (by omega) (by omega), mvc_p (by omega) hn]
  · rw [vlc_mo (by omega) (by omega), mvc_d (by omega) hn]
theorem vlc_wo {M : Mx} {k k2 q : Nat} {c : Int} (h : Wat M q c) (hd : q + 3 < k ∨ k + 36 < q) : Wat (vlc M k k2) q c := by
  refine wv_e h ?_ ?_ ?_ (fun n hn => ?_) (fun n hn => ?_) <;> exact vlc_oX (by omega)
theorem vlb_wo {M : Mx} {k q : Nat} {n : Int32} {c : Int} (h : Wat M q c) (hd : q + 3 < k ∨ k + 36 < q) : Wat (vlb M k n) q c := by
  refine wv_e h ?_ ?_ ?_ (fun n hn => ?_) (fun n hn => ?_) <;> exact vlb_oX (by omega)
theorem vlb_f0 {M : Mx} {n f : Int32} (hf : f = 1 ∨ f = 2 ∨ f = 3 ∨ f = 4 ∨ f = 6) : (vlb M 1 n).1 2 f = 0 := by
  unfold vlb lwb rsb fkb rpb mvz
  simp only [Nat.reduceAdd]
  rcases hf with rfl | rfl | rfl | rfl | rfl <;> (repeat (first | rw [up_oX (by decide)] | rw [fil_oX (by decide)] | rw [up_nX (by decide)] | rw [up_aX]))
theorem vlb_w0 {M : Mx} {n : Int32} {c : Int} (hc : 0 ≤ c) : Wat (vlb M 1 n) 2 c := by
  have z : Wv 0 0 0 ((vlb M 1 n).1 3) ((vlb M 1 n).1 5) c := wv_0 hc (fun i hi => by
      have h1 : nI i < 10 := (nI_ltI (b := 10) (by omega) (by decide)).mpr hi
      have h0 : 0 ≤ nI i := (nI_leI (a := 0) (by omega) (by omega)).mpr (by omega)
      unfold vlb lwb rsb fkb rpb mvz
      simp only [Nat.reduceAdd]
      repeat (first | rw [up_oX (by decide)] | rw [fil_oX (by decide)] | rw [fil_aX h0 h1])) (fun i hi => by
      have h1 : nI i < 9 := (nI_ltI (b := 9) (by omega) (by decide)).mpr hi
      have h0 : 0 ≤ nI i := (nI_leI (a := 0) (by omega) (by omega)).mpr (by omega)
      unfold vlb lwb rsb fkb rpb mvz
      simp only [Nat.reduceAdd]
      repeat (first | rw [up_oX (by decide)] | rw [fil_oX (by decide)] | rw [fil_aX h0 h1]))
  exact wv_e z (vlb_f0 (by decide)) (vlb_f0 (by decide)) (vlb_f0 (by decide)) (fun _ _ => rfl) (fun _ _ => rfl)
/-- no two buckets at one notch, of a Rope -/
def Dsk (M : Mx) (k : Nat) : Prop := (∀ a b : Nat, a < b → b < 10 → nI b < M.1 k 1 → ¬ M.1 (k + 1) (nI a) = M.1 (k + 1) (nI b)) ∧ ∀ a : Nat, a < 10 → nI a < M.1 k 1 → 0 ≤ M.1 (k + 1) (nI a) ∧ M.1 (k + 1) (nI a) < M.1 k 0
theorem dsk_e {M N : Mx} {k k2 : Nat} (h : Dsk M k) (e0 : N.1 k2 0 = M.1 k 0) (e1 : N.1 k2 1 = M.1 k 1) (e : ∀ n : Nat, n < 10 → N.1 (k2 + 1) (nI n) = M.1 (k + 1) (nI n)) : Dsk N k2 := by
  obtain ⟨h1, h2⟩ := h
  refine ⟨fun a b hab hb hn => ?_, fun a ha hn => ?_⟩
  · rw [e1] at hn
    rw [e a (by omega), e b hb]
    exact h1 a b hab hb hn
  · rw [e1] at hn
    rw [e a ha, e0]
    exact h2 a ha hn
theorem dsk_0 {M : Mx} {k : Nat} (h : M.1 k 1 = 0) : Dsk M k := by
  have z : ∀ b : Nat, b < 10 → ¬ nI b < M.1 k 1 := fun b hb q => by
    rw [h] at q
    have := (nI_ltI (a := b) (b := 0) (by omega) (by omega)).mp q
    omega
  exact ⟨fun a b _ hb hn => absurd hn (z b hb), fun a ha hn => absurd hn (z a ha)⟩
theorem wv_c {L T U : Int32} {P D : Int32 → Int32} {c : Int} (h : Wv L T U P D c) : 0 ≤ c := by
  obtain ⟨⟨a1, a2, a3, a4⟩, h2, h3, h4, h5⟩ := h
  have p0 := sm_nn h2
  have d0 := sm_nn h3
  omega
/-- the water of all, and the notches -/
def PW (M : Mx) (c : Int) : Prop := PWx M c ∧ Wat M 39 c ∧ Dsk M 12 ∧ Dsk M 49
theorem pW_mono {M : Mx} {c c' : Int} (h : PW M c) (hc : c ≤ c') : PW M c' := ⟨pw_mono h.1 hc, wk_mono h.2.1 hc, h.2.2⟩
theorem v13 {n : Nat} (hn : n < 10) : 0 ≤ nI n ∧ nI n < 10 := ⟨(nI_leI (a := 0) (by omega) (by omega)).mpr (by omega), (nI_ltI (b := 10) (by omega) (by decide)).mpr hn⟩

theorem pw_X {M N : Mx} {c : Int} (s : SX M N) (h : PWx M c) : PWx N c := ⟨wk_S h.1 (s 2 1 (by decide)) (s 2 2 (by decide)) (s 2 6 (by decide)) (fun j => s 3 j (by simp [aX, aX])) (fun j => s 5 j (by simp [aX, aX])), fun n hn => by
  rcases (show n = 0 ∨ n = 1 ∨ n = 2 ∨ n = 3 ∨ n = 4 ∨ n = 5 ∨ n = 6 ∨ n = 7 by omega) with rfl | rfl | rfl | rfl | rfl | rfl | rfl | rfl <;> exact wv_e (h.2 _ hn) (s _ 1 (by decide)) (s _ 2 (by decide)) (s _ 6 (by decide)) (fun m _ => s _ _ (by simp [aX])) (fun m _ => s _ _ (by simp [aX]))⟩

theorem pw_Xz {M N : Mx} {c : Int} (s : SXz M N) (h : PWx M c) : PWx N c := ⟨wk_S h.1 (s 2 1 (by decide)) (s 2 2 (by decide)) (s 2 6 (by decide)) (fun j => s 3 j (by simp [aX, aXz])) (fun j => s 5 j (by simp [aX, aXz])), fun n hn => by
  rcases (show n = 0 ∨ n = 1 ∨ n = 2 ∨ n = 3 ∨ n = 4 ∨ n = 5 ∨ n = 6 ∨ n = 7 by omega) with rfl | rfl | rfl | rfl | rfl | rfl | rfl | rfl <;> exact wv_e (h.2 _ hn) (s _ 1 (by decide)) (s _ 2 (by decide)) (s _ 6 (by decide)) (fun m _ => s _ _ (by simp [aX, aXz])) (fun m _ => s _ _ (by simp [aX, aXz]))⟩

theorem pWr_Xz {M N : Mx} {c : Int} (s : SXz M N) (h : PW M c) : Wat N 39 c ∧ Dsk N 12 ∧ Dsk N 49 := ⟨wv_e h.2.1 (s 39 1 (by decide)) (s 39 2 (by decide)) (s 39 6 (by decide)) (fun m _ => s 40 _ (by simp [aX, aXz])) (fun m _ => s 42 _ (by simp [aX, aXz])), dsk_e h.2.2.1 (s 12 0 (by decide)) (s 12 1 (by decide)) (fun n _ => s 13 _ (by simp [aX, aXz])), dsk_e h.2.2.2 (s 49 0 (by decide)) (s 49 1 (by decide)) (fun n _ => s 50 _ (by simp [aX, aXz]))⟩
theorem pW_Xz {M N : Mx} {c : Int} (s : SXz M N) (h : PW M c) : PW N c := ⟨pw_Xz s h.1, pWr_Xz s h⟩

theorem pW_v {M : Mx} {n c : Int32} {x : Int} (h : PW M x) : PW (vlb M 1 n) x := by
  obtain ⟨h1, h2, h3, h4⟩ := h
  refine ⟨⟨vlb_w0 (wv_c h1.1), fun m hm => vlb_wo (h1.2 m hm) (by omega)⟩, vlb_wo h2 (by omega), dsk_0 vlb_v.2.1, dsk_e h4 (vlb_oX (by omega)) (vlb_oX (by omega)) (fun _ _ => vlb_oX (by omega))⟩
theorem pW_t {M : Mx} {c : Int} (h : PW M c) : PW (up (vlc M 38 1) 0 2 1) c := by
  obtain ⟨h1, h2, h3, h4⟩ := h
  have k : PW (vlc M 38 1) c := by
    refine ⟨⟨vlc_wo h1.1 (by omega), fun m hm => vlc_wo (h1.2 m hm) (by omega)⟩, vlc_w (k := 38) (k2 := 1) h1.1 (by omega), dsk_e h3 (vlc_oX (by omega)) (vlc_oX (by omega)) (fun _ _ => vlc_oX (by omega)), dsk_e (k2 := 49) h3 (vlc_v (c := 12) (j := 0) (by simp [isV])) (vlc_v (c := 12) (j := 1) (by simp [isV])) (fun n hn => vlc_v (c := 13) (j := nI n) ?_)⟩
    have q := v13 hn
    unfold isV
    simp [q.1, q.2]
  exact ⟨⟨wv_e k.1.1 (up_oX (by omega)) (up_oX (by omega)) (up_oX (by omega)) (fun _ _ => up_oX (by omega)) (fun _ _ => up_oX (by omega)), fun m hm => wv_e (k.1.2 m hm) (up_oX (by omega)) (up_oX (by omega)) (up_oX (by omega)) (fun _ _ => up_oX (by omega)) (fun _ _ => up_oX (by omega))⟩, wv_e k.2.1 (up_oX (by omega)) (up_oX (by omega)) (up_oX (by omega)) (fun _ _ => up_oX (by omega)) (fun _ _ => up_oX (by omega)), dsk_e k.2.2.1 (up_oX (by omega)) (up_oX (by omega)) (fun _ _ => up_oX (by omega)), dsk_e k.2.2.2 (up_oX (by omega)) (up_oX (by omega)) (fun _ _ => up_oX (by omega))⟩
theorem pW_b {M N : Mx} {c : Int} (s : SXz (vlc M 1 38) N) (h : PW M c) : PW N c := by
  refine pW_Xz s ?_
  obtain ⟨h1, h2, h3, h4⟩ := h
  refine ⟨⟨vlc_w (k := 1) (k2 := 38) h2 (by omega), fun m hm => vlc_wo (h1.2 m hm) (by omega)⟩, vlc_wo h2 (by omega), dsk_e (k := 49) (k2 := 12) h4 (vlc_b (c := 12) (j := 0) (by simp [isV])) (vlc_b (c := 12) (j := 1) (by simp [isV])) (fun n hn => vlc_b (c := 13) (j := nI n) ?_), dsk_e h4 (vlc_oX (by omega)) (vlc_oX (by omega)) (fun _ _ => vlc_oX (by omega))⟩
  have q := v13 hn
  unfold isV
  simp [q.1, q.2]
