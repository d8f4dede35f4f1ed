theorem TX_vlb {M : Mx} {n : Int32} (h : TX M) (hn : 0 ≤ n ∧ n ≤ 40) : TX (vlb M 1 n) := (vX_1_6 (vX_1_5 (uX_33_1 (vX_33_0 (uX_28_1 (gX_29 (gX_27 (gX_26 (vX_19_3 (gX_25 (gX_24 (gX_23 (gX_22 (gX_21 (uX_19_0 (gX_16 (uX_12_2 (uX_12_1 (uX_12_0 (gX_9 (gX_7 (gX_11 (gX_10 (gX_8 (gX_6 (gX_5 (gX_4 (gX_3 (vX_2_6 (vX_2_5 (vX_2_4 (vX_2_3 (vX_2_2 (vX_2_1 h))))))))))))))) hn.1 hn.2) (by decide) (by decide)) (by decide) (by decide))) (by decide) (by decide))))))))))) (by decide) (by decide))) (by decide) (by decide))))
theorem TX_rpc1 {M : Mx} (h : TX M) : TX (rpc M (1 + 11) (38 + 11)) := (cX_55_18 (cX_54_17 (cX_53_16 (cX_52_15 (cX_51_14 (cX_50_13 (uX_12_2 (uX_12_1 (uX_12_0 h (tX_49_0 h).1 (tX_49_0 h).2) (tX_49_1 h).1 (tX_49_1 h).2) (tX_49_2 h).1 (tX_49_2 h).2)))))))
theorem TX_fkc1 {M : Mx} (h : TX M) : TX (fkc M (1 + 18) (38 + 18)) := (cX_64_27 (cX_63_26 (vX_19_3 (cX_62_25 (cX_61_24 (cX_60_23 (cX_59_22 (cX_58_21 (uX_19_0 h (tX_56_0 h).1 (tX_56_0 h).2)))))))))
theorem TX_rsc1 {M : Mx} (h : TX M) : TX (rsc M (1 + 27) (38 + 27)) := (cX_69_32 (cX_68_31 (cX_67_30 (uX_28_1 (cX_66_29 h) (tX_65_1 (cX_66_29 h)).1 (tX_65_1 (cX_66_29 h)).2))))
theorem TX_lwc1 {M : Mx} (h : TX M) : TX (lwc M (1 + 32) (38 + 32)) := (cX_71_34 (uX_33_1 (vX_33_0 h) (tX_70_1 h).1 (tX_70_1 h).2))
theorem TX_vlc1 {M : Mx} (h : TX M) : TX (vlc M 1 38) := (vX_1_6 (vX_1_5 (TX_lwc1 (TX_rsc1 (TX_fkc1 (TX_rpc1 (TX_mvc (k := 1 + 1) (k2 := 38 + 1) h (by decide))))))))
theorem TX_rpc2 {M : Mx} (h : TX M) : TX (rpc M (38 + 11) (1 + 11)) := (cX_18_55 (cX_17_54 (cX_16_53 (cX_15_52 (cX_14_51 (cX_13_50 (uX_49_2 (uX_49_1 (uX_49_0 h (tX_12_0 h).1 (tX_12_0 h).2) (tX_12_1 h).1 (tX_12_1 h).2) (tX_12_2 h).1 (tX_12_2 h).2)))))))
theorem TX_fkc2 {M : Mx} (h : TX M) : TX (fkc M (38 + 18) (1 + 18)) := (cX_27_64 (cX_26_63 (vX_56_3 (cX_25_62 (cX_24_61 (cX_23_60 (cX_22_59 (cX_21_58 (uX_56_0 h (tX_19_0 h).1 (tX_19_0 h).2)))))))))
theorem TX_rsc2 {M : Mx} (h : TX M) : TX (rsc M (38 + 27) (1 + 27)) := (cX_32_69 (cX_31_68 (cX_30_67 (uX_65_1 (cX_29_66 h) (tX_28_1 (cX_29_66 h)).1 (tX_28_1 (cX_29_66 h)).2))))
theorem TX_lwc2 {M : Mx} (h : TX M) : TX (lwc M (38 + 32) (1 + 32)) := (cX_34_71 (uX_70_1 (vX_70_0 h) (tX_33_1 h).1 (tX_33_1 h).2))
theorem TX_vlc2 {M : Mx} (h : TX M) : TX (vlc M 38 1) := (vX_38_6 (vX_38_5 (TX_lwc2 (TX_rsc2 (TX_fkc2 (TX_rpc2 (TX_mvc (k := 38 + 1) (k2 := 1 + 1) h (by decide))))))))

theorem up_oX {M : Mx} {a b : Nat} {j i x : Int32} (h : b ≠ a) : (up M a j x).1 b i = M.1 b i := by simp [up, h]
theorem up_aX {M : Mx} {a : Nat} {j x : Int32} : (up M a j x).1 a j = x := by simp [up]
theorem up_nX {M : Mx} {a : Nat} {j i x : Int32} (h : ¬ i = j) : (up M a j x).1 a i = M.1 a i := by simp [up, h]
theorem cpy_aX {M : Mx} {c a : Nat} {n i : Int32} (h0 : 0 ≤ i) (h1 : i < n) : (cpy M c a n).1 a i = M.1 c i := by simp [cpy, h0, h1]
theorem fil_oX {M : Mx} {a b : Nat} {n x i : Int32} (h : b ≠ a) : (fil M a n x).1 b i = M.1 b i := by simp [fil, h]
theorem cpy_oX {M : Mx} {a c b : Nat} {n i : Int32} (h : b ≠ a) : (cpy M c a n).1 b i = M.1 b i := by simp [cpy, h]
theorem vlb_oX {M : Mx} {k a : Nat} {n j : Int32} (h : a < k ∨ k + 36 < a) : (vlb M k n).1 a j = M.1 a j := by
  simp only [vlb, lwb, rsb, fkb, rpb, mvz]
  repeat (first | rw [up_oX (by omega)] | rw [fil_oX (by omega)])
theorem vlc_oX {M : Mx} {k k2 a : Nat} {j : Int32} (h : a < k ∨ k + 36 < a) : (vlc M k k2).1 a j = M.1 a j := by
  simp only [vlc, lwc, rsc, fkc, rpc]
  repeat (first | rw [up_oX (by omega)] | rw [cpy_oX (by omega)])
  exact mvc_o (by omega)

/-- what is watched of the valley -/
def isV (c : Nat) (j : Int32) : Prop := (c = 12 ∧ j = 0) ∨ (c = 12 ∧ j = 1) ∨ (c = 12 ∧ j = 2) ∨ (c = 19 ∧ j = 0) ∨ (c = 19 ∧ j = 3) ∨ (c = 28 ∧ j = 1) ∨ (c = 13 ∧ 0 ≤ j ∧ j < 10) ∨ (c = 21 ∧ 0 ≤ j ∧ j < 9) ∨ (c = 23 ∧ 0 ≤ j ∧ j < 9) ∨ (c = 25 ∧ 0 ≤ j ∧ j < 9) ∨ (c = 26 ∧ 0 ≤ j ∧ j < 9) ∨ (c = 27 ∧ 0 ≤ j ∧ j < 9) ∨ (c = 30 ∧ 0 ≤ j ∧ j < 30) ∨ (c = 31 ∧ 0 ≤ j ∧ j < 30) ∨ (c = 32 ∧ 0 ≤ j ∧ j < 30)
theorem vlc_v {M : Mx} {c : Nat} {j : Int32} (h : isV c j) : (vlc M 38 1).1 (c + 37) j = M.1 c j := by
  unfold isV at h
  unfold vlc lwc rsc fkc rpc
  rcases h with ⟨rfl, rfl⟩ | ⟨rfl, rfl⟩ | ⟨rfl, rfl⟩ | ⟨rfl, rfl⟩ | ⟨rfl, rfl⟩ | ⟨rfl, rfl⟩ | ⟨rfl, h0, h1⟩ | ⟨rfl, h0, h1⟩ | ⟨rfl, h0, h1⟩ | ⟨rfl, h0, h1⟩ | ⟨rfl, h0, h1⟩ | ⟨rfl, h0, h1⟩ | ⟨rfl, h0, h1⟩ | ⟨rfl, h0, h1⟩ | ⟨rfl, h0, h1⟩
  all_goals (
    simp only [Nat.reduceAdd]
    repeat (first | rw [up_oX (by decide)] | rw [cpy_oX (by decide)] | rw [up_nX (by decide)] | rw [up_aX] | rw [cpy_aX (by assumption) (by assumption)])
    exact mvc_o (by decide))
theorem vlc_b {M : Mx} {c : Nat} {j : Int32} (h : isV c j) : (vlc M 1 38).1 c j = M.1 (c + 37) j := by
  unfold isV at h
  unfold vlc lwc rsc fkc rpc
  rcases h with ⟨rfl, rfl⟩ | ⟨rfl, rfl⟩ | ⟨rfl, rfl⟩ | ⟨rfl, rfl⟩ | ⟨rfl, rfl⟩ | ⟨rfl, rfl⟩ | ⟨rfl, h0, h1⟩ | ⟨rfl, h0, h1⟩ | ⟨rfl, h0, h1⟩ | ⟨rfl, h0, h1⟩ | ⟨rfl, h0, h1⟩ | ⟨rfl, h0, h1⟩ | ⟨rfl, h0, h1⟩ | ⟨rfl, h0, h1⟩ | ⟨rfl, h0, h1⟩
  all_goals (
    simp only [Nat.reduceAdd]
    repeat (first | rw [up_oX (by decide)] | rw [cpy_oX (by decide)] | rw [up_nX (by decide)] | rw [up_aX] | rw [cpy_aX (by assumption) (by assumption)])
    exact mvc_o (by decide))
theorem isV_lt {c : Nat} {j : Int32} (h : isV c j) : 12 ≤ c ∧ c ≤ 32 := by
  unfold isV at h
  omega
theorem isV_a {c : Nat} {j : Int32} (h : isV c j) : aX c j = true ∧ aX (c + 37) j = true := by
  unfold isV at h
  rcases h with ⟨rfl, rfl⟩ | ⟨rfl, rfl⟩ | ⟨rfl, rfl⟩ | ⟨rfl, rfl⟩ | ⟨rfl, rfl⟩ | ⟨rfl, rfl⟩ | ⟨rfl, h0, h1⟩ | ⟨rfl, h0, h1⟩ | ⟨rfl, h0, h1⟩ | ⟨rfl, h0, h1⟩ | ⟨rfl, h0, h1⟩ | ⟨rfl, h0, h1⟩ | ⟨rfl, h0, h1⟩ | ⟨rfl, h0, h1⟩ | ⟨rfl, h0, h1⟩ <;> simp [aX]
theorem vlb_v {M : Mx} {n : Int32} : (vlb M 1 n).1 12 0 = n ∧ (vlb M 1 n).1 12 1 = 0 ∧ (vlb M 1 n).1 12 2 = 0 ∧ (vlb M 1 n).1 19 0 = 0 ∧ (vlb M 1 n).1 19 3 = 0 ∧ (vlb M 1 n).1 28 1 = 0 := by
  unfold vlb lwb rsb fkb rpb
  simp only [Nat.reduceAdd]
  refine ⟨?_, ?_, ?_, ?_, ?_, ?_⟩ <;> (repeat (first | rw [up_oX (by decide)] | rw [fil_oX (by decide)] | rw [up_nX (by decide)] | rw [up_aX]))
theorem SXn_vlb {M N : Mx} {n : Int32} (h : SXn N M) : SXn N (vlb M 1 n) := fun a j q => by
  rw [vlb_oX (by
    simp only [aXn, Bool.or_eq_true, Bool.and_eq_true, decide_eq_true_eq] at q
    omega)]
  exact h a j q
theorem SXi_vlc {M N : Mx} {k k2 : Nat} (hk : k = 1 ∨ k = 38) (h : SXi N M) : SXi N (vlc M k k2) := fun a j q => by
  rw [vlc_oX (by
    simp only [aXi, Bool.or_eq_true, Bool.and_eq_true, decide_eq_true_eq] at q
    omega)]
  exact h a j q
/-- what an image does -/
def PI (M M' : Mx) (t r : Int32) : Prop := (¬ t = 0 ∧ r = 1 ∧ M'.1 0 2 = 1 ∧ (∀ c j, isV c j → M'.1 (c + 37) j = M.1 c j) ∧ ∀ c j, isV c j → M'.1 c j = M.1 c j) ∨ (t = 0 ∧ M.1 0 2 = 0 ∧ r = 0 ∧ M' = M) ∨ (t = 0 ∧ ¬ M.1 0 2 = 0 ∧ r = 1 ∧ M'.1 0 2 = M.1 0 2 ∧ (∀ c j, isV c j → M'.1 c j = M.1 (c + 37) j) ∧ ∀ c j, isV c j → M'.1 (c + 37) j = M.1 (c + 37) j)
theorem pi_t {M : Mx} {t : Int32} (ht : ¬ t = 0) : PI M (up (vlc M 38 1) 0 2 1) t 1 := Or.inl ⟨ht, rfl, up_aX, fun c j h => by
  rw [up_oX (by omega)]
  exact vlc_v h, fun c j h => by
  have q := isV_lt h
  rw [up_oX (by omega), vlc_oX (by omega)]⟩
theorem pi_n {M : Mx} {t : Int32} (ht : t = 0) (h0 : M.1 0 2 = 0) : PI M M t 0 := Or.inr (Or.inl ⟨ht, h0, rfl, rfl⟩)
theorem pi_b {M N : Mx} {t : Int32} (ht : t = 0) (h0 : ¬ M.1 0 2 = 0) (hS : SX (vlc M 1 38) N) : PI M N t 1 := Or.inr (Or.inr ⟨ht, h0, rfl, by
  rw [hS 0 2 (by decide), vlc_oX (by omega)], fun c j h => by
  rw [hS c j (isV_a h).1]
  exact vlc_b h, fun c j h => by
  have q := isV_lt h
  rw [hS (c + 37) j (isV_a h).2, vlc_oX (by omega)]⟩)
