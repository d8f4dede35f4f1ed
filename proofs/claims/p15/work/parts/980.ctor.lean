/-- from cell n on all is 0 -/
def Zf (M : Mx) (n : Nat) : Prop := ∀ a, n ≤ a → (∀ j, M.1 a j = 0) ∧ ∀ j, M.2 a j = 0
theorem Zf_mono {M : Mx} {n m : Nat} (h : n ≤ m) (hz : Zf M n) : Zf M m := fun a ha => hz a (by omega)
theorem Zf_up {M : Mx} {n a : Nat} {i x : Int32} (h : a < n) (hz : Zf M n) : Zf (up M a i x) n := fun b hb => ⟨fun j => by
  simp only [up]
  rw [if_neg (by omega)]
  exact (hz b hb).1 j, (hz b hb).2⟩

theorem bf0 : fblank [none, some none, some none, none, some none, some none] 6 tyX0 := ⟨rfl, by decide +kernel⟩
theorem bf1 : fblank [none, none, some none, some none, none] 5 tyX1 := ⟨rfl, by decide +kernel⟩
theorem bf2 : fblank [some none, some none, some none] 3 tyX2 := ⟨rfl, by decide +kernel⟩
theorem bf3 : fblank [none, none, none, none, none, none, none, some none, some none, some none, some none, some none, some none, some none, some none, some none] 16 tyX3 := ⟨rfl, by decide +kernel⟩
theorem bf4 : fblank [none, none, some none] 3 tyX4 := ⟨rfl, by decide +kernel⟩
theorem bf5 : fblank [some none, none, none, none, none, some none, none, none] 8 tyX5 := ⟨rfl, by decide +kernel⟩
theorem bf6 : fblank [none, none, none, some none, some none, some none, some none, some none, some none] 9 tyX6 := ⟨rfl, by decide +kernel⟩
theorem bf7 : fblank [some none, none, some none, some none, some none] 5 tyX7 := ⟨rfl, by decide +kernel⟩
theorem bf8 : fblank [none, some none, some none, some none, none, none] 6 tyX8 := ⟨rfl, by decide +kernel⟩
theorem bf9 : fblank [some none, some none, some none, some none, some none, none, none, some none, some none] 9 tyX9 := ⟨rfl, by decide +kernel⟩
theorem bf10 : fblank [none, some none, some none, some none, some none, some none] 6 tyX10 := ⟨rfl, by decide +kernel⟩
theorem bf11 : fblank [some none, some none, none, some none, some none, some none, some none] 7 tyX11 := ⟨rfl, by decide +kernel⟩
theorem bf12 : fblank [none, some none, some none, none, none, none, some none, some none, some none, none, some none, some none, some none, some none, some none, some none, none, some none, some none, none, some none, some none, some none, some none, none, some none, some none, none, none, some none, none, none, none, none, none, some none, none, some none, some none, some none, some none, some none, none, none, some none, none, none, none, none, none, some none, some none, some none, some none, some none, some none, none, none, none, none, none, some none] 62 tyX12 := ⟨rfl, by decide +kernel⟩
def bb_0 : List Sh := List.set ([.inl (3, [none, none, none, none, none, none, none, some none, some none, some none, some none, some none, some none, some none, some none, some none])] ++ [.inr (.inl 10)]) 0 (.inl (3, [none, none, none, none, none, none, none, some (some 1), some none, some none, some none, some none, some none, some none, some none, some none]))
def bb_1 : List Sh := List.set (bb_0 ++ [.inr (.inl 8)]) 0 (.inl (3, [none, none, none, none, none, none, none, some (some 1), some (some 2), some none, some none, some none, some none, some none, some none, some none]))
def bb_2 : List Sh := List.set (bb_1 ++ [.inr (.inl 9)]) 0 (.inl (3, [none, none, none, none, none, none, none, some (some 1), some (some 2), some (some 3), some none, some none, some none, some none, some none, some none]))
def bb_3 : List Sh := List.set (bb_2 ++ [.inr (.inl 9)]) 0 (.inl (3, [none, none, none, none, none, none, none, some (some 1), some (some 2), some (some 3), some (some 4), some none, some none, some none, some none, some none]))
def bb_4 : List Sh := List.set (bb_3 ++ [.inr (.inl 9)]) 0 (.inl (3, [none, none, none, none, none, none, none, some (some 1), some (some 2), some (some 3), some (some 4), some (some 5), some none, some none, some none, some none]))
def bb_5 : List Sh := List.set (bb_4 ++ [.inr (.inl 9)]) 0 (.inl (3, [none, none, none, none, none, none, none, some (some 1), some (some 2), some (some 3), some (some 4), some (some 5), some (some 6), some none, some none, some none]))
def bb_6 : List Sh := List.set (bb_5 ++ [.inr (.inl 9)]) 0 (.inl (3, [none, none, none, none, none, none, none, some (some 1), some (some 2), some (some 3), some (some 4), some (some 5), some (some 6), some (some 7), some none, some none]))
def bb_7 : List Sh := List.set (bb_6 ++ [.inr (.inl 9)]) 0 (.inl (3, [none, none, none, none, none, none, none, some (some 1), some (some 2), some (some 3), some (some 4), some (some 5), some (some 6), some (some 7), some (some 8), some none]))
def bb_8 : List Sh := List.set (bb_7 ++ [.inr (.inl 81)]) 0 (.inl (3, [none, none, none, none, none, none, none, some (some 1), some (some 2), some (some 3), some (some 4), some (some 5), some (some 6), some (some 7), some (some 8), some (some 9)]))
/-- X3_init: its cells -/
def blk3 : List Sh := bb_8
set_option maxHeartbeats 400000 in
set_option maxRecDepth 100000 in
theorem i_X3_init {gk : Gk} {ad : Nat → Nat} {S : List Sh} {k : Nat} (M : Mx) (hS : S.length = k) (hw : WFl S) (h1 : k + 10 < 1000) (hz : Zf M k) : Ct (gk, (ad, WB S k [.inl (3, [none, none, none, none, none, none, none, some none, some none, some none, some none, some none, some none, some none, some none, some none])])) yX3_init cX3_init 1 none 2 9 153 [.ref k] M (Rc gk (ad, WB S k [.inl (3, [none, none, none, none, none, none, none, some none, some none, some none, some none, some none, some none, some none, some none, some none])]) (WB S k blk3) (fun M' => M' = M)) := by
  refine Ct.of (by decide) (Nat.le_of_ble_eq_true rfl) ?_
  intro G hgk hQ hmc hms hZ hnm K
  have hgk : gk = xk G := hgk.symm
  subst hgk
  have hq : ∀ (ad' : Nat → Nat) (M' : Mx), (M' = M) → (∀ a, a < k + 1 → ad' a = ad a) → xQ G (xk G, (ad', WB S k bb_8)) none M' := fun ad' M' h hA => by rw [hQ]; exact ⟨rfl, h, ad', rfl, fun a ha => hA a (by rw [WB_len hS rfl] at ha; exact ha)⟩
  have hA : ∀ a, a < k + 1 → ad a = ad a := fun _ _ => rfl
  show AW G 1 (ad, WB S k [.inl (3, [none, none, none, none, none, none, none, some none, some none, some none, some none, some none, some none, some none, some none, some none])]) 0 0 M 0 [(0, .ref k)] []
  refine aw_aload_n K dX3_init_0 0 rfl rfl ?_
  refine aw_obj K mlX3_3 dX3_init_1 (by decide) (Nat.le_of_ble_eq_true rfl) ?_
  refine aw_aload_n K dX3_init_4 0 rfl rfl ?_
  refine aw_bipush (v := 10) K dX3_init_5 (by decide) ?_
  refine aw_newi (b := 1) (N := 10) K dX3_init_7 (by decide) (by decide) (by decide) hS (by decide +kernel) hw (by decide +kernel) (by omega) (fun j => (hz _ (by omega)).1 j) (by simp [okv]) (by simp [okv]) (by rw [hmc]; decide) (by rw [hms]; decide) (fun ad1 ha1 => ?_)
  have hA := fun (a : Nat) (h : a < k + 1) => (ha1 a (by omega)).trans (hA a h)
  refine aw_putr (fl := [none, none, none, none, none, none, none, some none, some none, some none, some none, some none, some none, some none, some none, some none]) (c := 0) (e := 1) (j := 7) (ty := .array .int) (B' := bb_0) K cf3 flX3_9 dX3_init_9 hS (ose_ok (by decide +kernel)) (by decide) rfl rfl hnm rfl (by decide +kernel) (fun _ => rfl) (fun _ => rfl) (seq_ok (by decide +kernel)) ?_
  refine aw_aload_n K dX3_init_12 0 rfl rfl ?_
  refine aw_bipush (v := 8) K dX3_init_13 (by decide) ?_
  refine aw_newi (b := 2) (N := 8) K dX3_init_15 (by decide) (by decide) (by decide) hS (by decide +kernel) hw (by decide +kernel) (by omega) (fun j => (hz _ (by omega)).1 j) (by simp [okv]) (by simp [okv]) (by rw [hmc]; decide) (by rw [hms]; decide) (fun ad2 ha2 => ?_)
  have hA := fun (a : Nat) (h : a < k + 1) => (ha2 a (by omega)).trans (hA a h)
  refine aw_putr (fl := [none, none, none, none, none, none, none, some (some 1), some none, some none, some none, some none, some none, some none, some none, some none]) (c := 0) (e := 2) (j := 8) (ty := .array .int) (B' := bb_1) K cf3 flX3_15 dX3_init_17 hS (ose_ok (by decide +kernel)) (by decide) rfl rfl hnm rfl (by decide +kernel) (fun _ => rfl) (fun _ => rfl) (seq_ok (by decide +kernel)) ?_
  refine aw_aload_n K dX3_init_20 0 rfl rfl ?_
  refine aw_bipush (v := 9) K dX3_init_21 (by decide) ?_
  refine aw_newi (b := 3) (N := 9) K dX3_init_23 (by decide) (by decide) (by decide) hS (by decide +kernel) hw (by decide +kernel) (by omega) (fun j => (hz _ (by omega)).1 j) (by simp [okv]) (by simp [okv]) (by rw [hmc]; decide) (by rw [hms]; decide) (fun ad3 ha3 => ?_)
  have hA := fun (a : Nat) (h : a < k + 1) => (ha3 a (by omega)).trans (hA a h)
  refine aw_putr (fl := [none, none, none, none, none, none, none, some (some 1), some (some 2), some none, some none, some none, some none, some none, some none, some none]) (c := 0) (e := 3) (j := 9) (ty := .array .int) (B' := bb_2) K cf3 flX3_18 dX3_init_25 hS (ose_ok (by decide +kernel)) (by decide) rfl rfl hnm rfl (by decide +kernel) (fun _ => rfl) (fun _ => rfl) (seq_ok (by decide +kernel)) ?_
  refine aw_aload_n K dX3_init_28 0 rfl rfl ?_
  refine aw_bipush (v := 9) K dX3_init_29 (by decide) ?_
  refine aw_newi (b := 4) (N := 9) K dX3_init_31 (by decide) (by decide) (by decide) hS (by decide +kernel) hw (by decide +kernel) (by omega) (fun j => (hz _ (by omega)).1 j) (by simp [okv]) (by simp [okv]) (by rw [hmc]; decide) (by rw [hms]; decide) (fun ad4 ha4 => ?_)
  have hA := fun (a : Nat) (h : a < k + 1) => (ha4 a (by omega)).trans (hA a h)
  refine aw_putr (fl := [none, none, none, none, none, none, none, some (some 1), some (some 2), some (some 3), some none, some none, some none, some none, some none, some none]) (c := 0) (e := 4) (j := 10) (ty := .array .int) (B' := bb_3) K cf3 flX3_21 dX3_init_33 hS (ose_ok (by decide +kernel)) (by decide) rfl rfl hnm rfl (by decide +kernel) (fun _ => rfl) (fun _ => rfl) (seq_ok (by decide +kernel)) ?_
  refine aw_aload_n K dX3_init_36 0 rfl rfl ?_
  refine aw_bipush (v := 9) K dX3_init_37 (by decide) ?_
  refine aw_newi (b := 5) (N := 9) K dX3_init_39 (by decide) (by decide) (by decide) hS (by decide +kernel) hw (by decide +kernel) (by omega) (fun j => (hz _ (by omega)).1 j) (by simp [okv]) (by simp [okv]) (by rw [hmc]; decide) (by rw [hms]; decide) (fun ad5 ha5 => ?_)
  have hA := fun (a : Nat) (h : a < k + 1) => (ha5 a (by omega)).trans (hA a h)
  refine aw_putr (fl := [none, none, none, none, none, none, none, some (some 1), some (some 2), some (some 3), some (some 4), some none, some none, some none, some none, some none]) (c := 0) (e := 5) (j := 11) (ty := .array .int) (B' := bb_4) K cf3 flX3_24 dX3_init_41 hS (ose_ok (by decide +kernel)) (by decide) rfl rfl hnm rfl (by decide +kernel) (fun _ => rfl) (fun _ => rfl) (seq_ok (by decide +kernel)) ?_
  refine aw_aload_n K dX3_init_44 0 rfl rfl ?_
  refine aw_bipush (v := 9) K dX3_init_45 (by decide) ?_
  refine aw_newi (b := 6) (N := 9) K dX3_init_47 (by decide) (by decide) (by decide) hS (by decide +kernel) hw (by decide +kernel) (by omega) (fun j => (hz _ (by omega)).1 j) (by simp [okv]) (by simp [okv]) (by rw [hmc]; decide) (by rw [hms]; decide) (fun ad6 ha6 => ?_)
  have hA := fun (a : Nat) (h : a < k + 1) => (ha6 a (by omega)).trans (hA a h)
  refine aw_putr (fl := [none, none, none, none, none, none, none, some (some 1), some (some 2), some (some 3), some (some 4), some (some 5), some none, some none, some none, some none]) (c := 0) (e := 6) (j := 12) (ty := .array .int) (B' := bb_5) K cf3 flX3_27 dX3_init_49 hS (ose_ok (by decide +kernel)) (by decide) rfl rfl hnm rfl (by decide +kernel) (fun _ => rfl) (fun _ => rfl) (seq_ok (by decide +kernel)) ?_
  refine aw_aload_n K dX3_init_52 0 rfl rfl ?_
  refine aw_bipush (v := 9) K dX3_init_53 (by decide) ?_
  refine aw_newi (b := 7) (N := 9) K dX3_init_55 (by decide) (by decide) (by decide) hS (by decide +kernel) hw (by decide +kernel) (by omega) (fun j => (hz _ (by omega)).1 j) (by simp [okv]) (by simp [okv]) (by rw [hmc]; decide) (by rw [hms]; decide) (fun ad7 ha7 => ?_)
  have hA := fun (a : Nat) (h : a < k + 1) => (ha7 a (by omega)).trans (hA a h)
  refine aw_putr (fl := [none, none, none, none, none, none, none, some (some 1), some (some 2), some (some 3), some (some 4), some (some 5), some (some 6), some none, some none, some none]) (c := 0) (e := 7) (j := 13) (ty := .array .int) (B' := bb_6) K cf3 flX3_30 dX3_init_57 hS (ose_ok (by decide +kernel)) (by decide) rfl rfl hnm rfl (by decide +kernel) (fun _ => rfl) (fun _ => rfl) (seq_ok (by decide +kernel)) ?_
  refine aw_aload_n K dX3_init_60 0 rfl rfl ?_
  refine aw_bipush (v := 9) K dX3_init_61 (by decide) ?_
  refine aw_newi (b := 8) (N := 9) K dX3_init_63 (by decide) (by decide) (by decide) hS (by decide +kernel) hw (by decide +kernel) (by omega) (fun j => (hz _ (by omega)).1 j) (by simp [okv]) (by simp [okv]) (by rw [hmc]; decide) (by rw [hms]; decide) (fun ad8 ha8 => ?_)
  have hA := fun (a : Nat) (h : a < k + 1) => (ha8 a (by omega)).trans (hA a h)
  refine aw_putr (fl := [none, none, none, none, none, none, none, some (some 1), some (some 2), some (some 3), some (some 4), some (some 5), some (some 6), some (some 7), some none, some none]) (c := 0) (e := 8) (j := 14) (ty := .array .int) (B' := bb_7) K cf3 flX3_33 dX3_init_65 hS (ose_ok (by decide +kernel)) (by decide) rfl rfl hnm rfl (by decide +kernel) (fun _ => rfl) (fun _ => rfl) (seq_ok (by decide +kernel)) ?_
  refine aw_aload_n K dX3_init_68 0 rfl rfl ?_
  refine aw_bipush (v := 81) K dX3_init_69 (by decide) ?_
  refine aw_newi (b := 9) (N := 81) K dX3_init_71 (by decide) (by decide) (by decide) hS (by decide +kernel) hw (by decide +kernel) (by omega) (fun j => (hz _ (by omega)).1 j) (by simp [okv]) (by simp [okv]) (by rw [hmc]; decide) (by rw [hms]; decide) (fun ad9 ha9 => ?_)
  have hA := fun (a : Nat) (h : a < k + 1) => (ha9 a (by omega)).trans (hA a h)
  refine aw_putr (fl := [none, none, none, none, none, none, none, some (some 1), some (some 2), some (some 3), some (some 4), some (some 5), some (some 6), some (some 7), some (some 8), some none]) (c := 0) (e := 9) (j := 15) (ty := .array .int) (B' := bb_8) K cf3 flX3_36 dX3_init_73 hS (ose_ok (by decide +kernel)) (by decide) rfl rfl hnm rfl (by decide +kernel) (fun _ => rfl) (fun _ => rfl) (seq_ok (by decide +kernel)) ?_
  refine aw_vret K dX3_init_76 (hq ad9 M ?_ hA) hZ (by rw [hmc]) (by rw [hms])
  rfl

def bb_9 : List Sh := List.set ([.inl (6, [none, none, none, some none, some none, some none, some none, some none, some none])] ++ [.inr (.inl 10)]) 0 (.inl (6, [none, none, none, some (some 1), some none, some none, some none, some none, some none]))
def bb_10 : List Sh := List.set (bb_9 ++ [.inr (.inl 10)]) 0 (.inl (6, [none, none, none, some (some 1), some (some 2), some none, some none, some none, some none]))
def bb_11 : List Sh := List.set (bb_10 ++ [.inr (.inl 10)]) 0 (.inl (6, [none, none, none, some (some 1), some (some 2), some (some 3), some none, some none, some none]))
def bb_12 : List Sh := List.set (bb_11 ++ [.inr (.inl 40)]) 0 (.inl (6, [none, none, none, some (some 1), some (some 2), some (some 3), some (some 4), some none, some none]))
def bb_13 : List Sh := List.set (bb_12 ++ [.inr (.inl 8)]) 0 (.inl (6, [none, none, none, some (some 1), some (some 2), some (some 3), some (some 4), some (some 5), some none]))
def bb_14 : List Sh := List.set (bb_13 ++ [.inr (.inl 8)]) 0 (.inl (6, [none, none, none, some (some 1), some (some 2), some (some 3), some (some 4), some (some 5), some (some 6)]))
/-- X6_init: its cells -/
def blk6 : List Sh := bb_14
set_option maxHeartbeats 400000 in
set_option maxRecDepth 100000 in
theorem i_X6_init {gk : Gk} {ad : Nat → Nat} {S : List Sh} {k : Nat} (M : Mx) (hS : S.length = k) (hw : WFl S) (h1 : k + 7 < 1000) (hz : Zf M k) : Ct (gk, (ad, WB S k [.inl (6, [none, none, none, some none, some none, some none, some none, some none, some none])])) yX6_init cX6_init 1 none 2 6 86 [.ref k] M (Rc gk (ad, WB S k [.inl (6, [none, none, none, some none, some none, some none, some none, some none, some none])]) (WB S k blk6) (fun M' => M' = M)) := by
  refine Ct.of (by decide) (Nat.le_of_ble_eq_true rfl) ?_
  intro G hgk hQ hmc hms hZ hnm K
  have hgk : gk = xk G := hgk.symm
  subst hgk
  have hq : ∀ (ad' : Nat → Nat) (M' : Mx), (M' = M) → (∀ a, a < k + 1 → ad' a = ad a) → xQ G (xk G, (ad', WB S k bb_14)) none M' := fun ad' M' h hA => by rw [hQ]; exact ⟨rfl, h, ad', rfl, fun a ha => hA a (by rw [WB_len hS rfl] at ha; exact ha)⟩
  have hA : ∀ a, a < k + 1 → ad a = ad a := fun _ _ => rfl
  show AW G 1 (ad, WB S k [.inl (6, [none, none, none, some none, some none, some none, some none, some none, some none])]) 0 0 M 0 [(0, .ref k)] []
  refine aw_aload_n K dX6_init_0 0 rfl rfl ?_
  refine aw_obj K mlX6_3 dX6_init_1 (by decide) (Nat.le_of_ble_eq_true rfl) ?_
  refine aw_aload_n K dX6_init_4 0 rfl rfl ?_
  refine aw_bipush (v := 10) K dX6_init_5 (by decide) ?_
  refine aw_newi (b := 1) (N := 10) K dX6_init_7 (by decide) (by decide) (by decide) hS (by decide +kernel) hw (by decide +kernel) (by omega) (fun j => (hz _ (by omega)).1 j) (by simp [okv]) (by simp [okv]) (by rw [hmc]; decide) (by rw [hms]; decide) (fun ad1 ha1 => ?_)
  have hA := fun (a : Nat) (h : a < k + 1) => (ha1 a (by omega)).trans (hA a h)
  refine aw_putr (fl := [none, none, none, some none, some none, some none, some none, some none, some none]) (c := 0) (e := 1) (j := 3) (ty := .array .int) (B' := bb_9) K cf6 flX6_9 dX6_init_9 hS (ose_ok (by decide +kernel)) (by decide) rfl rfl hnm rfl (by decide +kernel) (fun _ => rfl) (fun _ => rfl) (seq_ok (by decide +kernel)) ?_
  refine aw_aload_n K dX6_init_12 0 rfl rfl ?_
  refine aw_bipush (v := 10) K dX6_init_13 (by decide) ?_
  refine aw_newi (b := 2) (N := 10) K dX6_init_15 (by decide) (by decide) (by decide) hS (by decide +kernel) hw (by decide +kernel) (by omega) (fun j => (hz _ (by omega)).1 j) (by simp [okv]) (by simp [okv]) (by rw [hmc]; decide) (by rw [hms]; decide) (fun ad2 ha2 => ?_)
  have hA := fun (a : Nat) (h : a < k + 1) => (ha2 a (by omega)).trans (hA a h)
  refine aw_putr (fl := [none, none, none, some (some 1), some none, some none, some none, some none, some none]) (c := 0) (e := 2) (j := 4) (ty := .array .int) (B' := bb_10) K cf6 flX6_15 dX6_init_17 hS (ose_ok (by decide +kernel)) (by decide) rfl rfl hnm rfl (by decide +kernel) (fun _ => rfl) (fun _ => rfl) (seq_ok (by decide +kernel)) ?_
  refine aw_aload_n K dX6_init_20 0 rfl rfl ?_
  refine aw_bipush (v := 10) K dX6_init_21 (by decide) ?_
  refine aw_newi (b := 3) (N := 10) K dX6_init_23 (by decide) (by decide) (by decide) hS (by decide +kernel) hw (by decide +kernel) (by omega) (fun j => (hz _ (by omega)).1 j) (by simp [okv]) (by simp [okv]) (by rw [hmc]; decide) (by rw [hms]; decide) (fun ad3 ha3 => ?_)
  have hA := fun (a : Nat) (h : a < k + 1) => (ha3 a (by omega)).trans (hA a h)
  refine aw_putr (fl := [none, none, none, some (some 1), some (some 2), some none, some none, some none, some none]) (c := 0) (e := 3) (j := 5) (ty := .array .int) (B' := bb_11) K cf6 flX6_18 dX6_init_25 hS (ose_ok (by decide +kernel)) (by decide) rfl rfl hnm rfl (by decide +kernel) (fun _ => rfl) (fun _ => rfl) (seq_ok (by decide +kernel)) ?_
  refine aw_aload_n K dX6_init_28 0 rfl rfl ?_
  refine aw_bipush (v := 40) K dX6_init_29 (by decide) ?_
  refine aw_newi (b := 4) (N := 40) K dX6_init_31 (by decide) (by decide) (by decide) hS (by decide +kernel) hw (by decide +kernel) (by omega) (fun j => (hz _ (by omega)).1 j) (by simp [okv]) (by simp [okv]) (by rw [hmc]; decide) (by rw [hms]; decide) (fun ad4 ha4 => ?_)
  have hA := fun (a : Nat) (h : a < k + 1) => (ha4 a (by omega)).trans (hA a h)
  refine aw_putr (fl := [none, none, none, some (some 1), some (some 2), some (some 3), some none, some none, some none]) (c := 0) (e := 4) (j := 6) (ty := .array .int) (B' := bb_12) K cf6 flX6_21 dX6_init_33 hS (ose_ok (by decide +kernel)) (by decide) rfl rfl hnm rfl (by decide +kernel) (fun _ => rfl) (fun _ => rfl) (seq_ok (by decide +kernel)) ?_
  refine aw_aload_n K dX6_init_36 0 rfl rfl ?_
  refine aw_bipush (v := 8) K dX6_init_37 (by decide) ?_
  refine aw_newi (b := 5) (N := 8) K dX6_init_39 (by decide) (by decide) (by decide) hS (by decide +kernel) hw (by decide +kernel) (by omega) (fun j => (hz _ (by omega)).1 j) (by simp [okv]) (by simp [okv]) (by rw [hmc]; decide) (by rw [hms]; decide) (fun ad5 ha5 => ?_)
  have hA := fun (a : Nat) (h : a < k + 1) => (ha5 a (by omega)).trans (hA a h)
  refine aw_putr (fl := [none, none, none, some (some 1), some (some 2), some (some 3), some (some 4), some none, some none]) (c := 0) (e := 5) (j := 7) (ty := .array .int) (B' := bb_13) K cf6 flX6_24 dX6_init_41 hS (ose_ok (by decide +kernel)) (by decide) rfl rfl hnm rfl (by decide +kernel) (fun _ => rfl) (fun _ => rfl) (seq_ok (by decide +kernel)) ?_
  refine aw_aload_n K dX6_init_44 0 rfl rfl ?_
  refine aw_bipush (v := 8) K dX6_init_45 (by decide) ?_
  refine aw_newi (b := 6) (N := 8) K dX6_init_47 (by decide) (by decide) (by decide) hS (by decide +kernel) hw (by decide +kernel) (by omega) (fun j => (hz _ (by omega)).1 j) (by simp [okv]) (by simp [okv]) (by rw [hmc]; decide) (by rw [hms]; decide) (fun ad6 ha6 => ?_)
  have hA := fun (a : Nat) (h : a < k + 1) => (ha6 a (by omega)).trans (hA a h)
  refine aw_putr (fl := [none, none, none, some (some 1), some (some 2), some (some 3), some (some 4), some (some 5), some none]) (c := 0) (e := 6) (j := 8) (ty := .array .int) (B' := bb_14) K cf6 flX6_27 dX6_init_49 hS (ose_ok (by decide +kernel)) (by decide) rfl rfl hnm rfl (by decide +kernel) (fun _ => rfl) (fun _ => rfl) (seq_ok (by decide +kernel)) ?_
  refine aw_vret K dX6_init_52 (hq ad6 M ?_ hA) hZ (by rw [hmc]) (by rw [hms])
  rfl

def bb_15 : List Sh := List.set ([.inl (0, [none, some none, some none, none, some none, some none])] ++ [.inr (.inr (.inr (false, [some 2, some 3, some 4, some 5]))), .inr (.inl 9), .inr (.inl 9), .inr (.inl 9), .inr (.inl 9)]) 0 (.inl (0, [none, some (some 1), some none, none, some none, some none]))
def bb_16 : List Sh := List.set (bb_15 ++ [.inr (.inl 9)]) 0 (.inl (0, [none, some (some 1), some (some 6), none, some none, some none]))
def bb_17 : List Sh := List.set (bb_16 ++ [.inr (.inl 9)]) 0 (.inl (0, [none, some (some 1), some (some 6), none, some (some 7), some none]))
def bb_18 : List Sh := List.set (bb_17 ++ [.inr (.inl 9)]) 0 (.inl (0, [none, some (some 1), some (some 6), none, some (some 7), some (some 8)]))
/-- X0_init: its cells -/
def blk0 : List Sh := bb_18
set_option maxHeartbeats 400000 in
set_option maxRecDepth 100000 in
theorem i_X0_init {gk : Gk} {ad : Nat → Nat} {S : List Sh} {k : Nat} (M : Mx) (hS : S.length = k) (hw : WFl S) (h1 : k + 9 < 1000) (hz : Zf M k) : Ct (gk, (ad, WB S k [.inl (0, [none, some none, some none, none, some none, some none])])) yX0_init cX0_init 1 none 2 8 67 [.ref k] M (Rc gk (ad, WB S k [.inl (0, [none, some none, some none, none, some none, some none])]) (WB S k blk0) (fun M' => M' = M)) := by
  refine Ct.of (by decide) (Nat.le_of_ble_eq_true rfl) ?_
  intro G hgk hQ hmc hms hZ hnm K
  have hgk : gk = xk G := hgk.symm
  subst hgk
  have hq : ∀ (ad' : Nat → Nat) (M' : Mx), (M' = M) → (∀ a, a < k + 1 → ad' a = ad a) → xQ G (xk G, (ad', WB S k bb_18)) none M' := fun ad' M' h hA => by rw [hQ]; exact ⟨rfl, h, ad', rfl, fun a ha => hA a (by rw [WB_len hS rfl] at ha; exact ha)⟩
  have hA : ∀ a, a < k + 1 → ad a = ad a := fun _ _ => rfl
  show AW G 1 (ad, WB S k [.inl (0, [none, some none, some none, none, some none, some none])]) 0 0 M 0 [(0, .ref k)] []
  refine aw_aload_n K dX0_init_0 0 rfl rfl ?_
  refine aw_obj K mlX0_5 dX0_init_1 (by decide) (Nat.le_of_ble_eq_true rfl) ?_
  refine aw_aload_n K dX0_init_4 0 rfl rfl ?_
  refine aw_iconst (v := 4) K dX0_init_5 (by decide) ?_
  refine aw_bipush (v := 9) K dX0_init_6 (by decide) ?_
  refine aw_multi (b := 1) K klX0_11 dX0_init_8 hS (by decide +kernel) hw (by decide +kernel) (by omega) (fun a h j => (hz a (by omega)).1 j) (by simp [okv]) (by simp [okv]) (by rw [hmc]; decide) (by rw [hms]; decide) (fun ad1 ha1 => ?_)
  have hA := fun (a : Nat) (h : a < k + 1) => (ha1 a (by omega)).trans (hA a h)
  refine aw_putr (fl := [none, some none, some none, none, some none, some none]) (c := 0) (e := 1) (j := 1) (ty := .array (.array .int)) (B' := bb_15) K cf0 flX0_13 dX0_init_12 hS (ose_ok (by decide +kernel)) (by decide) rfl rfl hnm rfl (by decide +kernel) (fun _ => rfl) (fun _ => rfl) (seq_ok (by decide +kernel)) ?_
  refine aw_aload_n K dX0_init_15 0 rfl rfl ?_
  refine aw_bipush (v := 9) K dX0_init_16 (by decide) ?_
  refine aw_newi (b := 6) (N := 9) K dX0_init_18 (by decide) (by decide) (by decide) hS (by decide +kernel) hw (by decide +kernel) (by omega) (fun j => (hz _ (by omega)).1 j) (by simp [okv]) (by simp [okv]) (by rw [hmc]; decide) (by rw [hms]; decide) (fun ad2 ha2 => ?_)
  have hA := fun (a : Nat) (h : a < k + 1) => (ha2 a (by omega)).trans (hA a h)
  refine aw_putr (fl := [none, some (some 1), some none, none, some none, some none]) (c := 0) (e := 6) (j := 2) (ty := .array .int) (B' := bb_16) K cf0 flX0_16 dX0_init_20 hS (ose_ok (by decide +kernel)) (by decide) rfl rfl hnm rfl (by decide +kernel) (fun _ => rfl) (fun _ => rfl) (seq_ok (by decide +kernel)) ?_
  refine aw_aload_n K dX0_init_23 0 rfl rfl ?_
  refine aw_bipush (v := 9) K dX0_init_24 (by decide) ?_
  refine aw_newi (b := 7) (N := 9) K dX0_init_26 (by decide) (by decide) (by decide) hS (by decide +kernel) hw (by decide +kernel) (by omega) (fun j => (hz _ (by omega)).1 j) (by simp [okv]) (by simp [okv]) (by rw [hmc]; decide) (by rw [hms]; decide) (fun ad3 ha3 => ?_)
  have hA := fun (a : Nat) (h : a < k + 1) => (ha3 a (by omega)).trans (hA a h)
  refine aw_putr (fl := [none, some (some 1), some (some 6), none, some none, some none]) (c := 0) (e := 7) (j := 4) (ty := .array .int) (B' := bb_17) K cf0 flX0_20 dX0_init_28 hS (ose_ok (by decide +kernel)) (by decide) rfl rfl hnm rfl (by decide +kernel) (fun _ => rfl) (fun _ => rfl) (seq_ok (by decide +kernel)) ?_
  refine aw_aload_n K dX0_init_31 0 rfl rfl ?_
  refine aw_bipush (v := 9) K dX0_init_32 (by decide) ?_
  refine aw_newi (b := 8) (N := 9) K dX0_init_34 (by decide) (by decide) (by decide) hS (by decide +kernel) hw (by decide +kernel) (by omega) (fun j => (hz _ (by omega)).1 j) (by simp [okv]) (by simp [okv]) (by rw [hmc]; decide) (by rw [hms]; decide) (fun ad4 ha4 => ?_)
  have hA := fun (a : Nat) (h : a < k + 1) => (ha4 a (by omega)).trans (hA a h)
  refine aw_putr (fl := [none, some (some 1), some (some 6), none, some (some 7), some none]) (c := 0) (e := 8) (j := 5) (ty := .array .int) (B' := bb_18) K cf0 flX0_23 dX0_init_36 hS (ose_ok (by decide +kernel)) (by decide) rfl rfl hnm rfl (by decide +kernel) (fun _ => rfl) (fun _ => rfl) (seq_ok (by decide +kernel)) ?_
  refine aw_vret K dX0_init_39 (hq ad4 M ?_ hA) hZ (by rw [hmc]) (by rw [hms])
  rfl

def bb_19 : List Sh := List.set ([.inl (7, [some none, none, some none, some none, some none])] ++ [.inr (.inl 24)]) 0 (.inl (7, [some (some 1), none, some none, some none, some none]))
def bb_20 : List Sh := List.set (bb_19 ++ [.inr (.inl 30)]) 0 (.inl (7, [some (some 1), none, some (some 2), some none, some none]))
def bb_21 : List Sh := List.set (bb_20 ++ [.inr (.inl 30)]) 0 (.inl (7, [some (some 1), none, some (some 2), some (some 3), some none]))
def bb_22 : List Sh := List.set (bb_21 ++ [.inr (.inl 30)]) 0 (.inl (7, [some (some 1), none, some (some 2), some (some 3), some (some 4)]))
/-- X7_init: its cells -/
def blk7 : List Sh := bb_22
set_option maxHeartbeats 400000 in
set_option maxRecDepth 100000 in
theorem i_X7_init {gk : Gk} {ad : Nat → Nat} {S : List Sh} {k : Nat} (M : Mx) (hS : S.length = k) (hw : WFl S) (h1 : k + 5 < 1000) (hz : Zf M k) : Ct (gk, (ad, WB S k [.inl (7, [some none, none, some none, some none, some none])])) yX7_init cX7_init 1 none 2 4 114 [.ref k] M (Rc gk (ad, WB S k [.inl (7, [some none, none, some none, some none, some none])]) (WB S k blk7) (fun M' => M' = M)) := by
  refine Ct.of (by decide) (Nat.le_of_ble_eq_true rfl) ?_
  intro G hgk hQ hmc hms hZ hnm K
  have hgk : gk = xk G := hgk.symm
  subst hgk
  have hq : ∀ (ad' : Nat → Nat) (M' : Mx), (M' = M) → (∀ a, a < k + 1 → ad' a = ad a) → xQ G (xk G, (ad', WB S k bb_22)) none M' := fun ad' M' h hA => by rw [hQ]; exact ⟨rfl, h, ad', rfl, fun a ha => hA a (by rw [WB_len hS rfl] at ha; exact ha)⟩
  have hA : ∀ a, a < k + 1 → ad a = ad a := fun _ _ => rfl
  show AW G 1 (ad, WB S k [.inl (7, [some none, none, some none, some none, some none])]) 0 0 M 0 [(0, .ref k)] []
  refine aw_aload_n K dX7_init_0 0 rfl rfl ?_
  refine aw_obj K mlX7_3 dX7_init_1 (by decide) (Nat.le_of_ble_eq_true rfl) ?_
  refine aw_aload_n K dX7_init_4 0 rfl rfl ?_
  refine aw_bipush (v := 24) K dX7_init_5 (by decide) ?_
  refine aw_newi (b := 1) (N := 24) K dX7_init_7 (by decide) (by decide) (by decide) hS (by decide +kernel) hw (by decide +kernel) (by omega) (fun j => (hz _ (by omega)).1 j) (by simp [okv]) (by simp [okv]) (by rw [hmc]; decide) (by rw [hms]; decide) (fun ad1 ha1 => ?_)
  have hA := fun (a : Nat) (h : a < k + 1) => (ha1 a (by omega)).trans (hA a h)
  refine aw_putr (fl := [some none, none, some none, some none, some none]) (c := 0) (e := 1) (j := 0) (ty := .array .int) (B' := bb_19) K cf7 flX7_9 dX7_init_9 hS (ose_ok (by decide +kernel)) (by decide) rfl rfl hnm rfl (by decide +kernel) (fun _ => rfl) (fun _ => rfl) (seq_ok (by decide +kernel)) ?_
  refine aw_aload_n K dX7_init_12 0 rfl rfl ?_
  refine aw_bipush (v := 30) K dX7_init_13 (by decide) ?_
  refine aw_newi (b := 2) (N := 30) K dX7_init_15 (by decide) (by decide) (by decide) hS (by decide +kernel) hw (by decide +kernel) (by omega) (fun j => (hz _ (by omega)).1 j) (by simp [okv]) (by simp [okv]) (by rw [hmc]; decide) (by rw [hms]; decide) (fun ad2 ha2 => ?_)
  have hA := fun (a : Nat) (h : a < k + 1) => (ha2 a (by omega)).trans (hA a h)
  refine aw_putr (fl := [some (some 1), none, some none, some none, some none]) (c := 0) (e := 2) (j := 2) (ty := .array .int) (B' := bb_20) K cf7 flX7_15 dX7_init_17 hS (ose_ok (by decide +kernel)) (by decide) rfl rfl hnm rfl (by decide +kernel) (fun _ => rfl) (fun _ => rfl) (seq_ok (by decide +kernel)) ?_
  refine aw_aload_n K dX7_init_20 0 rfl rfl ?_
  refine aw_bipush (v := 30) K dX7_init_21 (by decide) ?_
  refine aw_newi (b := 3) (N := 30) K dX7_init_23 (by decide) (by decide) (by decide) hS (by decide +kernel) hw (by decide +kernel) (by omega) (fun j => (hz _ (by omega)).1 j) (by simp [okv]) (by simp [okv]) (by rw [hmc]; decide) (by rw [hms]; decide) (fun ad3 ha3 => ?_)
  have hA := fun (a : Nat) (h : a < k + 1) => (ha3 a (by omega)).trans (hA a h)
  refine aw_putr (fl := [some (some 1), none, some (some 2), some none, some none]) (c := 0) (e := 3) (j := 3) (ty := .array .int) (B' := bb_21) K cf7 flX7_18 dX7_init_25 hS (ose_ok (by decide +kernel)) (by decide) rfl rfl hnm rfl (by decide +kernel) (fun _ => rfl) (fun _ => rfl) (seq_ok (by decide +kernel)) ?_
  refine aw_aload_n K dX7_init_28 0 rfl rfl ?_
  refine aw_bipush (v := 30) K dX7_init_29 (by decide) ?_
  refine aw_newi (b := 4) (N := 30) K dX7_init_31 (by decide) (by decide) (by decide) hS (by decide +kernel) hw (by decide +kernel) (by omega) (fun j => (hz _ (by omega)).1 j) (by simp [okv]) (by simp [okv]) (by rw [hmc]; decide) (by rw [hms]; decide) (fun ad4 ha4 => ?_)
  have hA := fun (a : Nat) (h : a < k + 1) => (ha4 a (by omega)).trans (hA a h)
  refine aw_putr (fl := [some (some 1), none, some (some 2), some (some 3), some none]) (c := 0) (e := 4) (j := 4) (ty := .array .int) (B' := bb_22) K cf7 flX7_21 dX7_init_33 hS (ose_ok (by decide +kernel)) (by decide) rfl rfl hnm rfl (by decide +kernel) (fun _ => rfl) (fun _ => rfl) (seq_ok (by decide +kernel)) ?_
  refine aw_vret K dX7_init_36 (hq ad4 M ?_ hA) hZ (by rw [hmc]) (by rw [hms])
  rfl

def bb_23 : List Sh := List.set ([.inl (1, [none, none, some none, some none, none])] ++ [.inr (.inl 400)]) 0 (.inl (1, [none, none, some (some 1), some none, none]))
def bb_24 : List Sh := List.set (bb_23 ++ [.inr (.inl 32)]) 0 (.inl (1, [none, none, some (some 1), some (some 2), none]))
/-- X1_init: its cells -/
def blk1 : List Sh := bb_24
set_option maxHeartbeats 400000 in
set_option maxRecDepth 100000 in
theorem i_X1_init {gk : Gk} {ad : Nat → Nat} {S : List Sh} {k : Nat} (M : Mx) (hS : S.length = k) (hw : WFl S) (h1 : k + 3 < 1000) (hz : Zf M k) : Ct (gk, (ad, WB S k [.inl (1, [none, none, some none, some none, none])])) yX1_init cX1_init 1 none 2 2 432 [.ref k] M (Rc gk (ad, WB S k [.inl (1, [none, none, some none, some none, none])]) (WB S k blk1) (fun M' => M' = M)) := by
  refine Ct.of (by decide) (Nat.le_of_ble_eq_true rfl) ?_
  intro G hgk hQ hmc hms hZ hnm K
  have hgk : gk = xk G := hgk.symm
  subst hgk
  have hq : ∀ (ad' : Nat → Nat) (M' : Mx), (M' = M) → (∀ a, a < k + 1 → ad' a = ad a) → xQ G (xk G, (ad', WB S k bb_24)) none M' := fun ad' M' h hA => by rw [hQ]; exact ⟨rfl, h, ad', rfl, fun a ha => hA a (by rw [WB_len hS rfl] at ha; exact ha)⟩
  have hA : ∀ a, a < k + 1 → ad a = ad a := fun _ _ => rfl
  show AW G 1 (ad, WB S k [.inl (1, [none, none, some none, some none, none])]) 0 0 M 0 [(0, .ref k)] []
  refine aw_aload_n K dX1_init_0 0 rfl rfl ?_
  refine aw_obj K mlX1_1 dX1_init_1 (by decide) (Nat.le_of_ble_eq_true rfl) ?_
  refine aw_aload_n K dX1_init_4 0 rfl rfl ?_
  refine aw_sipush (v := 400) K dX1_init_5 (by decide) ?_
  refine aw_newi (b := 1) (N := 400) K dX1_init_8 (by decide) (by decide) (by decide) hS (by decide +kernel) hw (by decide +kernel) (by omega) (fun j => (hz _ (by omega)).1 j) (by simp [okv]) (by simp [okv]) (by rw [hmc]; decide) (by rw [hms]; decide) (fun ad1 ha1 => ?_)
  have hA := fun (a : Nat) (h : a < k + 1) => (ha1 a (by omega)).trans (hA a h)
  refine aw_putr (fl := [none, none, some none, some none, none]) (c := 0) (e := 1) (j := 2) (ty := .array .int) (B' := bb_23) K cf1 flX1_9 dX1_init_10 hS (ose_ok (by decide +kernel)) (by decide) rfl rfl hnm rfl (by decide +kernel) (fun _ => rfl) (fun _ => rfl) (seq_ok (by decide +kernel)) ?_
  refine aw_aload_n K dX1_init_13 0 rfl rfl ?_
  refine aw_bipush (v := 32) K dX1_init_14 (by decide) ?_
  refine aw_newi (b := 2) (N := 32) K dX1_init_16 (by decide) (by decide) (by decide) hS (by decide +kernel) hw (by decide +kernel) (by omega) (fun j => (hz _ (by omega)).1 j) (by simp [okv]) (by simp [okv]) (by rw [hmc]; decide) (by rw [hms]; decide) (fun ad2 ha2 => ?_)
  have hA := fun (a : Nat) (h : a < k + 1) => (ha2 a (by omega)).trans (hA a h)
  refine aw_putr (fl := [none, none, some (some 1), some none, none]) (c := 0) (e := 2) (j := 3) (ty := .array .int) (B' := bb_24) K cf1 flX1_15 dX1_init_18 hS (ose_ok (by decide +kernel)) (by decide) rfl rfl hnm rfl (by decide +kernel) (fun _ => rfl) (fun _ => rfl) (seq_ok (by decide +kernel)) ?_
  refine aw_vret K dX1_init_21 (hq ad2 M ?_ hA) hZ (by rw [hmc]) (by rw [hms])
  rfl
