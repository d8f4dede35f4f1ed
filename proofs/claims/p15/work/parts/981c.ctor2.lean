def bb_54 : List Sh := List.set ([.inl (8, [none, some none, some none, some none, none, none])] ++ [.inr (.inl 400)]) 0 (.inl (8, [none, some (some 1), some none, some none, none, none]))
def bb_55 : List Sh := List.set (bb_54 ++ [.inr (.inl 401)]) 0 (.inl (8, [none, some (some 1), some (some 2), some none, none, none]))
def bb_56 : List Sh := List.set (bb_55 ++ [.inr (.inl 401)]) 0 (.inl (8, [none, some (some 1), some (some 2), some (some 3), none, none]))
/-- X8_init: its cells -/
def blk8 : List Sh := bb_56
set_option maxHeartbeats 400000 in
set_option maxRecDepth 100000 in
theorem i_X8_init {gk : Gk} {ad : Nat → Nat} {S : List Sh} {k : Nat} (M : Mx) (hS : S.length = k) (hw : WFl S) (h1 : k + 4 < 1000) (hz : Zf M k) : Ct (gk, (ad, WB S k [.inl (8, [none, some none, some none, some none, none, none])])) yX8_init cX8_init 1 none 2 3 1202 [.ref k] M (Rc gk (ad, WB S k [.inl (8, [none, some none, some none, some none, none, none])]) (WB S k blk8) (fun M' => M' = M)) := by
  refine Ct.of (by decide) (Nat.le_of_ble_eq_true rfl) ?_
  intro G hgk hQ hmc hms hZ hnm K
  have hgk : gk = xk G := hgk.symm
  subst hgk
  have hq : ∀ (ad' : Nat → Nat) (M' : Mx), (M' = M) → (∀ a, a < k + 1 → ad' a = ad a) → xQ G (xk G, (ad', WB S k bb_56)) none M' := fun ad' M' h hA => by rw [hQ]; exact ⟨rfl, h, ad', rfl, fun a ha => hA a (by rw [WB_len hS rfl] at ha; exact ha)⟩
  have hA : ∀ a, a < k + 1 → ad a = ad a := fun _ _ => rfl
  show AW G 1 (ad, WB S k [.inl (8, [none, some none, some none, some none, none, none])]) 0 0 M 0 [(0, .ref k)] []
  refine aw_aload_n K dX8_init_0 0 rfl rfl ?_
  refine aw_obj K mlX8_1 dX8_init_1 (by decide) (Nat.le_of_ble_eq_true rfl) ?_
  refine aw_aload_n K dX8_init_4 0 rfl rfl ?_
  refine aw_sipush (v := 400) K dX8_init_5 (by decide) ?_
  refine aw_newi (b := 1) (N := 400) K dX8_init_8 (by decide) (by decide) (by decide) hS (by decide +kernel) hw (by decide +kernel) (by omega) (fun j => (hz _ (by omega)).1 j) (by simp [okv]) (by simp [okv]) (by rw [hmc]; decide) (by rw [hms]; decide) (fun ad1 ha1 => ?_)
  have hA := fun (a : Nat) (h : a < k + 1) => (ha1 a (by omega)).trans (hA a h)
  refine aw_putr (fl := [none, some none, some none, some none, none, none]) (c := 0) (e := 1) (j := 1) (ty := .array .int) (B' := bb_54) K cf8 flX8_9 dX8_init_10 hS (ose_ok (by decide +kernel)) (by decide) rfl rfl hnm rfl (by decide +kernel) (fun _ => rfl) (fun _ => rfl) (seq_ok (by decide +kernel)) ?_
  refine aw_aload_n K dX8_init_13 0 rfl rfl ?_
  refine aw_sipush (v := 401) K dX8_init_14 (by decide) ?_
  refine aw_newi (b := 2) (N := 401) K dX8_init_17 (by decide) (by decide) (by decide) hS (by decide +kernel) hw (by decide +kernel) (by omega) (fun j => (hz _ (by omega)).1 j) (by simp [okv]) (by simp [okv]) (by rw [hmc]; decide) (by rw [hms]; decide) (fun ad2 ha2 => ?_)
  have hA := fun (a : Nat) (h : a < k + 1) => (ha2 a (by omega)).trans (hA a h)
  refine aw_putr (fl := [none, some (some 1), some none, some none, none, none]) (c := 0) (e := 2) (j := 2) (ty := .array .int) (B' := bb_55) K cf8 flX8_13 dX8_init_19 hS (ose_ok (by decide +kernel)) (by decide) rfl rfl hnm rfl (by decide +kernel) (fun _ => rfl) (fun _ => rfl) (seq_ok (by decide +kernel)) ?_
  refine aw_aload_n K dX8_init_22 0 rfl rfl ?_
  refine aw_sipush (v := 401) K dX8_init_23 (by decide) ?_
  refine aw_newi (b := 3) (N := 401) K dX8_init_26 (by decide) (by decide) (by decide) hS (by decide +kernel) hw (by decide +kernel) (by omega) (fun j => (hz _ (by omega)).1 j) (by simp [okv]) (by simp [okv]) (by rw [hmc]; decide) (by rw [hms]; decide) (fun ad3 ha3 => ?_)
  have hA := fun (a : Nat) (h : a < k + 1) => (ha3 a (by omega)).trans (hA a h)
  refine aw_putr (fl := [none, some (some 1), some (some 2), some none, none, none]) (c := 0) (e := 3) (j := 3) (ty := .array .int) (B' := bb_56) K cf8 flX8_16 dX8_init_28 hS (ose_ok (by decide +kernel)) (by decide) rfl rfl hnm rfl (by decide +kernel) (fun _ => rfl) (fun _ => rfl) (seq_ok (by decide +kernel)) ?_
  refine aw_vret K dX8_init_31 (hq ad3 M ?_ hA) hZ (by rw [hmc]) (by rw [hms])
  rfl

def bb_57 : List Sh := [.inl (5, [some none, none, none, none, none, some none, none, none])] ++ WBs 1 blk8
def bb_58 : List Sh := List.set bb_57 0 (.inl (5, [some (some 1), none, none, none, none, some none, none, none]))
def bb_59 : List Sh := List.set (bb_58 ++ [.inr (.inl 400)]) 0 (.inl (5, [some (some 1), none, none, none, none, some (some 5), none, none]))
/-- X5_init: its cells -/
def blk5 : List Sh := bb_59
set_option maxHeartbeats 400000 in
set_option maxRecDepth 100000 in
theorem i_X5_init {gk : Gk} {ad : Nat → Nat} {S : List Sh} {k : Nat} (M : Mx) (hS : S.length = k) (hw : WFl S) (h1 : k + 6 < 1000) (hz : Zf M k) : Ct (gk, (ad, WB S k [.inl (5, [some none, none, none, none, none, some none, none, none])])) yX5_init cX5_init 1 none 3 5 1608 [.ref k] M (Rc gk (ad, WB S k [.inl (5, [some none, none, none, none, none, some none, none, none])]) (WB S k blk5) (fun M' => M' = (up M k 2 (-1)))) := by
  refine Ct.of (by decide) (Nat.le_of_ble_eq_true rfl) ?_
  intro G hgk hQ hmc hms hZ hnm K
  have hgk : gk = xk G := hgk.symm
  subst hgk
  have hq : ∀ (ad' : Nat → Nat) (M' : Mx), (M' = (up M k 2 (-1))) → (∀ a, a < k + 1 → ad' a = ad a) → xQ G (xk G, (ad', WB S k bb_59)) none M' := fun ad' M' h hA => by rw [hQ]; exact ⟨rfl, h, ad', rfl, fun a ha => hA a (by rw [WB_len hS rfl] at ha; exact ha)⟩
  have hA : ∀ a, a < k + 1 → ad a = ad a := fun _ _ => rfl
  show AW G 1 (ad, WB S k [.inl (5, [some none, none, none, none, none, some none, none, none])]) 0 0 M 0 [(0, .ref k)] []
  refine aw_aload_n K dX5_init_0 0 rfl rfl ?_
  refine aw_obj K mlX5_3 dX5_init_1 (by decide) (Nat.le_of_ble_eq_true rfl) ?_
  refine aw_aload_n K dX5_init_4 0 rfl rfl ?_
  refine aw_new (b := 1) K cf8 klX5_9 mkX8 iniX8 dX5_init_5 [none, some none, some none, some none, none, none] bf8 hS (by decide +kernel) hw (by decide +kernel) (by omega) (fun j => (hz _ (by omega)).1 j) (by simp [okv]) (by simp [okv]) (by rw [hmc]; decide) (by rw [hms]; decide) (fun ad1 ha1 => ?_)
  have hA := fun (a : Nat) (h : a < k + 1) => (ha1 a (by omega)).trans (hA a h)
  refine aw_dup K dX5_init_8 rfl ?_
  refine aw_wr ((congrArg (WB S k) (seq_ok (by decide +kernel) : (([.inl (5, [some none, none, none, none, none, some none, none, none])] ++ [.inl (8, [none, some none, some none, some none, none, none])]) : List Sh) = [.inl (5, [some none, none, none, none, none, some none, none, none])] ++ WBs 1 [.inl (8, [none, some none, some none, some none, none, none])])).trans (WB_in (S := S) (k := k) (B := [.inl (5, [some none, none, none, none, none, some none, none, none])]) (B' := [.inl (8, [none, some none, some none, some none, none, none])]) (c := 1) (by decide +kernel)).symm) ?_
  refine aw_cIN (e := k + 1) K mnX5_11 insX8_init iniX8 cdX8_init ⟨rfl, by decide, by decide, by decide +kernel⟩ dX5_init_9 (i_X8_init M (WB_len (b := 1) hS (by decide +kernel)) (wf_WB hS hw (by decide +kernel)) (by omega) (Zf_mono (by omega) hz)) (Nat.le_of_ble_eq_true rfl) (by decide) (by decide) (by rw [hmc]; decide) (by rw [hms]; decide) (by rw [WB_len (b := 1) (WB_len (b := 1) hS (by decide +kernel)) rfl]; simp [okv] <;> omega) (by rw [WB_len (b := 1) (WB_len (b := 1) hS (by decide +kernel)) rfl]; simp [okv] <;> omega) (fun ad2 M_1 ha2 h_2 => ?_)
  replace ha2 : ∀ a, a < k + 2 → ad2 a = ad1 a := fun a q => ha2 a (by rw [WB_len (b := 1) (WB_len (b := 1) hS (by decide +kernel)) rfl]; omega)
  replace h_2 := h_2.symm
  subst h_2
  have hA := fun (a : Nat) (h : a < k + 1) => (ha2 a (by omega)).trans (hA a h)
  refine aw_wr ((WB_in (S := S) (k := k) (B := [.inl (5, [some none, none, none, none, none, some none, none, none])]) (B' := blk8) (c := 1) (by decide +kernel)).trans (congrArg (WB S k) (seq_ok (by decide +kernel) : ([.inl (5, [some none, none, none, none, none, some none, none, none])] : List Sh) ++ WBs 1 blk8 = bb_57))) ?_
  refine aw_putr (fl := [some none, none, none, none, none, some none, none, none]) (c := 0) (e := 1) (j := 0) (ty := .object "RopeToALake$Tape") (B' := bb_58) K cf5 flX5_12 dX5_init_12 hS (ose_ok (by decide +kernel)) (by decide) rfl rfl hnm rfl (by decide +kernel) (fun _ => rfl) (fun _ => rfl) (seq_ok (by decide +kernel)) ?_
  refine aw_aload_n K dX5_init_15 0 rfl rfl ?_
  refine aw_iconst (v := (-1)) K dX5_init_16 (by decide) ?_
  refine aw_puti (j := 2) (i := 2) (ty := .int) K cf5 flX5_18 dX5_init_17 (lkB (B := bb_58) (c := 0) (s := .inl (5, [some (some 1), none, none, none, none, some none, none, none])) hS (ose_ok (by decide +kernel))) (by decide) rfl rfl rfl (by decide +kernel) rfl rfl (ln_ok rfl) ?_
  replace hz := Zf_up (n := k + 5) (a := k) (i := 2) (x := (-1)) (by omega) (Zf_mono (by omega) hz)
  refine aw_aload_n K dX5_init_20 0 rfl rfl ?_
  refine aw_sipush (v := 400) K dX5_init_21 (by decide) ?_
  refine aw_newi (b := 5) (N := 400) K dX5_init_24 (by decide) (by decide) (by decide) hS (by decide +kernel) hw (by decide +kernel) (by omega) (fun j => (hz _ (by omega)).1 j) (by simp [okv]) (by simp [okv]) (by rw [hmc]; decide) (by rw [hms]; decide) (fun ad3 ha3 => ?_)
  have hA := fun (a : Nat) (h : a < k + 1) => (ha3 a (by omega)).trans (hA a h)
  refine aw_putr (fl := [some (some 1), none, none, none, none, some none, none, none]) (c := 0) (e := 5) (j := 5) (ty := .array .int) (B' := bb_59) K cf5 flX5_22 dX5_init_26 hS (ose_ok (by decide +kernel)) (by decide) rfl rfl hnm rfl (by decide +kernel) (fun _ => rfl) (fun _ => rfl) (seq_ok (by decide +kernel)) ?_
  refine aw_vret K dX5_init_29 (hq ad3 (up M k 2 (-1)) ?_ hA) hZ (by rw [hmc]) (by rw [hms])
  rfl

def bb_60 : List Sh := List.set ([.inl (10, [none, some none, some none, some none, some none, some none])] ++ [.inr (.inl 4)]) 0 (.inl (10, [none, some (some 1), some none, some none, some none, some none]))
def bb_61 : List Sh := List.set (bb_60 ++ [.inr (.inl 4)]) 0 (.inl (10, [none, some (some 1), some (some 2), some none, some none, some none]))
def bb_62 : List Sh := List.set (bb_61 ++ [.inr (.inl 4)]) 0 (.inl (10, [none, some (some 1), some (some 2), some (some 3), some none, some none]))
def bb_63 : List Sh := List.set (bb_62 ++ [.inr (.inl 241)]) 0 (.inl (10, [none, some (some 1), some (some 2), some (some 3), some (some 4), some none]))
def bb_64 : List Sh := bb_63 ++ WBs 5 blk3
def bb_65 : List Sh := List.set bb_64 0 (.inl (10, [none, some (some 1), some (some 2), some (some 3), some (some 4), some (some 5)]))
/-- X10_init: its cells -/
def blk10 : List Sh := bb_65
set_option maxHeartbeats 400000 in
set_option maxRecDepth 100000 in
theorem i_X10_init {gk : Gk} {ad : Nat → Nat} {S : List Sh} {k : Nat} (M : Mx) (hS : S.length = k) (hw : WFl S) (h1 : k + 15 < 1000) (hz : Zf M k) : Ct (gk, (ad, WB S k [.inl (10, [none, some none, some none, some none, some none, some none])])) yX10_init cX10_init 1 none 3 14 422 [.ref k] M (Rc gk (ad, WB S k [.inl (10, [none, some none, some none, some none, some none, some none])]) (WB S k blk10) (fun M' => M' = M)) := by
  refine Ct.of (by decide) (Nat.le_of_ble_eq_true rfl) ?_
  intro G hgk hQ hmc hms hZ hnm K
  have hgk : gk = xk G := hgk.symm
  subst hgk
  have hq : ∀ (ad' : Nat → Nat) (M' : Mx), (M' = M) → (∀ a, a < k + 1 → ad' a = ad a) → xQ G (xk G, (ad', WB S k bb_65)) none M' := fun ad' M' h hA => by rw [hQ]; exact ⟨rfl, h, ad', rfl, fun a ha => hA a (by rw [WB_len hS rfl] at ha; exact ha)⟩
  have hA : ∀ a, a < k + 1 → ad a = ad a := fun _ _ => rfl
  show AW G 1 (ad, WB S k [.inl (10, [none, some none, some none, some none, some none, some none])]) 0 0 M 0 [(0, .ref k)] []
  refine aw_aload_n K dX10_init_0 0 rfl rfl ?_
  refine aw_obj K mlX10_3 dX10_init_1 (by decide) (Nat.le_of_ble_eq_true rfl) ?_
  refine aw_aload_n K dX10_init_4 0 rfl rfl ?_
  refine aw_iconst (v := 4) K dX10_init_5 (by decide) ?_
  refine aw_newi (b := 1) (N := 4) K dX10_init_6 (by decide) (by decide) (by decide) hS (by decide +kernel) hw (by decide +kernel) (by omega) (fun j => (hz _ (by omega)).1 j) (by simp [okv]) (by simp [okv]) (by rw [hmc]; decide) (by rw [hms]; decide) (fun ad1 ha1 => ?_)
  have hA := fun (a : Nat) (h : a < k + 1) => (ha1 a (by omega)).trans (hA a h)
  refine aw_putr (fl := [none, some none, some none, some none, some none, some none]) (c := 0) (e := 1) (j := 1) (ty := .array .int) (B' := bb_60) K cf10 flX10_11 dX10_init_8 hS (ose_ok (by decide +kernel)) (by decide) rfl rfl hnm rfl (by decide +kernel) (fun _ => rfl) (fun _ => rfl) (seq_ok (by decide +kernel)) ?_
  refine aw_aload_n K dX10_init_11 0 rfl rfl ?_
  refine aw_iconst (v := 4) K dX10_init_12 (by decide) ?_
  refine aw_newi (b := 2) (N := 4) K dX10_init_13 (by decide) (by decide) (by decide) hS (by decide +kernel) hw (by decide +kernel) (by omega) (fun j => (hz _ (by omega)).1 j) (by simp [okv]) (by simp [okv]) (by rw [hmc]; decide) (by rw [hms]; decide) (fun ad2 ha2 => ?_)
  have hA := fun (a : Nat) (h : a < k + 1) => (ha2 a (by omega)).trans (hA a h)
  refine aw_putr (fl := [none, some (some 1), some none, some none, some none, some none]) (c := 0) (e := 2) (j := 2) (ty := .array .int) (B' := bb_61) K cf10 flX10_15 dX10_init_15 hS (ose_ok (by decide +kernel)) (by decide) rfl rfl hnm rfl (by decide +kernel) (fun _ => rfl) (fun _ => rfl) (seq_ok (by decide +kernel)) ?_
  refine aw_aload_n K dX10_init_18 0 rfl rfl ?_
  refine aw_iconst (v := 4) K dX10_init_19 (by decide) ?_
  refine aw_newi (b := 3) (N := 4) K dX10_init_20 (by decide) (by decide) (by decide) hS (by decide +kernel) hw (by decide +kernel) (by omega) (fun j => (hz _ (by omega)).1 j) (by simp [okv]) (by simp [okv]) (by rw [hmc]; decide) (by rw [hms]; decide) (fun ad3 ha3 => ?_)
  have hA := fun (a : Nat) (h : a < k + 1) => (ha3 a (by omega)).trans (hA a h)
  refine aw_putr (fl := [none, some (some 1), some (some 2), some none, some none, some none]) (c := 0) (e := 3) (j := 3) (ty := .array .int) (B' := bb_62) K cf10 flX10_18 dX10_init_22 hS (ose_ok (by decide +kernel)) (by decide) rfl rfl hnm rfl (by decide +kernel) (fun _ => rfl) (fun _ => rfl) (seq_ok (by decide +kernel)) ?_
  refine aw_aload_n K dX10_init_25 0 rfl rfl ?_
  refine aw_sipush (v := 241) K dX10_init_26 (by decide) ?_
  refine aw_newi (b := 4) (N := 241) K dX10_init_29 (by decide) (by decide) (by decide) hS (by decide +kernel) hw (by decide +kernel) (by omega) (fun j => (hz _ (by omega)).1 j) (by simp [okv]) (by simp [okv]) (by rw [hmc]; decide) (by rw [hms]; decide) (fun ad4 ha4 => ?_)
  have hA := fun (a : Nat) (h : a < k + 1) => (ha4 a (by omega)).trans (hA a h)
  refine aw_putr (fl := [none, some (some 1), some (some 2), some (some 3), some none, some none]) (c := 0) (e := 4) (j := 4) (ty := .array .int) (B' := bb_63) K cf10 flX10_21 dX10_init_31 hS (ose_ok (by decide +kernel)) (by decide) rfl rfl hnm rfl (by decide +kernel) (fun _ => rfl) (fun _ => rfl) (seq_ok (by decide +kernel)) ?_
  refine aw_aload_n K dX10_init_34 0 rfl rfl ?_
  refine aw_new (b := 5) K cf3 klX10_24 mkX3 iniX3 dX10_init_35 [none, none, none, none, none, none, none, some none, some none, some none, some none, some none, some none, some none, some none, some none] bf3 hS (by decide +kernel) hw (by decide +kernel) (by omega) (fun j => (hz _ (by omega)).1 j) (by simp [okv]) (by simp [okv]) (by rw [hmc]; decide) (by rw [hms]; decide) (fun ad5 ha5 => ?_)
  have hA := fun (a : Nat) (h : a < k + 1) => (ha5 a (by omega)).trans (hA a h)
  refine aw_dup K dX10_init_38 rfl ?_
  refine aw_wr ((congrArg (WB S k) (seq_ok (by decide +kernel) : ((bb_63 ++ [.inl (3, [none, none, none, none, none, none, none, some none, some none, some none, some none, some none, some none, some none, some none, some none])]) : List Sh) = bb_63 ++ WBs 5 [.inl (3, [none, none, none, none, none, none, none, some none, some none, some none, some none, some none, some none, some none, some none, some none])])).trans (WB_in (S := S) (k := k) (B := bb_63) (B' := [.inl (3, [none, none, none, none, none, none, none, some none, some none, some none, some none, some none, some none, some none, some none, some none])]) (c := 5) (by decide +kernel)).symm) ?_
  refine aw_cIN (e := k + 5) K mnX10_26 insX3_init iniX3 cdX3_init ⟨rfl, by decide, by decide, by decide +kernel⟩ dX10_init_39 (i_X3_init M (WB_len (b := 5) hS (by decide +kernel)) (wf_WB hS hw (by decide +kernel)) (by omega) (Zf_mono (by omega) hz)) (Nat.le_of_ble_eq_true rfl) (by decide) (by decide) (by rw [hmc]; decide) (by rw [hms]; decide) (by rw [WB_len (b := 1) (WB_len (b := 5) hS (by decide +kernel)) rfl]; simp [okv] <;> omega) (by rw [WB_len (b := 1) (WB_len (b := 5) hS (by decide +kernel)) rfl]; simp [okv] <;> omega) (fun ad6 M_1 ha6 h_2 => ?_)
  replace ha6 : ∀ a, a < k + 6 → ad6 a = ad5 a := fun a q => ha6 a (by rw [WB_len (b := 1) (WB_len (b := 5) hS (by decide +kernel)) rfl]; omega)
  replace h_2 := h_2.symm
  subst h_2
  have hA := fun (a : Nat) (h : a < k + 1) => (ha6 a (by omega)).trans (hA a h)
  refine aw_wr ((WB_in (S := S) (k := k) (B := bb_63) (B' := blk3) (c := 5) (by decide +kernel)).trans (congrArg (WB S k) (seq_ok (by decide +kernel) : (bb_63 : List Sh) ++ WBs 5 blk3 = bb_64))) ?_
  refine aw_putr (fl := [none, some (some 1), some (some 2), some (some 3), some (some 4), some none]) (c := 0) (e := 5) (j := 5) (ty := .object "RopeToALake$Moving") (B' := bb_65) K cf10 flX10_27 dX10_init_42 hS (ose_ok (by decide +kernel)) (by decide) rfl rfl hnm rfl (by decide +kernel) (fun _ => rfl) (fun _ => rfl) (seq_ok (by decide +kernel)) ?_
  refine aw_vret K dX10_init_45 (hq ad6 M ?_ hA) hZ (by rw [hmc]) (by rw [hms])
  rfl

def bb_66 : List Sh := List.set ([.inl (2, [some none, some none, some none])] ++ [.inr (.inl 9)]) 0 (.inl (2, [some (some 1), some none, some none]))
def bb_67 : List Sh := List.set (bb_66 ++ [.inr (.inl 512)]) 0 (.inl (2, [some (some 1), some (some 2), some none]))
def bb_68 : List Sh := List.set (bb_67 ++ [.inr (.inl 512)]) 0 (.inl (2, [some (some 1), some (some 2), some (some 3)]))
/-- X2_init: its cells -/
def blk2 : List Sh := bb_68
set_option maxHeartbeats 400000 in
set_option maxRecDepth 100000 in
theorem i_X2_init {gk : Gk} {ad : Nat → Nat} {S : List Sh} {k : Nat} (M : Mx) (hS : S.length = k) (hw : WFl S) (h1 : k + 4 < 1000) (hz : Zf M k) : Ct (gk, (ad, WB S k [.inl (2, [some none, some none, some none])])) yX2_init cX2_init 1 none 2 3 1033 [.ref k] M (Rc gk (ad, WB S k [.inl (2, [some none, some none, some none])]) (WB S k blk2) (fun M' => M' = M)) := by
  refine Ct.of (by decide) (Nat.le_of_ble_eq_true rfl) ?_
  intro G hgk hQ hmc hms hZ hnm K
  have hgk : gk = xk G := hgk.symm
  subst hgk
  have hq : ∀ (ad' : Nat → Nat) (M' : Mx), (M' = M) → (∀ a, a < k + 1 → ad' a = ad a) → xQ G (xk G, (ad', WB S k bb_68)) none M' := fun ad' M' h hA => by rw [hQ]; exact ⟨rfl, h, ad', rfl, fun a ha => hA a (by rw [WB_len hS rfl] at ha; exact ha)⟩
  have hA : ∀ a, a < k + 1 → ad a = ad a := fun _ _ => rfl
  show AW G 1 (ad, WB S k [.inl (2, [some none, some none, some none])]) 0 0 M 0 [(0, .ref k)] []
  refine aw_aload_n K dX2_init_0 0 rfl rfl ?_
  refine aw_obj K mlX2_3 dX2_init_1 (by decide) (Nat.le_of_ble_eq_true rfl) ?_
  refine aw_aload_n K dX2_init_4 0 rfl rfl ?_
  refine aw_bipush (v := 9) K dX2_init_5 (by decide) ?_
  refine aw_newi (b := 1) (N := 9) K dX2_init_7 (by decide) (by decide) (by decide) hS (by decide +kernel) hw (by decide +kernel) (by omega) (fun j => (hz _ (by omega)).1 j) (by simp [okv]) (by simp [okv]) (by rw [hmc]; decide) (by rw [hms]; decide) (fun ad1 ha1 => ?_)
  have hA := fun (a : Nat) (h : a < k + 1) => (ha1 a (by omega)).trans (hA a h)
  refine aw_putr (fl := [some none, some none, some none]) (c := 0) (e := 1) (j := 0) (ty := .array .int) (B' := bb_66) K cf2 flX2_9 dX2_init_9 hS (ose_ok (by decide +kernel)) (by decide) rfl rfl hnm rfl (by decide +kernel) (fun _ => rfl) (fun _ => rfl) (seq_ok (by decide +kernel)) ?_
  refine aw_aload_n K dX2_init_12 0 rfl rfl ?_
  refine aw_sipush (v := 512) K dX2_init_13 (by decide) ?_
  refine aw_newi (b := 2) (N := 512) K dX2_init_16 (by decide) (by decide) (by decide) hS (by decide +kernel) hw (by decide +kernel) (by omega) (fun j => (hz _ (by omega)).1 j) (by simp [okv]) (by simp [okv]) (by rw [hmc]; decide) (by rw [hms]; decide) (fun ad2 ha2 => ?_)
  have hA := fun (a : Nat) (h : a < k + 1) => (ha2 a (by omega)).trans (hA a h)
  refine aw_putr (fl := [some (some 1), some none, some none]) (c := 0) (e := 2) (j := 1) (ty := .array .int) (B' := bb_67) K cf2 flX2_15 dX2_init_18 hS (ose_ok (by decide +kernel)) (by decide) rfl rfl hnm rfl (by decide +kernel) (fun _ => rfl) (fun _ => rfl) (seq_ok (by decide +kernel)) ?_
  refine aw_aload_n K dX2_init_21 0 rfl rfl ?_
  refine aw_sipush (v := 512) K dX2_init_22 (by decide) ?_
  refine aw_newi (b := 3) (N := 512) K dX2_init_25 (by decide) (by decide) (by decide) hS (by decide +kernel) hw (by decide +kernel) (by omega) (fun j => (hz _ (by omega)).1 j) (by simp [okv]) (by simp [okv]) (by rw [hmc]; decide) (by rw [hms]; decide) (fun ad3 ha3 => ?_)
  have hA := fun (a : Nat) (h : a < k + 1) => (ha3 a (by omega)).trans (hA a h)
  refine aw_putr (fl := [some (some 1), some (some 2), some none]) (c := 0) (e := 3) (j := 2) (ty := .array .int) (B' := bb_68) K cf2 flX2_18 dX2_init_27 hS (ose_ok (by decide +kernel)) (by decide) rfl rfl hnm rfl (by decide +kernel) (fun _ => rfl) (fun _ => rfl) (seq_ok (by decide +kernel)) ?_
  refine aw_vret K dX2_init_30 (hq ad3 M ?_ hA) hZ (by rw [hmc]) (by rw [hms])
  rfl
