theorem vlb_o {M : Mx} {k a : Nat} {n j : Int32} (h : a < k ∨ k + 36 < a) : (vlb M k n).1 a j = M.1 a j := by
  simp only [vlb, lwb, rsb, fkb, rpb, mvz, up, fil]
  repeat rw [if_neg (fun h => absurd h.1 (by omega))]

def bb_25 : List Sh := [.inl (9, [some none, some none, some none, some none, some none, none, none, some none, some none])] ++ WBs 1 blk3
def bb_26 : List Sh := List.set bb_25 0 (.inl (9, [some (some 1), some none, some none, some none, some none, none, none, some none, some none]))
def bb_27 : List Sh := bb_26 ++ WBs 11 blk6
def bb_28 : List Sh := List.set bb_27 0 (.inl (9, [some (some 1), some (some 11), some none, some none, some none, none, none, some none, some none]))
def bb_29 : List Sh := bb_28 ++ WBs 18 blk0
def bb_30 : List Sh := List.set bb_29 0 (.inl (9, [some (some 1), some (some 11), some (some 18), some none, some none, none, none, some none, some none]))
def bb_31 : List Sh := bb_30 ++ WBs 27 blk7
def bb_32 : List Sh := List.set bb_31 0 (.inl (9, [some (some 1), some (some 11), some (some 18), some (some 27), some none, none, none, some none, some none]))
def bb_33 : List Sh := bb_32 ++ WBs 32 blk1
def bb_34 : List Sh := List.set bb_33 0 (.inl (9, [some (some 1), some (some 11), some (some 18), some (some 27), some (some 32), none, none, some none, some none]))
def bb_35 : List Sh := List.set (bb_34 ++ [.inr (.inl 9)]) 0 (.inl (9, [some (some 1), some (some 11), some (some 18), some (some 27), some (some 32), none, none, some (some 35), some none]))
def bb_36 : List Sh := List.set (bb_35 ++ [.inr (.inl 9)]) 0 (.inl (9, [some (some 1), some (some 11), some (some 18), some (some 27), some (some 32), none, none, some (some 35), some (some 36)]))
/-- X9_init: its cells -/
def blk9 : List Sh := bb_36
set_option maxHeartbeats 400000 in
set_option maxRecDepth 100000 in
theorem i_X9_init {gk : Gk} {ad : Nat → Nat} {S : List Sh} {k : Nat} (M : Mx) (hS : S.length = k) (hw : WFl S) (h1 : k + 37 < 1000) (hz : Zf M k) : Ct (gk, (ad, WB S k [.inl (9, [some none, some none, some none, some none, some none, none, none, some none, some none])])) yX9_init cX9_init 1 none 5 36 911 [.ref k] M (Rc gk (ad, WB S k [.inl (9, [some none, some none, some none, some none, some none, none, none, some none, some none])]) (WB S k blk9) (fun M' => M' = (vlb M k 12))) := by
  refine Ct.of (by decide) (Nat.le_of_ble_eq_true rfl) ?_
  intro G hgk hQ hmc hms hZ hnm K
  have hgk : gk = xk G := hgk.symm
  subst hgk
  have hq : ∀ (ad' : Nat → Nat) (M' : Mx), (M' = (vlb M k 12)) → (∀ a, a < k + 1 → ad' a = ad a) → xQ G (xk G, (ad', WB S k bb_36)) none M' := fun ad' M' h hA => by rw [hQ]; exact ⟨rfl, h, ad', rfl, fun a ha => hA a (by rw [WB_len hS rfl] at ha; exact ha)⟩
  have hA : ∀ a, a < k + 1 → ad a = ad a := fun _ _ => rfl
  show AW G 1 (ad, WB S k [.inl (9, [some none, some none, some none, some none, some none, none, none, some none, some none])]) 0 0 M 0 [(0, .ref k)] []
  refine aw_aload_n K dX9_init_0 0 rfl rfl ?_
  refine aw_obj K mlX9_3 dX9_init_1 (by decide) (Nat.le_of_ble_eq_true rfl) ?_
  refine aw_aload_n K dX9_init_4 0 rfl rfl ?_
  refine aw_new (b := 1) K cf3 klX9_9 mkX3 iniX3 dX9_init_5 [none, none, none, none, none, none, none, some none, some none, some none, some none, some none, some none, some none, some none, some none] bf3 hS (by decide +kernel) hw (by decide +kernel) (by omega) (fun j => (hz _ (by omega)).1 j) (by simp [okv]) (by simp [okv]) (by rw [hmc]; decide) (by rw [hms]; decide) (fun ad1 ha1 => ?_)
  have hA := fun (a : Nat) (h : a < k + 1) => (ha1 a (by omega)).trans (hA a h)
  refine aw_dup K dX9_init_8 rfl ?_
  refine aw_wr ((congrArg (WB S k) (seq_ok (by decide +kernel) : (([.inl (9, [some none, some none, some none, some none, some none, none, none, some none, some none])] ++ [.inl (3, [none, none, none, none, none, none, none, some none, some none, some none, some none, some none, some none, some none, some none, some none])]) : List Sh) = [.inl (9, [some none, some none, some none, some none, some none, none, none, some none, some none])] ++ WBs 1 [.inl (3, [none, none, none, none, none, none, none, some none, some none, some none, some none, some none, some none, some none, some none, some none])])).trans (WB_in (S := S) (k := k) (B := [.inl (9, [some none, some none, some none, some none, some none, none, none, some none, some none])]) (B' := [.inl (3, [none, none, none, none, none, none, none, some none, some none, some none, some none, some none, some none, some none, some none, some none])]) (c := 1) (by decide +kernel)).symm) ?_
  refine aw_cIN (e := k + 1) K mnX9_11 insX3_init iniX3 cdX3_init ⟨rfl, by decide, by decide, by decide +kernel⟩ dX9_init_9 (i_X3_init M (WB_len (b := 1) hS (by decide +kernel)) (wf_WB hS hw (by decide +kernel)) (by omega) (Zf_mono (by omega) hz)) (Nat.le_of_ble_eq_true rfl) (by decide) (by decide) (by rw [hmc]; decide) (by rw [hms]; decide) (by rw [WB_len (b := 1) (WB_len (b := 1) hS (by decide +kernel)) rfl]; simp [okv] <;> omega) (by rw [WB_len (b := 1) (WB_len (b := 1) hS (by decide +kernel)) rfl]; simp [okv] <;> omega) (fun ad2 M_1 ha2 h_2 => ?_)
  replace ha2 : ∀ a, a < k + 2 → ad2 a = ad1 a := fun a q => ha2 a (by rw [WB_len (b := 1) (WB_len (b := 1) hS (by decide +kernel)) rfl]; omega)
  replace h_2 := h_2.symm
  subst h_2
  have hA := fun (a : Nat) (h : a < k + 1) => (ha2 a (by omega)).trans (hA a h)
  refine aw_wr ((WB_in (S := S) (k := k) (B := [.inl (9, [some none, some none, some none, some none, some none, none, none, some none, some none])]) (B' := blk3) (c := 1) (by decide +kernel)).trans (congrArg (WB S k) (seq_ok (by decide +kernel) : ([.inl (9, [some none, some none, some none, some none, some none, none, none, some none, some none])] : List Sh) ++ WBs 1 blk3 = bb_25))) ?_
  refine aw_putr (fl := [some none, some none, some none, some none, some none, none, none, some none, some none]) (c := 0) (e := 1) (j := 0) (ty := .object "RopeToALake$Moving") (B' := bb_26) K cf9 flX9_12 dX9_init_12 hS (ose_ok (by decide +kernel)) (by decide) rfl rfl hnm rfl (by decide +kernel) (fun _ => rfl) (fun _ => rfl) (seq_ok (by decide +kernel)) ?_
  refine aw_aload_n K dX9_init_15 0 rfl rfl ?_
  refine aw_new (b := 11) K cf6 klX9_18 mkX6 iniX6 dX9_init_16 [none, none, none, some none, some none, some none, some none, some none, some none] bf6 hS (by decide +kernel) hw (by decide +kernel) (by omega) (fun j => (hz _ (by omega)).1 j) (by simp [okv]) (by simp [okv]) (by rw [hmc]; decide) (by rw [hms]; decide) (fun ad3 ha3 => ?_)
  have hA := fun (a : Nat) (h : a < k + 1) => (ha3 a (by omega)).trans (hA a h)
  refine aw_dup K dX9_init_19 rfl ?_
  refine aw_wr ((congrArg (WB S k) (seq_ok (by decide +kernel) : ((bb_26 ++ [.inl (6, [none, none, none, some none, some none, some none, some none, some none, some none])]) : List Sh) = bb_26 ++ WBs 11 [.inl (6, [none, none, none, some none, some none, some none, some none, some none, some none])])).trans (WB_in (S := S) (k := k) (B := bb_26) (B' := [.inl (6, [none, none, none, some none, some none, some none, some none, some none, some none])]) (c := 11) (by decide +kernel)).symm) ?_
  refine aw_cIN (e := k + 11) K mnX9_20 insX6_init iniX6 cdX6_init ⟨rfl, by decide, by decide, by decide +kernel⟩ dX9_init_20 (i_X6_init M (WB_len (b := 11) hS (by decide +kernel)) (wf_WB hS hw (by decide +kernel)) (by omega) (Zf_mono (by omega) hz)) (Nat.le_of_ble_eq_true rfl) (by decide) (by decide) (by rw [hmc]; decide) (by rw [hms]; decide) (by rw [WB_len (b := 1) (WB_len (b := 11) hS (by decide +kernel)) rfl]; simp [okv] <;> omega) (by rw [WB_len (b := 1) (WB_len (b := 11) hS (by decide +kernel)) rfl]; simp [okv] <;> omega) (fun ad4 M_3 ha4 h_4 => ?_)
  replace ha4 : ∀ a, a < k + 12 → ad4 a = ad3 a := fun a q => ha4 a (by rw [WB_len (b := 1) (WB_len (b := 11) hS (by decide +kernel)) rfl]; omega)
  replace h_4 := h_4.symm
  subst h_4
  have hA := fun (a : Nat) (h : a < k + 1) => (ha4 a (by omega)).trans (hA a h)
  refine aw_wr ((WB_in (S := S) (k := k) (B := bb_26) (B' := blk6) (c := 11) (by decide +kernel)).trans (congrArg (WB S k) (seq_ok (by decide +kernel) : (bb_26 : List Sh) ++ WBs 11 blk6 = bb_27))) ?_
  refine aw_putr (fl := [some (some 1), some none, some none, some none, some none, none, none, some none, some none]) (c := 0) (e := 11) (j := 1) (ty := .object "RopeToALake$Rope") (B' := bb_28) K cf9 flX9_21 dX9_init_23 hS (ose_ok (by decide +kernel)) (by decide) rfl rfl hnm rfl (by decide +kernel) (fun _ => rfl) (fun _ => rfl) (seq_ok (by decide +kernel)) ?_
  refine aw_aload_n K dX9_init_26 0 rfl rfl ?_
  refine aw_new (b := 18) K cf0 klX9_25 mkX0 iniX0 dX9_init_27 [none, some none, some none, none, some none, some none] bf0 hS (by decide +kernel) hw (by decide +kernel) (by omega) (fun j => (hz _ (by omega)).1 j) (by simp [okv]) (by simp [okv]) (by rw [hmc]; decide) (by rw [hms]; decide) (fun ad5 ha5 => ?_)
  have hA := fun (a : Nat) (h : a < k + 1) => (ha5 a (by omega)).trans (hA a h)
  refine aw_dup K dX9_init_30 rfl ?_
  refine aw_wr ((congrArg (WB S k) (seq_ok (by decide +kernel) : ((bb_28 ++ [.inl (0, [none, some none, some none, none, some none, some none])]) : List Sh) = bb_28 ++ WBs 18 [.inl (0, [none, some none, some none, none, some none, some none])])).trans (WB_in (S := S) (k := k) (B := bb_28) (B' := [.inl (0, [none, some none, some none, none, some none, some none])]) (c := 18) (by decide +kernel)).symm) ?_
  refine aw_cIN (e := k + 18) K mnX9_27 insX0_init iniX0 cdX0_init ⟨rfl, by decide, by decide, by decide +kernel⟩ dX9_init_31 (i_X0_init M (WB_len (b := 18) hS (by decide +kernel)) (wf_WB hS hw (by decide +kernel)) (by omega) (Zf_mono (by omega) hz)) (Nat.le_of_ble_eq_true rfl) (by decide) (by decide) (by rw [hmc]; decide) (by rw [hms]; decide) (by rw [WB_len (b := 1) (WB_len (b := 18) hS (by decide +kernel)) rfl]; simp [okv] <;> omega) (by rw [WB_len (b := 1) (WB_len (b := 18) hS (by decide +kernel)) rfl]; simp [okv] <;> omega) (fun ad6 M_5 ha6 h_6 => ?_)
  replace ha6 : ∀ a, a < k + 19 → ad6 a = ad5 a := fun a q => ha6 a (by rw [WB_len (b := 1) (WB_len (b := 18) hS (by decide +kernel)) rfl]; omega)
  replace h_6 := h_6.symm
  subst h_6
  have hA := fun (a : Nat) (h : a < k + 1) => (ha6 a (by omega)).trans (hA a h)
  refine aw_wr ((WB_in (S := S) (k := k) (B := bb_28) (B' := blk0) (c := 18) (by decide +kernel)).trans (congrArg (WB S k) (seq_ok (by decide +kernel) : (bb_28 : List Sh) ++ WBs 18 blk0 = bb_29))) ?_
  refine aw_putr (fl := [some (some 1), some (some 11), some none, some none, some none, none, none, some none, some none]) (c := 0) (e := 18) (j := 2) (ty := .object "RopeToALake$Folk") (B' := bb_30) K cf9 flX9_28 dX9_init_34 hS (ose_ok (by decide +kernel)) (by decide) rfl rfl hnm rfl (by decide +kernel) (fun _ => rfl) (fun _ => rfl) (seq_ok (by decide +kernel)) ?_
  refine aw_aload_n K dX9_init_37 0 rfl rfl ?_
  refine aw_new (b := 27) K cf7 klX9_32 mkX7 iniX7 dX9_init_38 [some none, none, some none, some none, some none] bf7 hS (by decide +kernel) hw (by decide +kernel) (by omega) (fun j => (hz _ (by omega)).1 j) (by simp [okv]) (by simp [okv]) (by rw [hmc]; decide) (by rw [hms]; decide) (fun ad7 ha7 => ?_)
  have hA := fun (a : Nat) (h : a < k + 1) => (ha7 a (by omega)).trans (hA a h)
  refine aw_dup K dX9_init_41 rfl ?_
  refine aw_wr ((congrArg (WB S k) (seq_ok (by decide +kernel) : ((bb_30 ++ [.inl (7, [some none, none, some none, some none, some none])]) : List Sh) = bb_30 ++ WBs 27 [.inl (7, [some none, none, some none, some none, some none])])).trans (WB_in (S := S) (k := k) (B := bb_30) (B' := [.inl (7, [some none, none, some none, some none, some none])]) (c := 27) (by decide +kernel)).symm) ?_
  refine aw_cIN (e := k + 27) K mnX9_34 insX7_init iniX7 cdX7_init ⟨rfl, by decide, by decide, by decide +kernel⟩ dX9_init_42 (i_X7_init M (WB_len (b := 27) hS (by decide +kernel)) (wf_WB hS hw (by decide +kernel)) (by omega) (Zf_mono (by omega) hz)) (Nat.le_of_ble_eq_true rfl) (by decide) (by decide) (by rw [hmc]; decide) (by rw [hms]; decide) (by rw [WB_len (b := 1) (WB_len (b := 27) hS (by decide +kernel)) rfl]; simp [okv] <;> omega) (by rw [WB_len (b := 1) (WB_len (b := 27) hS (by decide +kernel)) rfl]; simp [okv] <;> omega) (fun ad8 M_7 ha8 h_8 => ?_)
  replace ha8 : ∀ a, a < k + 28 → ad8 a = ad7 a := fun a q => ha8 a (by rw [WB_len (b := 1) (WB_len (b := 27) hS (by decide +kernel)) rfl]; omega)
  replace h_8 := h_8.symm
  subst h_8
  have hA := fun (a : Nat) (h : a < k + 1) => (ha8 a (by omega)).trans (hA a h)
  refine aw_wr ((WB_in (S := S) (k := k) (B := bb_30) (B' := blk7) (c := 27) (by decide +kernel)).trans (congrArg (WB S k) (seq_ok (by decide +kernel) : (bb_30 : List Sh) ++ WBs 27 blk7 = bb_31))) ?_
  refine aw_putr (fl := [some (some 1), some (some 11), some (some 18), some none, some none, none, none, some none, some none]) (c := 0) (e := 27) (j := 3) (ty := .object "RopeToALake$Roster") (B' := bb_32) K cf9 flX9_35 dX9_init_45 hS (ose_ok (by decide +kernel)) (by decide) rfl rfl hnm rfl (by decide +kernel) (fun _ => rfl) (fun _ => rfl) (seq_ok (by decide +kernel)) ?_
  refine aw_aload_n K dX9_init_48 0 rfl rfl ?_
  refine aw_new (b := 32) K cf1 klX9_39 mkX1 iniX1 dX9_init_49 [none, none, some none, some none, none] bf1 hS (by decide +kernel) hw (by decide +kernel) (by omega) (fun j => (hz _ (by omega)).1 j) (by simp [okv]) (by simp [okv]) (by rw [hmc]; decide) (by rw [hms]; decide) (fun ad9 ha9 => ?_)
  have hA := fun (a : Nat) (h : a < k + 1) => (ha9 a (by omega)).trans (hA a h)
  refine aw_dup K dX9_init_52 rfl ?_
  refine aw_wr ((congrArg (WB S k) (seq_ok (by decide +kernel) : ((bb_32 ++ [.inl (1, [none, none, some none, some none, none])]) : List Sh) = bb_32 ++ WBs 32 [.inl (1, [none, none, some none, some none, none])])).trans (WB_in (S := S) (k := k) (B := bb_32) (B' := [.inl (1, [none, none, some none, some none, none])]) (c := 32) (by decide +kernel)).symm) ?_
  refine aw_cIN (e := k + 32) K mnX9_41 insX1_init iniX1 cdX1_init ⟨rfl, by decide, by decide, by decide +kernel⟩ dX9_init_53 (i_X1_init M (WB_len (b := 32) hS (by decide +kernel)) (wf_WB hS hw (by decide +kernel)) (by omega) (Zf_mono (by omega) hz)) (Nat.le_of_ble_eq_true rfl) (by decide) (by decide) (by rw [hmc]; decide) (by rw [hms]; decide) (by rw [WB_len (b := 1) (WB_len (b := 32) hS (by decide +kernel)) rfl]; simp [okv] <;> omega) (by rw [WB_len (b := 1) (WB_len (b := 32) hS (by decide +kernel)) rfl]; simp [okv] <;> omega) (fun ad10 M_9 ha10 h_10 => ?_)
  replace ha10 : ∀ a, a < k + 33 → ad10 a = ad9 a := fun a q => ha10 a (by rw [WB_len (b := 1) (WB_len (b := 32) hS (by decide +kernel)) rfl]; omega)
  replace h_10 := h_10.symm
  subst h_10
  have hA := fun (a : Nat) (h : a < k + 1) => (ha10 a (by omega)).trans (hA a h)
  refine aw_wr ((WB_in (S := S) (k := k) (B := bb_32) (B' := blk1) (c := 32) (by decide +kernel)).trans (congrArg (WB S k) (seq_ok (by decide +kernel) : (bb_32 : List Sh) ++ WBs 32 blk1 = bb_33))) ?_
  refine aw_putr (fl := [some (some 1), some (some 11), some (some 18), some (some 27), some none, none, none, some none, some none]) (c := 0) (e := 32) (j := 4) (ty := .object "RopeToALake$Law") (B' := bb_34) K cf9 flX9_42 dX9_init_56 hS (ose_ok (by decide +kernel)) (by decide) rfl rfl hnm rfl (by decide +kernel) (fun _ => rfl) (fun _ => rfl) (seq_ok (by decide +kernel)) ?_
  refine aw_aload_n K dX9_init_59 0 rfl rfl ?_
  refine aw_bipush (v := 9) K dX9_init_60 (by decide) ?_
  refine aw_newi (b := 35) (N := 9) K dX9_init_62 (by decide) (by decide) (by decide) hS (by decide +kernel) hw (by decide +kernel) (by omega) (fun j => (hz _ (by omega)).1 j) (by simp [okv]) (by simp [okv]) (by rw [hmc]; decide) (by rw [hms]; decide) (fun ad11 ha11 => ?_)
  have hA := fun (a : Nat) (h : a < k + 1) => (ha11 a (by omega)).trans (hA a h)
  refine aw_putr (fl := [some (some 1), some (some 11), some (some 18), some (some 27), some (some 32), none, none, some none, some none]) (c := 0) (e := 35) (j := 7) (ty := .array .int) (B' := bb_35) K cf9 flX9_46 dX9_init_64 hS (ose_ok (by decide +kernel)) (by decide) rfl rfl hnm rfl (by decide +kernel) (fun _ => rfl) (fun _ => rfl) (seq_ok (by decide +kernel)) ?_
  refine aw_aload_n K dX9_init_67 0 rfl rfl ?_
  refine aw_bipush (v := 9) K dX9_init_68 (by decide) ?_
  refine aw_newi (b := 36) (N := 9) K dX9_init_70 (by decide) (by decide) (by decide) hS (by decide +kernel) hw (by decide +kernel) (by omega) (fun j => (hz _ (by omega)).1 j) (by simp [okv]) (by simp [okv]) (by rw [hmc]; decide) (by rw [hms]; decide) (fun ad12 ha12 => ?_)
  have hA := fun (a : Nat) (h : a < k + 1) => (ha12 a (by omega)).trans (hA a h)
  refine aw_putr (fl := [some (some 1), some (some 11), some (some 18), some (some 27), some (some 32), none, none, some (some 35), some none]) (c := 0) (e := 36) (j := 8) (ty := .array .int) (B' := bb_36) K cf9 flX9_50 dX9_init_72 hS (ose_ok (by decide +kernel)) (by decide) rfl rfl hnm rfl (by decide +kernel) (fun _ => rfl) (fun _ => rfl) (seq_ok (by decide +kernel)) ?_
  refine aw_aload_n K dX9_init_75 0 rfl rfl ?_
  refine aw_bipush (v := 12) K dX9_init_76 (by decide) ?_
  have hV : isVal (ad12, WB S k bb_36) k := ⟨lkB (B := bb_36) (c := 0) (s := .inl (9, [some (some 1), some (some 11), some (some 18), some (some 27), some (some 32), none, none, some (some 35), some (some 36)])) hS (ose_ok (by decide +kernel)), ⟨lkB (B := bb_36) (c := 1) (s := .inl (3, [none, none, none, none, none, none, none, some (some 2), some (some 3), some (some 4), some (some 5), some (some 6), some (some 7), some (some 8), some (some 9), some (some 10)])) hS (ose_ok (by decide +kernel)), lkB (B := bb_36) (c := 2) (s := .inr (.inl 10)) hS (ose_ok (by decide +kernel)), lkB (B := bb_36) (c := 3) (s := .inr (.inl 8)) hS (ose_ok (by decide +kernel)), lkB (B := bb_36) (c := 4) (s := .inr (.inl 9)) hS (ose_ok (by decide +kernel)), lkB (B := bb_36) (c := 5) (s := .inr (.inl 9)) hS (ose_ok (by decide +kernel)), lkB (B := bb_36) (c := 6) (s := .inr (.inl 9)) hS (ose_ok (by decide +kernel)), lkB (B := bb_36) (c := 7) (s := .inr (.inl 9)) hS (ose_ok (by decide +kernel)), lkB (B := bb_36) (c := 8) (s := .inr (.inl 9)) hS (ose_ok (by decide +kernel)), lkB (B := bb_36) (c := 9) (s := .inr (.inl 9)) hS (ose_ok (by decide +kernel)), lkB (B := bb_36) (c := 10) (s := .inr (.inl 81)) hS (ose_ok (by decide +kernel))⟩, ⟨lkB (B := bb_36) (c := 11) (s := .inl (6, [none, none, none, some (some 12), some (some 13), some (some 14), some (some 15), some (some 16), some (some 17)])) hS (ose_ok (by decide +kernel)), lkB (B := bb_36) (c := 12) (s := .inr (.inl 10)) hS (ose_ok (by decide +kernel)), lkB (B := bb_36) (c := 13) (s := .inr (.inl 10)) hS (ose_ok (by decide +kernel)), lkB (B := bb_36) (c := 14) (s := .inr (.inl 10)) hS (ose_ok (by decide +kernel)), lkB (B := bb_36) (c := 15) (s := .inr (.inl 40)) hS (ose_ok (by decide +kernel)), lkB (B := bb_36) (c := 16) (s := .inr (.inl 8)) hS (ose_ok (by decide +kernel)), lkB (B := bb_36) (c := 17) (s := .inr (.inl 8)) hS (ose_ok (by decide +kernel))⟩, ⟨lkB (B := bb_36) (c := 18) (s := .inl (0, [none, some (some 19), some (some 24), none, some (some 25), some (some 26)])) hS (ose_ok (by decide +kernel)), lkB (B := bb_36) (c := 19) (s := .inr (.inr (.inr (false, [some 20, some 21, some 22, some 23])))) hS (ose_ok (by decide +kernel)), lkB (B := bb_36) (c := 20) (s := .inr (.inl 9)) hS (ose_ok (by decide +kernel)), lkB (B := bb_36) (c := 21) (s := .inr (.inl 9)) hS (ose_ok (by decide +kernel)), lkB (B := bb_36) (c := 22) (s := .inr (.inl 9)) hS (ose_ok (by decide +kernel)), lkB (B := bb_36) (c := 23) (s := .inr (.inl 9)) hS (ose_ok (by decide +kernel)), lkB (B := bb_36) (c := 24) (s := .inr (.inl 9)) hS (ose_ok (by decide +kernel)), lkB (B := bb_36) (c := 25) (s := .inr (.inl 9)) hS (ose_ok (by decide +kernel)), lkB (B := bb_36) (c := 26) (s := .inr (.inl 9)) hS (ose_ok (by decide +kernel))⟩, ⟨lkB (B := bb_36) (c := 27) (s := .inl (7, [some (some 28), none, some (some 29), some (some 30), some (some 31)])) hS (ose_ok (by decide +kernel)), lkB (B := bb_36) (c := 28) (s := .inr (.inl 24)) hS (ose_ok (by decide +kernel)), lkB (B := bb_36) (c := 29) (s := .inr (.inl 30)) hS (ose_ok (by decide +kernel)), lkB (B := bb_36) (c := 30) (s := .inr (.inl 30)) hS (ose_ok (by decide +kernel)), lkB (B := bb_36) (c := 31) (s := .inr (.inl 30)) hS (ose_ok (by decide +kernel))⟩, ⟨lkB (B := bb_36) (c := 32) (s := .inl (1, [none, none, some (some 33), some (some 34), none])) hS (ose_ok (by decide +kernel)), lkB (B := bb_36) (c := 33) (s := .inr (.inl 400)) hS (ose_ok (by decide +kernel)), lkB (B := bb_36) (c := 34) (s := .inr (.inl 32)) hS (ose_ok (by decide +kernel))⟩, lkB (B := bb_36) (c := 35) (s := .inr (.inl 9)) hS (ose_ok (by decide +kernel)), lkB (B := bb_36) (c := 36) (s := .inr (.inl 9)) hS (ose_ok (by decide +kernel))⟩
  refine aw_cVv (k := k) (As := [.int 12]) (rest := []) K cf9 lnX9_53 dX9_init_78 (lkB (B := bb_36) (c := 0) (s := .inl (9, [some (some 1), some (some 11), some (some 18), some (some 27), some (some 32), none, none, some (some 35), some (some 36)])) hS (ose_ok (by decide +kernel))) (c_X9_beginWith 12 M hV ) rfl rfl (Nat.le_of_ble_eq_true rfl) (by decide) (by decide) (by rw [hmc]; decide) (by rw [hms]; decide) (fun M_12 h_11 => ?_)
  replace h_11 := h_11.symm
  subst h_11
  refine aw_vret K dX9_init_81 (hq ad12 (vlb M k 12) ?_ hA) hZ (by rw [hmc]) (by rw [hms])
  rfl
