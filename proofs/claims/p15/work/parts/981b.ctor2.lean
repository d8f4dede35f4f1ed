def bb_37 : List Sh := List.set ([.inl (4, [none, none, some none])] ++ [.inr (.inr (.inr (true, List.replicate 8 none)))]) 0 (.inl (4, [none, none, some (some 1)]))
def bb_38 : List Sh := bb_37 ++ WBs 2 blk3
def bb_39 : List Sh := List.set bb_38 1 (.inr (.inr (.inr (true, [some 2, none, none, none, none, none, none, none]))))
def bb_40 : List Sh := bb_39 ++ WBs 12 blk3
def bb_41 : List Sh := List.set bb_40 1 (.inr (.inr (.inr (true, [some 2, some 12, none, none, none, none, none, none]))))
def bb_42 : List Sh := bb_41 ++ WBs 22 blk3
def bb_43 : List Sh := List.set bb_42 1 (.inr (.inr (.inr (true, [some 2, some 12, some 22, none, none, none, none, none]))))
def bb_44 : List Sh := bb_43 ++ WBs 32 blk3
def bb_45 : List Sh := List.set bb_44 1 (.inr (.inr (.inr (true, [some 2, some 12, some 22, some 32, none, none, none, none]))))
def bb_46 : List Sh := bb_45 ++ WBs 42 blk3
def bb_47 : List Sh := List.set bb_46 1 (.inr (.inr (.inr (true, [some 2, some 12, some 22, some 32, some 42, none, none, none]))))
def bb_48 : List Sh := bb_47 ++ WBs 52 blk3
def bb_49 : List Sh := List.set bb_48 1 (.inr (.inr (.inr (true, [some 2, some 12, some 22, some 32, some 42, some 52, none, none]))))
def bb_50 : List Sh := bb_49 ++ WBs 62 blk3
def bb_51 : List Sh := List.set bb_50 1 (.inr (.inr (.inr (true, [some 2, some 12, some 22, some 32, some 42, some 52, some 62, none]))))
def bb_52 : List Sh := bb_51 ++ WBs 72 blk3
def bb_53 : List Sh := List.set bb_52 1 (.inr (.inr (.inr (true, [some 2, some 12, some 22, some 32, some 42, some 52, some 62, some 72]))))
/-- X4_init: its cells -/
def blk4 : List Sh := bb_53
set_option maxHeartbeats 400000 in
set_option maxRecDepth 100000 in
theorem i_X4_init {gk : Gk} {ad : Nat → Nat} {S : List Sh} {k : Nat} (M : Mx) (hS : S.length = k) (hw : WFl S) (h1 : k + 82 < 1000) (hz : Zf M k) : Ct (gk, (ad, WB S k [.inl (4, [none, none, some none])])) yX4_init cX4_init 2 none 3 81 1360 [.ref k] M (Rc gk (ad, WB S k [.inl (4, [none, none, some none])]) (WB S k blk4) (fun M' => M' = M)) := by
  refine Ct.of (by decide) (Nat.le_of_ble_eq_true rfl) ?_
  intro G hgk hQ hmc hms hZ hnm K
  have hgk : gk = xk G := hgk.symm
  subst hgk
  have hq : ∀ (ad' : Nat → Nat) (M' : Mx), (M' = M) → (∀ a, a < k + 1 → ad' a = ad a) → xQ G (xk G, (ad', WB S k bb_53)) none M' := fun ad' M' h hA => by rw [hQ]; exact ⟨rfl, h, ad', rfl, fun a ha => hA a (by rw [WB_len hS rfl] at ha; exact ha)⟩
  have hA : ∀ a, a < k + 1 → ad a = ad a := fun _ _ => rfl
  show AW G 2 (ad, WB S k [.inl (4, [none, none, some none])]) 0 0 M 0 [(0, .ref k)] []
  refine aw_aload_n K dX4_init_0 0 rfl rfl ?_
  refine aw_obj K mlX4_1 dX4_init_1 (by decide) (Nat.le_of_ble_eq_true rfl) ?_
  refine aw_aload_n K dX4_init_4 0 rfl rfl ?_
  refine aw_bipush (v := 8) K dX4_init_5 (by decide) ?_
  refine aw_newm (b := 1) (N := 8) K klX4_9 dX4_init_7 (by decide) (by decide) (by decide) hS (by decide +kernel) hw (by decide +kernel) (by omega) (by simp [okv]) (by simp [okv]) (by rw [hmc]; decide) (by rw [hms]; decide) (fun ad1 ha1 => ?_)
  have hA := fun (a : Nat) (h : a < k + 1) => (ha1 a (by omega)).trans (hA a h)
  refine aw_putr (fl := [none, none, some none]) (c := 0) (e := 1) (j := 2) (ty := .array (.object "RopeToALake$Moving")) (B' := bb_37) K cf4 flX4_11 dX4_init_10 hS (ose_ok (by decide +kernel)) (by decide) rfl rfl hnm rfl (by decide +kernel) (fun _ => rfl) (fun _ => rfl) (seq_ok (by decide +kernel)) ?_
  refine aw_iconst (v := 0) K dX4_init_13 (by decide) ?_
  refine aw_istore_n (lv' := [(0, .ref k), (1, .int 0)]) K dX4_init_14 [1, 0] rfl rfl (by decide) ?_
  refine aw_iload_n K dX4_init_15 1 rfl rfl ?_
  refine aw_bipush (v := 8) K dX4_init_16 (by decide) ?_
  refine aw_icmp_ge (tgt := 40) K dX4_init_18 (by decide) (fun c_1 => by exact absurd c_1 (by decide)) (fun c_1 => ?_)
  refine aw_aload_n K dX4_init_21 0 rfl rfl ?_
  refine aw_getr (j := 2) K cf4 flX4_11 dX4_init_22 (lkB (B := bb_37) (c := 0) (s := .inl (4, [none, none, some (some 1)])) hS (ose_ok (by decide +kernel))) (by decide) rfl ?_
  refine aw_iload_n K dX4_init_25 1 rfl rfl ?_
  refine aw_new (b := 2) K cf3 klX4_9 mkX3 iniX3 dX4_init_26 [none, none, none, none, none, none, none, some none, some none, some none, some none, some none, some none, some none, some none, some none] bf3 hS (by decide +kernel) hw (by decide +kernel) (by omega) (fun j => (hz _ (by omega)).1 j) (by simp [okv]) (by simp [okv]) (by rw [hmc]; decide) (by rw [hms]; decide) (fun ad2 ha2 => ?_)
  have hA := fun (a : Nat) (h : a < k + 1) => (ha2 a (by omega)).trans (hA a h)
  refine aw_dup K dX4_init_29 rfl ?_
  refine aw_wr ((congrArg (WB S k) (seq_ok (by decide +kernel) : ((bb_37 ++ [.inl (3, [none, none, none, none, none, none, none, some none, some none, some none, some none, some none, some none, some none, some none, some none])]) : List Sh) = bb_37 ++ WBs 2 [.inl (3, [none, none, none, none, none, none, none, some none, some none, some none, some none, some none, some none, some none, some none, some none])])).trans (WB_in (S := S) (k := k) (B := bb_37) (B' := [.inl (3, [none, none, none, none, none, none, none, some none, some none, some none, some none, some none, some none, some none, some none, some none])]) (c := 2) (by decide +kernel)).symm) ?_
  refine aw_cIN (e := k + 2) K mnX4_15 insX3_init iniX3 cdX3_init ⟨rfl, by decide, by decide, by decide +kernel⟩ dX4_init_30 (i_X3_init M (WB_len (b := 2) hS (by decide +kernel)) (wf_WB hS hw (by decide +kernel)) (by omega) (Zf_mono (by omega) hz)) (Nat.le_of_ble_eq_true rfl) (by decide) (by decide) (by rw [hmc]; decide) (by rw [hms]; decide) (by rw [WB_len (b := 1) (WB_len (b := 2) hS (by decide +kernel)) rfl]; simp [okv] <;> omega) (by rw [WB_len (b := 1) (WB_len (b := 2) hS (by decide +kernel)) rfl]; simp [okv] <;> omega) (fun ad3 M_2 ha3 h_3 => ?_)
  replace ha3 : ∀ a, a < k + 3 → ad3 a = ad2 a := fun a q => ha3 a (by rw [WB_len (b := 1) (WB_len (b := 2) hS (by decide +kernel)) rfl]; omega)
  replace h_3 := h_3.symm
  subst h_3
  have hA := fun (a : Nat) (h : a < k + 1) => (ha3 a (by omega)).trans (hA a h)
  refine aw_wr ((WB_in (S := S) (k := k) (B := bb_37) (B' := blk3) (c := 2) (by decide +kernel)).trans (congrArg (WB S k) (seq_ok (by decide +kernel) : (bb_37 : List Sh) ++ WBs 2 blk3 = bb_38))) ?_
  refine aw_aast (r := [none, none, none, none, none, none, none, none]) (fl := [none, none, none, none, none, none, none, some (some 3), some (some 4), some (some 5), some (some 6), some (some 7), some (some 8), some (some 9), some (some 10), some (some 11)]) (c := 1) (e := 2) (j := 0) (B' := bb_39) K dX4_init_33 hS (ose_ok (by decide +kernel)) (ose_ok (by decide +kernel)) rfl (by decide) (by decide) (seq_ok (by decide +kernel)) ?_
  refine aw_iinc (v := 1) (lv' := [(0, .ref k), (1, .int 1)]) K dX4_init_34 1 rfl (by decide) [1, 0] rfl (by decide) ?_
  refine aw_goto (tgt := 15) K dX4_init_37 (by decide) ?_
  refine aw_iload_n K dX4_init_15 1 rfl rfl ?_
  refine aw_bipush (v := 8) K dX4_init_16 (by decide) ?_
  refine aw_icmp_ge (tgt := 40) K dX4_init_18 (by decide) (fun c_4 => by exact absurd c_4 (by decide)) (fun c_4 => ?_)
  refine aw_aload_n K dX4_init_21 0 rfl rfl ?_
  refine aw_getr (j := 2) K cf4 flX4_11 dX4_init_22 (lkB (B := bb_39) (c := 0) (s := .inl (4, [none, none, some (some 1)])) hS (ose_ok (by decide +kernel))) (by decide) rfl ?_
  refine aw_iload_n K dX4_init_25 1 rfl rfl ?_
  refine aw_new (b := 12) K cf3 klX4_9 mkX3 iniX3 dX4_init_26 [none, none, none, none, none, none, none, some none, some none, some none, some none, some none, some none, some none, some none, some none] bf3 hS (by decide +kernel) hw (by decide +kernel) (by omega) (fun j => (hz _ (by omega)).1 j) (by simp [okv]) (by simp [okv]) (by rw [hmc]; decide) (by rw [hms]; decide) (fun ad4 ha4 => ?_)
  have hA := fun (a : Nat) (h : a < k + 1) => (ha4 a (by omega)).trans (hA a h)
  refine aw_dup K dX4_init_29 rfl ?_
  refine aw_wr ((congrArg (WB S k) (seq_ok (by decide +kernel) : ((bb_39 ++ [.inl (3, [none, none, none, none, none, none, none, some none, some none, some none, some none, some none, some none, some none, some none, some none])]) : List Sh) = bb_39 ++ WBs 12 [.inl (3, [none, none, none, none, none, none, none, some none, some none, some none, some none, some none, some none, some none, some none, some none])])).trans (WB_in (S := S) (k := k) (B := bb_39) (B' := [.inl (3, [none, none, none, none, none, none, none, some none, some none, some none, some none, some none, some none, some none, some none, some none])]) (c := 12) (by decide +kernel)).symm) ?_
  refine aw_cIN (e := k + 12) K mnX4_15 insX3_init iniX3 cdX3_init ⟨rfl, by decide, by decide, by decide +kernel⟩ dX4_init_30 (i_X3_init M (WB_len (b := 12) hS (by decide +kernel)) (wf_WB hS hw (by decide +kernel)) (by omega) (Zf_mono (by omega) hz)) (Nat.le_of_ble_eq_true rfl) (by decide) (by decide) (by rw [hmc]; decide) (by rw [hms]; decide) (by rw [WB_len (b := 1) (WB_len (b := 12) hS (by decide +kernel)) rfl]; simp [okv] <;> omega) (by rw [WB_len (b := 1) (WB_len (b := 12) hS (by decide +kernel)) rfl]; simp [okv] <;> omega) (fun ad5 M_5 ha5 h_6 => ?_)
  replace ha5 : ∀ a, a < k + 13 → ad5 a = ad4 a := fun a q => ha5 a (by rw [WB_len (b := 1) (WB_len (b := 12) hS (by decide +kernel)) rfl]; omega)
  replace h_6 := h_6.symm
  subst h_6
  have hA := fun (a : Nat) (h : a < k + 1) => (ha5 a (by omega)).trans (hA a h)
  refine aw_wr ((WB_in (S := S) (k := k) (B := bb_39) (B' := blk3) (c := 12) (by decide +kernel)).trans (congrArg (WB S k) (seq_ok (by decide +kernel) : (bb_39 : List Sh) ++ WBs 12 blk3 = bb_40))) ?_
  refine aw_aast (r := [some 2, none, none, none, none, none, none, none]) (fl := [none, none, none, none, none, none, none, some (some 13), some (some 14), some (some 15), some (some 16), some (some 17), some (some 18), some (some 19), some (some 20), some (some 21)]) (c := 1) (e := 12) (j := 1) (B' := bb_41) K dX4_init_33 hS (ose_ok (by decide +kernel)) (ose_ok (by decide +kernel)) rfl (by decide) (by decide) (seq_ok (by decide +kernel)) ?_
  refine aw_iinc (v := 2) (lv' := [(0, .ref k), (1, .int 2)]) K dX4_init_34 1 rfl (by decide) [1, 0] rfl (by decide) ?_
  refine aw_goto (tgt := 15) K dX4_init_37 (by decide) ?_
  refine aw_iload_n K dX4_init_15 1 rfl rfl ?_
  refine aw_bipush (v := 8) K dX4_init_16 (by decide) ?_
  refine aw_icmp_ge (tgt := 40) K dX4_init_18 (by decide) (fun c_7 => by exact absurd c_7 (by decide)) (fun c_7 => ?_)
  refine aw_aload_n K dX4_init_21 0 rfl rfl ?_
  refine aw_getr (j := 2) K cf4 flX4_11 dX4_init_22 (lkB (B := bb_41) (c := 0) (s := .inl (4, [none, none, some (some 1)])) hS (ose_ok (by decide +kernel))) (by decide) rfl ?_
  refine aw_iload_n K dX4_init_25 1 rfl rfl ?_
  refine aw_new (b := 22) K cf3 klX4_9 mkX3 iniX3 dX4_init_26 [none, none, none, none, none, none, none, some none, some none, some none, some none, some none, some none, some none, some none, some none] bf3 hS (by decide +kernel) hw (by decide +kernel) (by omega) (fun j => (hz _ (by omega)).1 j) (by simp [okv]) (by simp [okv]) (by rw [hmc]; decide) (by rw [hms]; decide) (fun ad6 ha6 => ?_)
  have hA := fun (a : Nat) (h : a < k + 1) => (ha6 a (by omega)).trans (hA a h)
  refine aw_dup K dX4_init_29 rfl ?_
  refine aw_wr ((congrArg (WB S k) (seq_ok (by decide +kernel) : ((bb_41 ++ [.inl (3, [none, none, none, none, none, none, none, some none, some none, some none, some none, some none, some none, some none, some none, some none])]) : List Sh) = bb_41 ++ WBs 22 [.inl (3, [none, none, none, none, none, none, none, some none, some none, some none, some none, some none, some none, some none, some none, some none])])).trans (WB_in (S := S) (k := k) (B := bb_41) (B' := [.inl (3, [none, none, none, none, none, none, none, some none, some none, some none, some none, some none, some none, some none, some none, some none])]) (c := 22) (by decide +kernel)).symm) ?_
  refine aw_cIN (e := k + 22) K mnX4_15 insX3_init iniX3 cdX3_init ⟨rfl, by decide, by decide, by decide +kernel⟩ dX4_init_30 (i_X3_init M (WB_len (b := 22) hS (by decide +kernel)) (wf_WB hS hw (by decide +kernel)) (by omega) (Zf_mono (by omega) hz)) (Nat.le_of_ble_eq_true rfl) (by decide) (by decide) (by rw [hmc]; decide) (by rw [hms]; decide) (by rw [WB_len (b := 1) (WB_len (b := 22) hS (by decide +kernel)) rfl]; simp [okv] <;> omega) (by rw [WB_len (b := 1) (WB_len (b := 22) hS (by decide +kernel)) rfl]; simp [okv] <;> omega) (fun ad7 M_8 ha7 h_9 => ?_)
  replace ha7 : ∀ a, a < k + 23 → ad7 a = ad6 a := fun a q => ha7 a (by rw [WB_len (b := 1) (WB_len (b := 22) hS (by decide +kernel)) rfl]; omega)
  replace h_9 := h_9.symm
  subst h_9
  have hA := fun (a : Nat) (h : a < k + 1) => (ha7 a (by omega)).trans (hA a h)
  refine aw_wr ((WB_in (S := S) (k := k) (B := bb_41) (B' := blk3) (c := 22) (by decide +kernel)).trans (congrArg (WB S k) (seq_ok (by decide +kernel) : (bb_41 : List Sh) ++ WBs 22 blk3 = bb_42))) ?_
  refine aw_aast (r := [some 2, some 12, none, none, none, none, none, none]) (fl := [none, none, none, none, none, none, none, some (some 23), some (some 24), some (some 25), some (some 26), some (some 27), some (some 28), some (some 29), some (some 30), some (some 31)]) (c := 1) (e := 22) (j := 2) (B' := bb_43) K dX4_init_33 hS (ose_ok (by decide +kernel)) (ose_ok (by decide +kernel)) rfl (by decide) (by decide) (seq_ok (by decide +kernel)) ?_
  refine aw_iinc (v := 3) (lv' := [(0, .ref k), (1, .int 3)]) K dX4_init_34 1 rfl (by decide) [1, 0] rfl (by decide) ?_
  refine aw_goto (tgt := 15) K dX4_init_37 (by decide) ?_
  refine aw_iload_n K dX4_init_15 1 rfl rfl ?_
  refine aw_bipush (v := 8) K dX4_init_16 (by decide) ?_
  refine aw_icmp_ge (tgt := 40) K dX4_init_18 (by decide) (fun c_10 => by exact absurd c_10 (by decide)) (fun c_10 => ?_)
  refine aw_aload_n K dX4_init_21 0 rfl rfl ?_
  refine aw_getr (j := 2) K cf4 flX4_11 dX4_init_22 (lkB (B := bb_43) (c := 0) (s := .inl (4, [none, none, some (some 1)])) hS (ose_ok (by decide +kernel))) (by decide) rfl ?_
  refine aw_iload_n K dX4_init_25 1 rfl rfl ?_
  refine aw_new (b := 32) K cf3 klX4_9 mkX3 iniX3 dX4_init_26 [none, none, none, none, none, none, none, some none, some none, some none, some none, some none, some none, some none, some none, some none] bf3 hS (by decide +kernel) hw (by decide +kernel) (by omega) (fun j => (hz _ (by omega)).1 j) (by simp [okv]) (by simp [okv]) (by rw [hmc]; decide) (by rw [hms]; decide) (fun ad8 ha8 => ?_)
  have hA := fun (a : Nat) (h : a < k + 1) => (ha8 a (by omega)).trans (hA a h)
  refine aw_dup K dX4_init_29 rfl ?_
  refine aw_wr ((congrArg (WB S k) (seq_ok (by decide +kernel) : ((bb_43 ++ [.inl (3, [none, none, none, none, none, none, none, some none, some none, some none, some none, some none, some none, some none, some none, some none])]) : List Sh) = bb_43 ++ WBs 32 [.inl (3, [none, none, none, none, none, none, none, some none, some none, some none, some none, some none, some none, some none, some none, some none])])).trans (WB_in (S := S) (k := k) (B := bb_43) (B' := [.inl (3, [none, none, none, none, none, none, none, some none, some none, some none, some none, some none, some none, some none, some none, some none])]) (c := 32) (by decide +kernel)).symm) ?_
  refine aw_cIN (e := k + 32) K mnX4_15 insX3_init iniX3 cdX3_init ⟨rfl, by decide, by decide, by decide +kernel⟩ dX4_init_30 (i_X3_init M (WB_len (b := 32) hS (by decide +kernel)) (wf_WB hS hw (by decide +kernel)) (by omega) (Zf_mono (by omega) hz)) (Nat.le_of_ble_eq_true rfl) (by decide) (by decide) (by rw [hmc]; decide) (by rw [hms]; decide) (by rw [WB_len (b := 1) (WB_len (b := 32) hS (by decide +kernel)) rfl]; simp [okv] <;> omega) (by rw [WB_len (b := 1) (WB_len (b := 32) hS (by decide +kernel)) rfl]; simp [okv] <;> omega) (fun ad9 M_11 ha9 h_12 => ?_)
  replace ha9 : ∀ a, a < k + 33 → ad9 a = ad8 a := fun a q => ha9 a (by rw [WB_len (b := 1) (WB_len (b := 32) hS (by decide +kernel)) rfl]; omega)
  replace h_12 := h_12.symm
  subst h_12
  have hA := fun (a : Nat) (h : a < k + 1) => (ha9 a (by omega)).trans (hA a h)
  refine aw_wr ((WB_in (S := S) (k := k) (B := bb_43) (B' := blk3) (c := 32) (by decide +kernel)).trans (congrArg (WB S k) (seq_ok (by decide +kernel) : (bb_43 : List Sh) ++ WBs 32 blk3 = bb_44))) ?_
  refine aw_aast (r := [some 2, some 12, some 22, none, none, none, none, none]) (fl := [none, none, none, none, none, none, none, some (some 33), some (some 34), some (some 35), some (some 36), some (some 37), some (some 38), some (some 39), some (some 40), some (some 41)]) (c := 1) (e := 32) (j := 3) (B' := bb_45) K dX4_init_33 hS (ose_ok (by decide +kernel)) (ose_ok (by decide +kernel)) rfl (by decide) (by decide) (seq_ok (by decide +kernel)) ?_
  refine aw_iinc (v := 4) (lv' := [(0, .ref k), (1, .int 4)]) K dX4_init_34 1 rfl (by decide) [1, 0] rfl (by decide) ?_
  refine aw_goto (tgt := 15) K dX4_init_37 (by decide) ?_
  refine aw_iload_n K dX4_init_15 1 rfl rfl ?_
  refine aw_bipush (v := 8) K dX4_init_16 (by decide) ?_
  refine aw_icmp_ge (tgt := 40) K dX4_init_18 (by decide) (fun c_13 => by exact absurd c_13 (by decide)) (fun c_13 => ?_)
  refine aw_aload_n K dX4_init_21 0 rfl rfl ?_
  refine aw_getr (j := 2) K cf4 flX4_11 dX4_init_22 (lkB (B := bb_45) (c := 0) (s := .inl (4, [none, none, some (some 1)])) hS (ose_ok (by decide +kernel))) (by decide) rfl ?_
  refine aw_iload_n K dX4_init_25 1 rfl rfl ?_
  refine aw_new (b := 42) K cf3 klX4_9 mkX3 iniX3 dX4_init_26 [none, none, none, none, none, none, none, some none, some none, some none, some none, some none, some none, some none, some none, some none] bf3 hS (by decide +kernel) hw (by decide +kernel) (by omega) (fun j => (hz _ (by omega)).1 j) (by simp [okv]) (by simp [okv]) (by rw [hmc]; decide) (by rw [hms]; decide) (fun ad10 ha10 => ?_)
  have hA := fun (a : Nat) (h : a < k + 1) => (ha10 a (by omega)).trans (hA a h)
  refine aw_dup K dX4_init_29 rfl ?_
  refine aw_wr ((congrArg (WB S k) (seq_ok (by decide +kernel) : ((bb_45 ++ [.inl (3, [none, none, none, none, none, none, none, some none, some none, some none, some none, some none, some none, some none, some none, some none])]) : List Sh) = bb_45 ++ WBs 42 [.inl (3, [none, none, none, none, none, none, none, some none, some none, some none, some none, some none, some none, some none, some none, some none])])).trans (WB_in (S := S) (k := k) (B := bb_45) (B' := [.inl (3, [none, none, none, none, none, none, none, some none, some none, some none, some none, some none, some none, some none, some none, some none])]) (c := 42) (by decide +kernel)).symm) ?_
  refine aw_cIN (e := k + 42) K mnX4_15 insX3_init iniX3 cdX3_init ⟨rfl, by decide, by decide, by decide +kernel⟩ dX4_init_30 (i_X3_init M (WB_len (b := 42) hS (by decide +kernel)) (wf_WB hS hw (by decide +kernel)) (by omega) (Zf_mono (by omega) hz)) (Nat.le_of_ble_eq_true rfl) (by decide) (by decide) (by rw [hmc]; decide) (by rw [hms]; decide) (by rw [WB_len (b := 1) (WB_len (b := 42) hS (by decide +kernel)) rfl]; simp [okv] <;> omega) (by rw [WB_len (b := 1) (WB_len (b := 42) hS (by decide +kernel)) rfl]; simp [okv] <;> omega) (fun ad11 M_14 ha11 h_15 => ?_)
  replace ha11 : ∀ a, a < k + 43 → ad11 a = ad10 a := fun a q => ha11 a (by rw [WB_len (b := 1) (WB_len (b := 42) hS (by decide +kernel)) rfl]; omega)
  replace h_15 := h_15.symm
  subst h_15
  have hA := fun (a : Nat) (h : a < k + 1) => (ha11 a (by omega)).trans (hA a h)
  refine aw_wr ((WB_in (S := S) (k := k) (B := bb_45) (B' := blk3) (c := 42) (by decide +kernel)).trans (congrArg (WB S k) (seq_ok (by decide +kernel) : (bb_45 : List Sh) ++ WBs 42 blk3 = bb_46))) ?_
  refine aw_aast (r := [some 2, some 12, some 22, some 32, none, none, none, none]) (fl := [none, none, none, none, none, none, none, some (some 43), some (some 44), some (some 45), some (some 46), some (some 47), some (some 48), some (some 49), some (some 50), some (some 51)]) (c := 1) (e := 42) (j := 4) (B' := bb_47) K dX4_init_33 hS (ose_ok (by decide +kernel)) (ose_ok (by decide +kernel)) rfl (by decide) (by decide) (seq_ok (by decide +kernel)) ?_
  refine aw_iinc (v := 5) (lv' := [(0, .ref k), (1, .int 5)]) K dX4_init_34 1 rfl (by decide) [1, 0] rfl (by decide) ?_
  refine aw_goto (tgt := 15) K dX4_init_37 (by decide) ?_
  refine aw_iload_n K dX4_init_15 1 rfl rfl ?_
  refine aw_bipush (v := 8) K dX4_init_16 (by decide) ?_
  refine aw_icmp_ge (tgt := 40) K dX4_init_18 (by decide) (fun c_16 => by exact absurd c_16 (by decide)) (fun c_16 => ?_)
  refine aw_aload_n K dX4_init_21 0 rfl rfl ?_
  refine aw_getr (j := 2) K cf4 flX4_11 dX4_init_22 (lkB (B := bb_47) (c := 0) (s := .inl (4, [none, none, some (some 1)])) hS (ose_ok (by decide +kernel))) (by decide) rfl ?_
  refine aw_iload_n K dX4_init_25 1 rfl rfl ?_
  refine aw_new (b := 52) K cf3 klX4_9 mkX3 iniX3 dX4_init_26 [none, none, none, none, none, none, none, some none, some none, some none, some none, some none, some none, some none, some none, some none] bf3 hS (by decide +kernel) hw (by decide +kernel) (by omega) (fun j => (hz _ (by omega)).1 j) (by simp [okv]) (by simp [okv]) (by rw [hmc]; decide) (by rw [hms]; decide) (fun ad12 ha12 => ?_)
  have hA := fun (a : Nat) (h : a < k + 1) => (ha12 a (by omega)).trans (hA a h)
  refine aw_dup K dX4_init_29 rfl ?_
  refine aw_wr ((congrArg (WB S k) (seq_ok (by decide +kernel) : ((bb_47 ++ [.inl (3, [none, none, none, none, none, none, none, some none, some none, some none, some none, some none, some none, some none, some none, some none])]) : List Sh) = bb_47 ++ WBs 52 [.inl (3, [none, none, none, none, none, none, none, some none, some none, some none, some none, some none, some none, some none, some none, some none])])).trans (WB_in (S := S) (k := k) (B := bb_47) (B' := [.inl (3, [none, none, none, none, none, none, none, some none, some none, some none, some none, some none, some none, some none, some none, some none])]) (c := 52) (by decide +kernel)).symm) ?_
  refine aw_cIN (e := k + 52) K mnX4_15 insX3_init iniX3 cdX3_init ⟨rfl, by decide, by decide, by decide +kernel⟩ dX4_init_30 (i_X3_init M (WB_len (b := 52) hS (by decide +kernel)) (wf_WB hS hw (by decide +kernel)) (by omega) (Zf_mono (by omega) hz)) (Nat.le_of_ble_eq_true rfl) (by decide) (by decide) (by rw [hmc]; decide) (by rw [hms]; decide) (by rw [WB_len (b := 1) (WB_len (b := 52) hS (by decide +kernel)) rfl]; simp [okv] <;> omega) (by rw [WB_len (b := 1) (WB_len (b := 52) hS (by decide +kernel)) rfl]; simp [okv] <;> omega) (fun ad13 M_17 ha13 h_18 => ?_)
  replace ha13 : ∀ a, a < k + 53 → ad13 a = ad12 a := fun a q => ha13 a (by rw [WB_len (b := 1) (WB_len (b := 52) hS (by decide +kernel)) rfl]; omega)
  replace h_18 := h_18.symm
  subst h_18
  have hA := fun (a : Nat) (h : a < k + 1) => (ha13 a (by omega)).trans (hA a h)
  refine aw_wr ((WB_in (S := S) (k := k) (B := bb_47) (B' := blk3) (c := 52) (by decide +kernel)).trans (congrArg (WB S k) (seq_ok (by decide +kernel) : (bb_47 : List Sh) ++ WBs 52 blk3 = bb_48))) ?_
  refine aw_aast (r := [some 2, some 12, some 22, some 32, some 42, none, none, none]) (fl := [none, none, none, none, none, none, none, some (some 53), some (some 54), some (some 55), some (some 56), some (some 57), some (some 58), some (some 59), some (some 60), some (some 61)]) (c := 1) (e := 52) (j := 5) (B' := bb_49) K dX4_init_33 hS (ose_ok (by decide +kernel)) (ose_ok (by decide +kernel)) rfl (by decide) (by decide) (seq_ok (by decide +kernel)) ?_
  refine aw_iinc (v := 6) (lv' := [(0, .ref k), (1, .int 6)]) K dX4_init_34 1 rfl (by decide) [1, 0] rfl (by decide) ?_
  refine aw_goto (tgt := 15) K dX4_init_37 (by decide) ?_
  refine aw_iload_n K dX4_init_15 1 rfl rfl ?_
  refine aw_bipush (v := 8) K dX4_init_16 (by decide) ?_
  refine aw_icmp_ge (tgt := 40) K dX4_init_18 (by decide) (fun c_19 => by exact absurd c_19 (by decide)) (fun c_19 => ?_)
  refine aw_aload_n K dX4_init_21 0 rfl rfl ?_
  refine aw_getr (j := 2) K cf4 flX4_11 dX4_init_22 (lkB (B := bb_49) (c := 0) (s := .inl (4, [none, none, some (some 1)])) hS (ose_ok (by decide +kernel))) (by decide) rfl ?_
  refine aw_iload_n K dX4_init_25 1 rfl rfl ?_
  refine aw_new (b := 62) K cf3 klX4_9 mkX3 iniX3 dX4_init_26 [none, none, none, none, none, none, none, some none, some none, some none, some none, some none, some none, some none, some none, some none] bf3 hS (by decide +kernel) hw (by decide +kernel) (by omega) (fun j => (hz _ (by omega)).1 j) (by simp [okv]) (by simp [okv]) (by rw [hmc]; decide) (by rw [hms]; decide) (fun ad14 ha14 => ?_)
  have hA := fun (a : Nat) (h : a < k + 1) => (ha14 a (by omega)).trans (hA a h)
  refine aw_dup K dX4_init_29 rfl ?_
  refine aw_wr ((congrArg (WB S k) (seq_ok (by decide +kernel) : ((bb_49 ++ [.inl (3, [none, none, none, none, none, none, none, some none, some none, some none, some none, some none, some none, some none, some none, some none])]) : List Sh) = bb_49 ++ WBs 62 [.inl (3, [none, none, none, none, none, none, none, some none, some none, some none, some none, some none, some none, some none, some none, some none])])).trans (WB_in (S := S) (k := k) (B := bb_49) (B' := [.inl (3, [none, none, none, none, none, none, none, some none, some none, some none, some none, some none, some none, some none, some none, some none])]) (c := 62) (by decide +kernel)).symm) ?_
  refine aw_cIN (e := k + 62) K mnX4_15 insX3_init iniX3 cdX3_init ⟨rfl, by decide, by decide, by decide +kernel⟩ dX4_init_30 (i_X3_init M (WB_len (b := 62) hS (by decide +kernel)) (wf_WB hS hw (by decide +kernel)) (by omega) (Zf_mono (by omega) hz)) (Nat.le_of_ble_eq_true rfl) (by decide) (by decide) (by rw [hmc]; decide) (by rw [hms]; decide) (by rw [WB_len (b := 1) (WB_len (b := 62) hS (by decide +kernel)) rfl]; simp [okv] <;> omega) (by rw [WB_len (b := 1) (WB_len (b := 62) hS (by decide +kernel)) rfl]; simp [okv] <;> omega) (fun ad15 M_20 ha15 h_21 => ?_)
  replace ha15 : ∀ a, a < k + 63 → ad15 a = ad14 a := fun a q => ha15 a (by rw [WB_len (b := 1) (WB_len (b := 62) hS (by decide +kernel)) rfl]; omega)
  replace h_21 := h_21.symm
  subst h_21
  have hA := fun (a : Nat) (h : a < k + 1) => (ha15 a (by omega)).trans (hA a h)
  refine aw_wr ((WB_in (S := S) (k := k) (B := bb_49) (B' := blk3) (c := 62) (by decide +kernel)).trans (congrArg (WB S k) (seq_ok (by decide +kernel) : (bb_49 : List Sh) ++ WBs 62 blk3 = bb_50))) ?_
  refine aw_aast (r := [some 2, some 12, some 22, some 32, some 42, some 52, none, none]) (fl := [none, none, none, none, none, none, none, some (some 63), some (some 64), some (some 65), some (some 66), some (some 67), some (some 68), some (some 69), some (some 70), some (some 71)]) (c := 1) (e := 62) (j := 6) (B' := bb_51) K dX4_init_33 hS (ose_ok (by decide +kernel)) (ose_ok (by decide +kernel)) rfl (by decide) (by decide) (seq_ok (by decide +kernel)) ?_
  refine aw_iinc (v := 7) (lv' := [(0, .ref k), (1, .int 7)]) K dX4_init_34 1 rfl (by decide) [1, 0] rfl (by decide) ?_
  refine aw_goto (tgt := 15) K dX4_init_37 (by decide) ?_
  refine aw_iload_n K dX4_init_15 1 rfl rfl ?_
  refine aw_bipush (v := 8) K dX4_init_16 (by decide) ?_
  refine aw_icmp_ge (tgt := 40) K dX4_init_18 (by decide) (fun c_22 => by exact absurd c_22 (by decide)) (fun c_22 => ?_)
  refine aw_aload_n K dX4_init_21 0 rfl rfl ?_
  refine aw_getr (j := 2) K cf4 flX4_11 dX4_init_22 (lkB (B := bb_51) (c := 0) (s := .inl (4, [none, none, some (some 1)])) hS (ose_ok (by decide +kernel))) (by decide) rfl ?_
  refine aw_iload_n K dX4_init_25 1 rfl rfl ?_
  refine aw_new (b := 72) K cf3 klX4_9 mkX3 iniX3 dX4_init_26 [none, none, none, none, none, none, none, some none, some none, some none, some none, some none, some none, some none, some none, some none] bf3 hS (by decide +kernel) hw (by decide +kernel) (by omega) (fun j => (hz _ (by omega)).1 j) (by simp [okv]) (by simp [okv]) (by rw [hmc]; decide) (by rw [hms]; decide) (fun ad16 ha16 => ?_)
  have hA := fun (a : Nat) (h : a < k + 1) => (ha16 a (by omega)).trans (hA a h)
  refine aw_dup K dX4_init_29 rfl ?_
  refine aw_wr ((congrArg (WB S k) (seq_ok (by decide +kernel) : ((bb_51 ++ [.inl (3, [none, none, none, none, none, none, none, some none, some none, some none, some none, some none, some none, some none, some none, some none])]) : List Sh) = bb_51 ++ WBs 72 [.inl (3, [none, none, none, none, none, none, none, some none, some none, some none, some none, some none, some none, some none, some none, some none])])).trans (WB_in (S := S) (k := k) (B := bb_51) (B' := [.inl (3, [none, none, none, none, none, none, none, some none, some none, some none, some none, some none, some none, some none, some none, some none])]) (c := 72) (by decide +kernel)).symm) ?_
  refine aw_cIN (e := k + 72) K mnX4_15 insX3_init iniX3 cdX3_init ⟨rfl, by decide, by decide, by decide +kernel⟩ dX4_init_30 (i_X3_init M (WB_len (b := 72) hS (by decide +kernel)) (wf_WB hS hw (by decide +kernel)) (by omega) (Zf_mono (by omega) hz)) (Nat.le_of_ble_eq_true rfl) (by decide) (by decide) (by rw [hmc]; decide) (by rw [hms]; decide) (by rw [WB_len (b := 1) (WB_len (b := 72) hS (by decide +kernel)) rfl]; simp [okv] <;> omega) (by rw [WB_len (b := 1) (WB_len (b := 72) hS (by decide +kernel)) rfl]; simp [okv] <;> omega) (fun ad17 M_23 ha17 h_24 => ?_)
  replace ha17 : ∀ a, a < k + 73 → ad17 a = ad16 a := fun a q => ha17 a (by rw [WB_len (b := 1) (WB_len (b := 72) hS (by decide +kernel)) rfl]; omega)
  replace h_24 := h_24.symm
  subst h_24
  have hA := fun (a : Nat) (h : a < k + 1) => (ha17 a (by omega)).trans (hA a h)
  refine aw_wr ((WB_in (S := S) (k := k) (B := bb_51) (B' := blk3) (c := 72) (by decide +kernel)).trans (congrArg (WB S k) (seq_ok (by decide +kernel) : (bb_51 : List Sh) ++ WBs 72 blk3 = bb_52))) ?_
  refine aw_aast (r := [some 2, some 12, some 22, some 32, some 42, some 52, some 62, none]) (fl := [none, none, none, none, none, none, none, some (some 73), some (some 74), some (some 75), some (some 76), some (some 77), some (some 78), some (some 79), some (some 80), some (some 81)]) (c := 1) (e := 72) (j := 7) (B' := bb_53) K dX4_init_33 hS (ose_ok (by decide +kernel)) (ose_ok (by decide +kernel)) rfl (by decide) (by decide) (seq_ok (by decide +kernel)) ?_
  refine aw_iinc (v := 8) (lv' := [(0, .ref k), (1, .int 8)]) K dX4_init_34 1 rfl (by decide) [1, 0] rfl (by decide) ?_
  refine aw_goto (tgt := 15) K dX4_init_37 (by decide) ?_
  refine aw_iload_n K dX4_init_15 1 rfl rfl ?_
  refine aw_bipush (v := 8) K dX4_init_16 (by decide) ?_
  refine aw_icmp_ge (tgt := 40) K dX4_init_18 (by decide) (fun c_25 => ?_) (fun c_25 => by exact absurd c_25 (by decide))
  refine aw_vret K dX4_init_40 (hq ad17 M ?_ hA) hZ (by rw [hmc]) (by rw [hms])
  rfl
