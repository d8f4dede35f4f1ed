def bb_69 : List Sh := [.inl (11, [some none, some none, none, some none, some none, some none, some none])] ++ WBs 1 blk9
def bb_70 : List Sh := List.set bb_69 0 (.inl (11, [some (some 1), some none, none, some none, some none, some none, some none]))
def bb_71 : List Sh := bb_70 ++ WBs 38 blk9
def bb_72 : List Sh := List.set bb_71 0 (.inl (11, [some (some 1), some (some 38), none, some none, some none, some none, some none]))
def bb_73 : List Sh := bb_72 ++ WBs 75 blk4
def bb_74 : List Sh := List.set bb_73 0 (.inl (11, [some (some 1), some (some 38), none, some (some 75), some none, some none, some none]))
def bb_75 : List Sh := bb_74 ++ WBs 157 blk5
def bb_76 : List Sh := List.set bb_75 0 (.inl (11, [some (some 1), some (some 38), none, some (some 75), some (some 157), some none, some none]))
def bb_77 : List Sh := bb_76 ++ WBs 163 blk10
def bb_78 : List Sh := List.set bb_77 0 (.inl (11, [some (some 1), some (some 38), none, some (some 75), some (some 157), some (some 163), some none]))
def bb_79 : List Sh := bb_78 ++ WBs 178 blk2
def bb_80 : List Sh := List.set bb_79 0 (.inl (11, [some (some 1), some (some 38), none, some (some 75), some (some 157), some (some 163), some (some 178)]))
/-- X11_init: its cells -/
def blk11 : List Sh := bb_80
set_option maxHeartbeats 400000 in
set_option maxRecDepth 100000 in
theorem i_X11_init {gk : Gk} {ad : Nat → Nat} {S : List Sh} {k : Nat} (M : Mx) (hS : S.length = k) (hw : WFl S) (h1 : k + 182 < 1000) (hz : Zf M k) : Ct (gk, (ad, WB S k [.inl (11, [some none, some none, none, some none, some none, some none, some none])])) yX11_init cX11_init 1 none 6 181 6283 [.ref k] M (Rc gk (ad, WB S k [.inl (11, [some none, some none, none, some none, some none, some none, some none])]) (WB S k blk11) (fun M' => M' = (up (up (vlb (vlb M (k + 1) 12) (k + 38) 12) k 2 0) (k + 157) 2 (-1)))) := by
  refine Ct.of (by decide) (Nat.le_of_ble_eq_true rfl) ?_
  intro G hgk hQ hmc hms hZ hnm K
  have hgk : gk = xk G := hgk.symm
  subst hgk
  have hq : ∀ (ad' : Nat → Nat) (M' : Mx), (M' = (up (up (vlb (vlb M (k + 1) 12) (k + 38) 12) k 2 0) (k + 157) 2 (-1))) → (∀ a, a < k + 1 → ad' a = ad a) → xQ G (xk G, (ad', WB S k bb_80)) none M' := fun ad' M' h hA => by rw [hQ]; exact ⟨rfl, h, ad', rfl, fun a ha => hA a (by rw [WB_len hS rfl] at ha; exact ha)⟩
  have hA : ∀ a, a < k + 1 → ad a = ad a := fun _ _ => rfl
  show AW G 1 (ad, WB S k [.inl (11, [some none, some none, none, some none, some none, some none, some none])]) 0 0 M 0 [(0, .ref k)] []
  refine aw_aload_n K dX11_init_0 0 rfl rfl ?_
  refine aw_obj K mlX11_3 dX11_init_1 (by decide) (Nat.le_of_ble_eq_true rfl) ?_
  refine aw_aload_n K dX11_init_4 0 rfl rfl ?_
  refine aw_new (b := 1) K cf9 klX11_9 mkX9 iniX9 dX11_init_5 [some none, some none, some none, some none, some none, none, none, some none, some none] bf9 hS (by decide +kernel) hw (by decide +kernel) (by omega) (fun j => (hz _ (by omega)).1 j) (by simp [okv]) (by simp [okv]) (by rw [hmc]; decide) (by rw [hms]; decide) (fun ad1 ha1 => ?_)
  have hA := fun (a : Nat) (h : a < k + 1) => (ha1 a (by omega)).trans (hA a h)
  refine aw_dup K dX11_init_8 rfl ?_
  refine aw_wr ((congrArg (WB S k) (seq_ok (by decide +kernel) : (([.inl (11, [some none, some none, none, some none, some none, some none, some none])] ++ [.inl (9, [some none, some none, some none, some none, some none, none, none, some none, some none])]) : List Sh) = [.inl (11, [some none, some none, none, some none, some none, some none, some none])] ++ WBs 1 [.inl (9, [some none, some none, some none, some none, some none, none, none, some none, some none])])).trans (WB_in (S := S) (k := k) (B := [.inl (11, [some none, some none, none, some none, some none, some none, some none])]) (B' := [.inl (9, [some none, some none, some none, some none, some none, none, none, some none, some none])]) (c := 1) (by decide +kernel)).symm) ?_
  refine aw_cI (e := k + 1) K mlX11_11 insX9_init iniX9 cdX9_init ⟨rfl, by decide, by decide, by decide +kernel⟩ dX11_init_9 (i_X9_init M (WB_len (b := 1) hS (by decide +kernel)) (wf_WB hS hw (by decide +kernel)) (by omega) (Zf_mono (by omega) hz)) (Nat.le_of_ble_eq_true rfl) (by decide) (by decide) (by rw [hmc]; decide) (by rw [hms]; decide) (by rw [WB_len (b := 1) (WB_len (b := 1) hS (by decide +kernel)) rfl]; simp [okv] <;> omega) (by rw [WB_len (b := 1) (WB_len (b := 1) hS (by decide +kernel)) rfl]; simp [okv] <;> omega) (fun ad2 M_1 ha2 h_2 => ?_)
  replace ha2 : ∀ a, a < k + 2 → ad2 a = ad1 a := fun a q => ha2 a (by rw [WB_len (b := 1) (WB_len (b := 1) hS (by decide +kernel)) rfl]; omega)
  replace h_2 := h_2.symm
  subst h_2
  have hA := fun (a : Nat) (h : a < k + 1) => (ha2 a (by omega)).trans (hA a h)
  refine aw_wr ((WB_in (S := S) (k := k) (B := [.inl (11, [some none, some none, none, some none, some none, some none, some none])]) (B' := blk9) (c := 1) (by decide +kernel)).trans (congrArg (WB S k) (seq_ok (by decide +kernel) : ([.inl (11, [some none, some none, none, some none, some none, some none, some none])] : List Sh) ++ WBs 1 blk9 = bb_69))) ?_
  replace hz : Zf (vlb M (k + 1) 12) (k + 38) := fun a h => ⟨fun j => by rw [vlb_o (by omega)]; exact (hz a (by omega)).1 j, fun j => (hz a (by omega)).2 j⟩
  refine aw_putr (fl := [some none, some none, none, some none, some none, some none, some none]) (c := 0) (e := 1) (j := 0) (ty := .object "RopeToALake$Valley") (B' := bb_70) K cf11 flX11_12 dX11_init_12 hS (ose_ok (by decide +kernel)) (by decide) rfl rfl hnm rfl (by decide +kernel) (fun _ => rfl) (fun _ => rfl) (seq_ok (by decide +kernel)) ?_
  refine aw_aload_n K dX11_init_15 0 rfl rfl ?_
  refine aw_new (b := 38) K cf9 klX11_9 mkX9 iniX9 dX11_init_16 [some none, some none, some none, some none, some none, none, none, some none, some none] bf9 hS (by decide +kernel) hw (by decide +kernel) (by omega) (fun j => (hz _ (by omega)).1 j) (by simp [okv]) (by simp [okv]) (by rw [hmc]; decide) (by rw [hms]; decide) (fun ad3 ha3 => ?_)
  have hA := fun (a : Nat) (h : a < k + 1) => (ha3 a (by omega)).trans (hA a h)
  refine aw_dup K dX11_init_19 rfl ?_
  refine aw_wr ((congrArg (WB S k) (seq_ok (by decide +kernel) : ((bb_70 ++ [.inl (9, [some none, some none, some none, some none, some none, none, none, some none, some none])]) : List Sh) = bb_70 ++ WBs 38 [.inl (9, [some none, some none, some none, some none, some none, none, none, some none, some none])])).trans (WB_in (S := S) (k := k) (B := bb_70) (B' := [.inl (9, [some none, some none, some none, some none, some none, none, none, some none, some none])]) (c := 38) (by decide +kernel)).symm) ?_
  refine aw_cI (e := k + 38) K mlX11_11 insX9_init iniX9 cdX9_init ⟨rfl, by decide, by decide, by decide +kernel⟩ dX11_init_20 (i_X9_init (vlb M (k + 1) 12) (WB_len (b := 38) hS (by decide +kernel)) (wf_WB hS hw (by decide +kernel)) (by omega) (Zf_mono (by omega) hz)) (Nat.le_of_ble_eq_true rfl) (by decide) (by decide) (by rw [hmc]; decide) (by rw [hms]; decide) (by rw [WB_len (b := 1) (WB_len (b := 38) hS (by decide +kernel)) rfl]; simp [okv] <;> omega) (by rw [WB_len (b := 1) (WB_len (b := 38) hS (by decide +kernel)) rfl]; simp [okv] <;> omega) (fun ad4 M_3 ha4 h_4 => ?_)
  replace ha4 : ∀ a, a < k + 39 → ad4 a = ad3 a := fun a q => ha4 a (by rw [WB_len (b := 1) (WB_len (b := 38) hS (by decide +kernel)) rfl]; omega)
  replace h_4 := h_4.symm
  subst h_4
  have hA := fun (a : Nat) (h : a < k + 1) => (ha4 a (by omega)).trans (hA a h)
  refine aw_wr ((WB_in (S := S) (k := k) (B := bb_70) (B' := blk9) (c := 38) (by decide +kernel)).trans (congrArg (WB S k) (seq_ok (by decide +kernel) : (bb_70 : List Sh) ++ WBs 38 blk9 = bb_71))) ?_
  replace hz : Zf (vlb (vlb M (k + 1) 12) (k + 38) 12) (k + 75) := fun a h => ⟨fun j => by rw [vlb_o (by omega)]; exact (hz a (by omega)).1 j, fun j => (hz a (by omega)).2 j⟩
  refine aw_putr (fl := [some (some 1), some none, none, some none, some none, some none, some none]) (c := 0) (e := 38) (j := 1) (ty := .object "RopeToALake$Valley") (B' := bb_72) K cf11 flX11_16 dX11_init_23 hS (ose_ok (by decide +kernel)) (by decide) rfl rfl hnm rfl (by decide +kernel) (fun _ => rfl) (fun _ => rfl) (seq_ok (by decide +kernel)) ?_
  refine aw_aload_n K dX11_init_26 0 rfl rfl ?_
  refine aw_iconst (v := 0) K dX11_init_27 (by decide) ?_
  refine aw_puti (j := 2) (i := 2) (ty := .boolean) K cf11 flX11_19 dX11_init_28 (lkB (B := bb_72) (c := 0) (s := .inl (11, [some (some 1), some (some 38), none, some none, some none, some none, some none])) hS (ose_ok (by decide +kernel))) (by decide) rfl rfl rfl (by decide +kernel) rfl rfl (ln_ok rfl) ?_
  replace hz := Zf_up (n := k + 75) (a := k) (i := 2) (x := 0) (by omega) (Zf_mono (by omega) hz)
  refine aw_aload_n K dX11_init_31 0 rfl rfl ?_
  refine aw_new (b := 75) K cf4 klX11_23 mkX4 iniX4 dX11_init_32 [none, none, some none] bf4 hS (by decide +kernel) hw (by decide +kernel) (by omega) (fun j => (hz _ (by omega)).1 j) (by simp [okv]) (by simp [okv]) (by rw [hmc]; decide) (by rw [hms]; decide) (fun ad5 ha5 => ?_)
  have hA := fun (a : Nat) (h : a < k + 1) => (ha5 a (by omega)).trans (hA a h)
  refine aw_dup K dX11_init_35 rfl ?_
  refine aw_wr ((congrArg (WB S k) (seq_ok (by decide +kernel) : ((bb_72 ++ [.inl (4, [none, none, some none])]) : List Sh) = bb_72 ++ WBs 75 [.inl (4, [none, none, some none])])).trans (WB_in (S := S) (k := k) (B := bb_72) (B' := [.inl (4, [none, none, some none])]) (c := 75) (by decide +kernel)).symm) ?_
  refine aw_cI (e := k + 75) K mlX11_25 insX4_init iniX4 cdX4_init ⟨rfl, by decide, by decide, by decide +kernel⟩ dX11_init_36 (i_X4_init (up (vlb (vlb M (k + 1) 12) (k + 38) 12) k 2 0) (WB_len (b := 75) hS (by decide +kernel)) (wf_WB hS hw (by decide +kernel)) (by omega) (Zf_mono (by omega) hz)) (Nat.le_of_ble_eq_true rfl) (by decide) (by decide) (by rw [hmc]; decide) (by rw [hms]; decide) (by rw [WB_len (b := 1) (WB_len (b := 75) hS (by decide +kernel)) rfl]; simp [okv] <;> omega) (by rw [WB_len (b := 1) (WB_len (b := 75) hS (by decide +kernel)) rfl]; simp [okv] <;> omega) (fun ad6 M_5 ha6 h_6 => ?_)
  replace ha6 : ∀ a, a < k + 76 → ad6 a = ad5 a := fun a q => ha6 a (by rw [WB_len (b := 1) (WB_len (b := 75) hS (by decide +kernel)) rfl]; omega)
  replace h_6 := h_6.symm
  subst h_6
  have hA := fun (a : Nat) (h : a < k + 1) => (ha6 a (by omega)).trans (hA a h)
  refine aw_wr ((WB_in (S := S) (k := k) (B := bb_72) (B' := blk4) (c := 75) (by decide +kernel)).trans (congrArg (WB S k) (seq_ok (by decide +kernel) : (bb_72 : List Sh) ++ WBs 75 blk4 = bb_73))) ?_
  refine aw_putr (fl := [some (some 1), some (some 38), none, some none, some none, some none, some none]) (c := 0) (e := 75) (j := 3) (ty := .object "RopeToALake$Past") (B' := bb_74) K cf11 flX11_26 dX11_init_39 hS (ose_ok (by decide +kernel)) (by decide) rfl rfl hnm rfl (by decide +kernel) (fun _ => rfl) (fun _ => rfl) (seq_ok (by decide +kernel)) ?_
  refine aw_aload_n K dX11_init_42 0 rfl rfl ?_
  refine aw_new (b := 157) K cf5 klX11_30 mkX5 iniX5 dX11_init_43 [some none, none, none, none, none, some none, none, none] bf5 hS (by decide +kernel) hw (by decide +kernel) (by omega) (fun j => (hz _ (by omega)).1 j) (by simp [okv]) (by simp [okv]) (by rw [hmc]; decide) (by rw [hms]; decide) (fun ad7 ha7 => ?_)
  have hA := fun (a : Nat) (h : a < k + 1) => (ha7 a (by omega)).trans (hA a h)
  refine aw_dup K dX11_init_46 rfl ?_
  refine aw_wr ((congrArg (WB S k) (seq_ok (by decide +kernel) : ((bb_74 ++ [.inl (5, [some none, none, none, none, none, some none, none, none])]) : List Sh) = bb_74 ++ WBs 157 [.inl (5, [some none, none, none, none, none, some none, none, none])])).trans (WB_in (S := S) (k := k) (B := bb_74) (B' := [.inl (5, [some none, none, none, none, none, some none, none, none])]) (c := 157) (by decide +kernel)).symm) ?_
  refine aw_cIN (e := k + 157) K mnX11_32 insX5_init iniX5 cdX5_init ⟨rfl, by decide, by decide, by decide +kernel⟩ dX11_init_47 (i_X5_init (up (vlb (vlb M (k + 1) 12) (k + 38) 12) k 2 0) (WB_len (b := 157) hS (by decide +kernel)) (wf_WB hS hw (by decide +kernel)) (by omega) (Zf_mono (by omega) hz)) (Nat.le_of_ble_eq_true rfl) (by decide) (by decide) (by rw [hmc]; decide) (by rw [hms]; decide) (by rw [WB_len (b := 1) (WB_len (b := 157) hS (by decide +kernel)) rfl]; simp [okv] <;> omega) (by rw [WB_len (b := 1) (WB_len (b := 157) hS (by decide +kernel)) rfl]; simp [okv] <;> omega) (fun ad8 M_7 ha8 h_8 => ?_)
  replace ha8 : ∀ a, a < k + 158 → ad8 a = ad7 a := fun a q => ha8 a (by rw [WB_len (b := 1) (WB_len (b := 157) hS (by decide +kernel)) rfl]; omega)
  replace h_8 := h_8.symm
  subst h_8
  have hA := fun (a : Nat) (h : a < k + 1) => (ha8 a (by omega)).trans (hA a h)
  refine aw_wr ((WB_in (S := S) (k := k) (B := bb_74) (B' := blk5) (c := 157) (by decide +kernel)).trans (congrArg (WB S k) (seq_ok (by decide +kernel) : (bb_74 : List Sh) ++ WBs 157 blk5 = bb_75))) ?_
  replace hz : Zf (up (up (vlb (vlb M (k + 1) 12) (k + 38) 12) k 2 0) (k + 157) 2 (-1)) (k + 163) := Zf_up (by omega) (Zf_mono (by omega) hz)
  refine aw_putr (fl := [some (some 1), some (some 38), none, some (some 75), some none, some none, some none]) (c := 0) (e := 157) (j := 4) (ty := .object "RopeToALake$Reader") (B' := bb_76) K cf11 flX11_33 dX11_init_50 hS (ose_ok (by decide +kernel)) (by decide) rfl rfl hnm rfl (by decide +kernel) (fun _ => rfl) (fun _ => rfl) (seq_ok (by decide +kernel)) ?_
  refine aw_aload_n K dX11_init_53 0 rfl rfl ?_
  refine aw_new (b := 163) K cf10 klX11_37 mkX10 iniX10 dX11_init_54 [none, some none, some none, some none, some none, some none] bf10 hS (by decide +kernel) hw (by decide +kernel) (by omega) (fun j => (hz _ (by omega)).1 j) (by simp [okv]) (by simp [okv]) (by rw [hmc]; decide) (by rw [hms]; decide) (fun ad9 ha9 => ?_)
  have hA := fun (a : Nat) (h : a < k + 1) => (ha9 a (by omega)).trans (hA a h)
  refine aw_dup K dX11_init_57 rfl ?_
  refine aw_wr ((congrArg (WB S k) (seq_ok (by decide +kernel) : ((bb_76 ++ [.inl (10, [none, some none, some none, some none, some none, some none])]) : List Sh) = bb_76 ++ WBs 163 [.inl (10, [none, some none, some none, some none, some none, some none])])).trans (WB_in (S := S) (k := k) (B := bb_76) (B' := [.inl (10, [none, some none, some none, some none, some none, some none])]) (c := 163) (by decide +kernel)).symm) ?_
  refine aw_cIN (e := k + 163) K mnX11_39 insX10_init iniX10 cdX10_init ⟨rfl, by decide, by decide, by decide +kernel⟩ dX11_init_58 (i_X10_init (up (up (vlb (vlb M (k + 1) 12) (k + 38) 12) k 2 0) (k + 157) 2 (-1)) (WB_len (b := 163) hS (by decide +kernel)) (wf_WB hS hw (by decide +kernel)) (by omega) (Zf_mono (by omega) hz)) (Nat.le_of_ble_eq_true rfl) (by decide) (by decide) (by rw [hmc]; decide) (by rw [hms]; decide) (by rw [WB_len (b := 1) (WB_len (b := 163) hS (by decide +kernel)) rfl]; simp [okv] <;> omega) (by rw [WB_len (b := 1) (WB_len (b := 163) hS (by decide +kernel)) rfl]; simp [okv] <;> omega) (fun ad10 M_9 ha10 h_10 => ?_)
  replace ha10 : ∀ a, a < k + 164 → ad10 a = ad9 a := fun a q => ha10 a (by rw [WB_len (b := 1) (WB_len (b := 163) hS (by decide +kernel)) rfl]; omega)
  replace h_10 := h_10.symm
  subst h_10
  have hA := fun (a : Nat) (h : a < k + 1) => (ha10 a (by omega)).trans (hA a h)
  refine aw_wr ((WB_in (S := S) (k := k) (B := bb_76) (B' := blk10) (c := 163) (by decide +kernel)).trans (congrArg (WB S k) (seq_ok (by decide +kernel) : (bb_76 : List Sh) ++ WBs 163 blk10 = bb_77))) ?_
  refine aw_putr (fl := [some (some 1), some (some 38), none, some (some 75), some (some 157), some none, some none]) (c := 0) (e := 163) (j := 5) (ty := .object "RopeToALake$Watches") (B' := bb_78) K cf11 flX11_40 dX11_init_61 hS (ose_ok (by decide +kernel)) (by decide) rfl rfl hnm rfl (by decide +kernel) (fun _ => rfl) (fun _ => rfl) (seq_ok (by decide +kernel)) ?_
  refine aw_aload_n K dX11_init_64 0 rfl rfl ?_
  refine aw_new (b := 178) K cf2 klX11_44 mkX2 iniX2 dX11_init_65 [some none, some none, some none] bf2 hS (by decide +kernel) hw (by decide +kernel) (by omega) (fun j => (hz _ (by omega)).1 j) (by simp [okv]) (by simp [okv]) (by rw [hmc]; decide) (by rw [hms]; decide) (fun ad11 ha11 => ?_)
  have hA := fun (a : Nat) (h : a < k + 1) => (ha11 a (by omega)).trans (hA a h)
  refine aw_dup K dX11_init_68 rfl ?_
  refine aw_wr ((congrArg (WB S k) (seq_ok (by decide +kernel) : ((bb_78 ++ [.inl (2, [some none, some none, some none])]) : List Sh) = bb_78 ++ WBs 178 [.inl (2, [some none, some none, some none])])).trans (WB_in (S := S) (k := k) (B := bb_78) (B' := [.inl (2, [some none, some none, some none])]) (c := 178) (by decide +kernel)).symm) ?_
  refine aw_cIN (e := k + 178) K mnX11_46 insX2_init iniX2 cdX2_init ⟨rfl, by decide, by decide, by decide +kernel⟩ dX11_init_69 (i_X2_init (up (up (vlb (vlb M (k + 1) 12) (k + 38) 12) k 2 0) (k + 157) 2 (-1)) (WB_len (b := 178) hS (by decide +kernel)) (wf_WB hS hw (by decide +kernel)) (by omega) (Zf_mono (by omega) hz)) (Nat.le_of_ble_eq_true rfl) (by decide) (by decide) (by rw [hmc]; decide) (by rw [hms]; decide) (by rw [WB_len (b := 1) (WB_len (b := 178) hS (by decide +kernel)) rfl]; simp [okv] <;> omega) (by rw [WB_len (b := 1) (WB_len (b := 178) hS (by decide +kernel)) rfl]; simp [okv] <;> omega) (fun ad12 M_11 ha12 h_12 => ?_)
  replace ha12 : ∀ a, a < k + 179 → ad12 a = ad11 a := fun a q => ha12 a (by rw [WB_len (b := 1) (WB_len (b := 178) hS (by decide +kernel)) rfl]; omega)
  replace h_12 := h_12.symm
  subst h_12
  have hA := fun (a : Nat) (h : a < k + 1) => (ha12 a (by omega)).trans (hA a h)
  refine aw_wr ((WB_in (S := S) (k := k) (B := bb_78) (B' := blk2) (c := 178) (by decide +kernel)).trans (congrArg (WB S k) (seq_ok (by decide +kernel) : (bb_78 : List Sh) ++ WBs 178 blk2 = bb_79))) ?_
  refine aw_putr (fl := [some (some 1), some (some 38), none, some (some 75), some (some 157), some (some 163), some none]) (c := 0) (e := 178) (j := 6) (ty := .object "RopeToALake$Ledger") (B' := bb_80) K cf11 flX11_47 dX11_init_72 hS (ose_ok (by decide +kernel)) (by decide) rfl rfl hnm rfl (by decide +kernel) (fun _ => rfl) (fun _ => rfl) (seq_ok (by decide +kernel)) ?_
  refine aw_vret K dX11_init_75 (hq ad12 (up (up (vlb (vlb M (k + 1) 12) (k + 38) 12) k 2 0) (k + 157) 2 (-1)) ?_ hA) hZ (by rw [hmc]) (by rw [hms])
  rfl
