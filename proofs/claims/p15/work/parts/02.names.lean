/-! ===== BEGIN words of one list among another's, by their places ===== -/
theorem goodIn_r {big : List Cond} (ws : List Cond) (ps : List Nat) (hp : ws = ps.filterMap (fun i => big[i]?)) (h : ws.all goodWord = true) : GoodIn big ws := by
  intro w hw
  have h1 := List.all_eq_true.mp h w hw
  rw [hp] at hw
  obtain ⟨i, -, hi⟩ := List.mem_filterMap.mp hw
  have hm : w ∈ big := by first | exact List.mem_of_getElem? hi | exact List.getElem?_mem hi
  exact ⟨hm, good_of_word h1⟩
theorem goodIn_app {big a b : List Cond} (ha : GoodIn big a) (hb : GoodIn big b) : GoodIn big (a ++ b) := fun w h => (List.mem_append.mp h).elim (ha w) (hb w)
theorem goodIn_ca {big a b : List Cond} {c : Cond} (ha : GoodIn big (c :: a)) (hb : GoodIn big b) : GoodIn big (c :: (a ++ b)) := fun w h => (List.mem_cons.mp h).elim (fun e => ha w (List.mem_cons.mpr (Or.inl e))) (fun h => (List.mem_append.mp h).elim (fun h => ha w (List.mem_cons.mpr (Or.inr h))) (hb w))
theorem goodIn_sub {big ws : List Cond} (hm : ∀ w ∈ ws, w ∈ big) (h : ws.all goodWord = true) : GoodIn big ws := fun w hw => ⟨hm w hw, good_of_word (List.all_eq_true.mp h w hw)⟩
/-! ===== END ===== -/

/-! ===== BEGIN new T[n][m]: the outer array a place, the inner ones among the pooled ===== -/
/-- f, but v at every address of l -/
def vr_up {α : Type} (f : Nat → α) (l : List Nat) (v : α) : Nat → α := fun a => if a ∈ l then v else f a
theorem vr_up_in {α : Type} {f : Nat → α} {l : List Nat} {v : α} {a : Nat} (h : a ∈ l) : vr_up f l v a = v := if_pos h
theorem vr_up_ne {α : Type} {f : Nat → α} {l : List Nat} {v : α} {a : Nat} (h : a ∉ l) : vr_up f l v a = f a := if_neg h
theorem vr_rows {L l : List Nat} {f : Nat → va_E} {e : va_E} (h : ∀ a, a ∈ l → a ∉ L) : va_pl L f ++ l.map (fun a => (a, e)) = va_pl (L ++ l) (vr_up f l e) := by
  unfold va_pl
  rw [List.map_append]
  congr 1
  · apply List.map_congr_left
    intro a ha
    rw [vr_up_ne (fun q => h a q ha)]
  · apply List.map_congr_left
    intro a ha
    rw [vr_up_in ha]
theorem vr_lay {X rows : va_W} {x : Nat × va_E} {pl : va_W} {D : va_G} {cl : List vw_C} {H : Heap} (hP : va_P D cl (((X ++ pl) ++ [x]) ++ rows) H) : va_P D cl ((X ++ [x]) ++ (pl ++ rows)) H := by
  rw [List.append_assoc (X ++ pl)] at hP
  have h := va_P.swap hP
  rw [← List.append_assoc X] at h
  have h2 := va_P.swap h
  rw [List.append_assoc (X ++ [x])] at h2
  exact h2
theorem vr_layD {X rows : va_W} {x : Nat × va_E} {pl : va_W} {A : Nat → Prop} (hD : va_D A (((X ++ pl) ++ [x]) ++ rows)) : va_D A ((X ++ [x]) ++ (pl ++ rows)) := by
  rw [List.append_assoc (X ++ pl)] at hD
  have h := va_D.swap hD
  rw [← List.append_assoc X] at h
  have h2 := va_D.swap h
  rw [List.append_assoc (X ++ [x])] at h2
  exact h2
theorem vr_outer (c : ClassId) (N h0 : Nat) : ∀ i : Nat, Jvm.Free.Multi.outerC c N h0 i = arrV c N (fun j => va_rf (if j < i then some (h0 + 1 + j) else none))
  | 0 => by
    show ({ cls := c, slots := Array.replicate N .null, vm := .none } : Cell) = _
    rw [arrV_new]
    refine congrArg (arrV c N) (funext fun j => ?_)
    simp [va_rf]
  | i + 1 => by
    show (Jvm.Free.Multi.outerC c N h0 i).setSlot i (.ref (h0 + 1 + i)) = _
    rw [vr_outer c N h0 i, arrV_store]
    refine congrArg (arrV c N) (funext fun j => ?_)
    by_cases e : j = i
    · subst e
      simp [updV, va_rf]
    · by_cases h : j < i
      · simp [updV, e, h, Nat.lt_succ_of_lt h]
      · simp [updV, e, h, show ¬ j < i + 1 by omega]
/-! ===== END ===== -/

/-! ===== BEGIN printed: names, fields, word lists, decode rows ===== -/
def RX0 : String := "RopeToALake$Folk"
def TX0 : u_T := fun k => match k with
  | 0 => ("RopeToALake$Folk", "farms", "I", false)
  | 1 => ("RopeToALake$Folk", "trait", "[[I", true)
  | 2 => ("RopeToALake$Folk", "foesOf", "[I", true)
  | 3 => ("RopeToALake$Folk", "logs", "I", false)
  | 4 => ("RopeToALake$Folk", "fewestLogged", "[I", true)
  | _ => ("RopeToALake$Folk", "mostLogged", "[I", true)
def tyX0 : Nat → FieldType := fun k => match k with
  | 0 => .int
  | 1 => .array (.array .int)
  | 2 => .array .int
  | 3 => .int
  | 4 => .array .int
  | _ => .array .int
abbrev wsX00 : List Cond := u_ws RX0 TX0 6
theorem nmX0 : ∀ a, a < 6 → ∀ b, b < 6 → a ≠ b → (TX0 a).2.1 ≠ (TX0 b).2.1 := by decide +kernel
theorem tyX0_ok : ∀ k, k < 6 → parseFieldDescriptor (TX0 k).2.2.1 = some (tyX0 k) := by decide +kernel
abbrev cX0_init : ByteArray := prog_2_method_1_code
def yX0_init : MethodName := ⟨RX0, "<init>", "()V"⟩
abbrev cX0_begin : ByteArray := prog_2_method_2_code
def yX0_begin : MethodName := ⟨RX0, "begin", "()V"⟩
abbrev cX0_copyFrom : ByteArray := prog_2_method_3_code
def yX0_copyFrom : MethodName := ⟨RX0, "copyFrom", "(LRopeToALake$Folk;)V"⟩
abbrev cX0_has : ByteArray := prog_2_method_4_code
def yX0_has : MethodName := ⟨RX0, "has", "(I)Z"⟩
abbrev cX0_areTwo : ByteArray := prog_2_method_5_code
def yX0_areTwo : MethodName := ⟨RX0, "areTwo", "(II)Z"⟩
abbrev cX0_isFit : ByteArray := prog_2_method_6_code
def yX0_isFit : MethodName := ⟨RX0, "isFit", "(II)Z"⟩
abbrev cX0_settle : ByteArray := prog_2_method_7_code
def yX0_settle : MethodName := ⟨RX0, "settle", "(IIII)I"⟩
abbrev cX0_learnTrait : ByteArray := prog_2_method_8_code
def yX0_learnTrait : MethodName := ⟨RX0, "learnTrait", "(III)Z"⟩
abbrev cX0_setFoes : ByteArray := prog_2_method_9_code
def yX0_setFoes : MethodName := ⟨RX0, "setFoes", "(IIZ)V"⟩
abbrev cX0_areFoes : ByteArray := prog_2_method_10_code
def yX0_areFoes : MethodName := ⟨RX0, "areFoes", "(II)Z"⟩
abbrev cX0_armsLessWeeds : ByteArray := prog_2_method_11_code
def yX0_armsLessWeeds : MethodName := ⟨RX0, "armsLessWeeds", "(I)I"⟩
abbrev cX0_stepsAnHour : ByteArray := prog_2_method_12_code
def yX0_stepsAnHour : MethodName := ⟨RX0, "stepsAnHour", "(II)I"⟩
abbrev cX0_noteLog : ByteArray := prog_2_method_13_code
def yX0_noteLog : MethodName := ⟨RX0, "noteLog", "(II)Z"⟩
abbrev cX0_leastSlow : ByteArray := prog_2_method_14_code
def yX0_leastSlow : MethodName := ⟨RX0, "leastSlow", "(I)I"⟩
abbrev cX0_mostSlow : ByteArray := prog_2_method_15_code
def yX0_mostSlow : MethodName := ⟨RX0, "mostSlow", "(I)I"⟩
def RX1 : String := "RopeToALake$Law"
def TX1 : u_T := fun k => match k with
  | 0 => ("RopeToALake$Law", "lines", "I", false)
  | 1 => ("RopeToALake$Law", "length", "I", false)
  | 2 => ("RopeToALake$Law", "code", "[I", true)
  | 3 => ("RopeToALake$Law", "stack", "[I", true)
  | _ => ("RopeToALake$Law", "top", "I", false)
def tyX1 : Nat → FieldType := fun k => match k with
  | 0 => .int
  | 1 => .int
  | 2 => .array .int
  | 3 => .array .int
  | _ => .int
abbrev wsX10 : List Cond := u_ws RX1 TX1 5
theorem nmX1 : ∀ a, a < 5 → ∀ b, b < 5 → a ≠ b → (TX1 a).2.1 ≠ (TX1 b).2.1 := by decide +kernel
theorem tyX1_ok : ∀ k, k < 5 → parseFieldDescriptor (TX1 k).2.2.1 = some (tyX1 k) := by decide +kernel
abbrev cX1_init : ByteArray := prog_3_method_1_code
def yX1_init : MethodName := ⟨RX1, "<init>", "()V"⟩
abbrev cX1_begin : ByteArray := prog_3_method_2_code
def yX1_begin : MethodName := ⟨RX1, "begin", "()V"⟩
abbrev cX1_copyFrom : ByteArray := prog_3_method_3_code
def yX1_copyFrom : MethodName := ⟨RX1, "copyFrom", "(LRopeToALake$Law;)V"⟩
abbrev cX1_adopt : ByteArray := prog_3_method_4_code
def yX1_adopt : MethodName := ⟨RX1, "adopt", "(LRopeToALake$Reader;)V"⟩
abbrev cX1_push : ByteArray := prog_3_method_5_code
def yX1_push : MethodName := ⟨RX1, "push", "(I)V"⟩
abbrev cX1_pop : ByteArray := prog_3_method_6_code
def yX1_pop : MethodName := ⟨RX1, "pop", "()I"⟩
abbrev cX1_weigh : ByteArray := prog_3_method_7_code
def yX1_weigh : MethodName := ⟨RX1, "weigh", "(ILRopeToALake$Folk;LRopeToALake$Moving;)I"⟩
abbrev cX1_hold : ByteArray := prog_3_method_8_code
def yX1_hold : MethodName := ⟨RX1, "hold", "(I)I"⟩
abbrev cX1_join : ByteArray := prog_3_method_9_code
def yX1_join : MethodName := ⟨RX1, "join", "(III)I"⟩
abbrev cX1_valueOf : ByteArray := prog_3_method_10_code
def yX1_valueOf : MethodName := ⟨RX1, "valueOf", "(IILRopeToALake$Folk;LRopeToALake$Moving;)I"⟩
def RX2 : String := "RopeToALake$Ledger"
def TX2 : u_T := fun k => match k with
  | 0 => ("RopeToALake$Ledger", "net", "[I", true)
  | 1 => ("RopeToALake$Ledger", "sum", "[I", true)
  | _ => ("RopeToALake$Ledger", "groups", "[I", true)
def tyX2 : Nat → FieldType := fun k => match k with
  | 0 => .array .int
  | 1 => .array .int
  | _ => .array .int
abbrev wsX20 : List Cond := u_ws RX2 TX2 3
theorem nmX2 : ∀ a, a < 3 → ∀ b, b < 3 → a ≠ b → (TX2 a).2.1 ≠ (TX2 b).2.1 := by decide +kernel
theorem tyX2_ok : ∀ k, k < 3 → parseFieldDescriptor (TX2 k).2.2.1 = some (tyX2 k) := by decide +kernel
abbrev cX2_init : ByteArray := prog_4_method_1_code
def yX2_init : MethodName := ⟨RX2, "<init>", "()V"⟩
abbrev cX2_fewestDeals : ByteArray := prog_4_method_2_code
def yX2_fewestDeals : MethodName := ⟨RX2, "fewestDeals", "(LRopeToALake$Moving;I)I"⟩
abbrev cX2_weighSet : ByteArray := prog_4_method_3_code
def yX2_weighSet : MethodName := ⟨RX2, "weighSet", "(II)V"⟩
def RX3 : String := "RopeToALake$Moving"
def TX3 : u_T := fun k => match k with
  | 0 => ("RopeToALake$Moving", "draws", "I", false)
  | 1 => ("RopeToALake$Moving", "lake", "I", false)
  | 2 => ("RopeToALake$Moving", "trough", "I", false)
  | 3 => ("RopeToALake$Moving", "day", "I", false)
  | 4 => ("RopeToALake$Moving", "hour", "I", false)
  | 5 => ("RopeToALake$Moving", "steps", "I", false)
  | 6 => ("RopeToALake$Moving", "turned", "I", false)
  | 7 => ("RopeToALake$Moving", "inBucket", "[I", true)
  | 8 => ("RopeToALake$Moving", "strength", "[I", true)
  | 9 => ("RopeToALake$Moving", "drops", "[I", true)
  | 10 => ("RopeToALake$Moving", "pulled", "[I", true)
  | 11 => ("RopeToALake$Moving", "pulledToday", "[I", true)
  | 12 => ("RopeToALake$Moving", "dripped", "[I", true)
  | 13 => ("RopeToALake$Moving", "drippedToday", "[I", true)
  | 14 => ("RopeToALake$Moving", "dryDays", "[I", true)
  | _ => ("RopeToALake$Moving", "debt", "[I", true)
def tyX3 : Nat → FieldType := fun k => match k with
  | 0 => .int
  | 1 => .int
  | 2 => .int
  | 3 => .int
  | 4 => .int
  | 5 => .int
  | 6 => .int
  | 7 => .array .int
  | 8 => .array .int
  | 9 => .array .int
  | 10 => .array .int
  | 11 => .array .int
  | 12 => .array .int
  | 13 => .array .int
  | 14 => .array .int
  | _ => .array .int
abbrev wsX30 : List Cond := u_ws RX3 TX3 16
theorem nmX3 : ∀ a, a < 16 → ∀ b, b < 16 → a ≠ b → (TX3 a).2.1 ≠ (TX3 b).2.1 := by decide +kernel
theorem tyX3_ok : ∀ k, k < 16 → parseFieldDescriptor (TX3 k).2.2.1 = some (tyX3 k) := by decide +kernel
abbrev cX3_init : ByteArray := prog_5_method_1_code
def yX3_init : MethodName := ⟨RX3, "<init>", "()V"⟩
abbrev cX3_copyFrom : ByteArray := prog_5_method_2_code
def yX3_copyFrom : MethodName := ⟨RX3, "copyFrom", "(LRopeToALake$Moving;)V"⟩
abbrev cX3_clearAllButDraws : ByteArray := prog_5_method_3_code
def yX3_clearAllButDraws : MethodName := ⟨RX3, "clearAllButDraws", "()V"⟩
abbrev cX3_forgetToday : ByteArray := prog_5_method_4_code
def yX3_forgetToday : MethodName := ⟨RX3, "forgetToday", "()V"⟩
abbrev cX3_draw : ByteArray := prog_5_method_5_code
def yX3_draw : MethodName := ⟨RX3, "draw", "(I)I"⟩
abbrev cX3_allDrops : ByteArray := prog_5_method_6_code
def yX3_allDrops : MethodName := ⟨RX3, "allDrops", "()I"⟩
abbrev cX3_debtOf : ByteArray := prog_5_method_7_code
def yX3_debtOf : MethodName := ⟨RX3, "debtOf", "(I)I"⟩
abbrev cX3_creditOf : ByteArray := prog_5_method_8_code
def yX3_creditOf : MethodName := ⟨RX3, "creditOf", "(I)I"⟩
def RX4 : String := "RopeToALake$Past"
def TX4 : u_T := fun k => match k with
  | 0 => ("RopeToALake$Past", "kept", "I", false)
  | 1 => ("RopeToALake$Past", "next", "I", false)
  | _ => ("RopeToALake$Past", "ahead", "[LRopeToALake$Moving;", true)
def tyX4 : Nat → FieldType := fun k => match k with
  | 0 => .int
  | 1 => .int
  | _ => .array (.object "RopeToALake$Moving")
abbrev wsX40 : List Cond := u_ws RX4 TX4 3
theorem nmX4 : ∀ a, a < 3 → ∀ b, b < 3 → a ≠ b → (TX4 a).2.1 ≠ (TX4 b).2.1 := by decide +kernel
theorem tyX4_ok : ∀ k, k < 3 → parseFieldDescriptor (TX4 k).2.2.1 = some (tyX4 k) := by decide +kernel
abbrev cX4_init : ByteArray := prog_6_method_1_code
def yX4_init : MethodName := ⟨RX4, "<init>", "()V"⟩
abbrev cX4_forget : ByteArray := prog_6_method_2_code
def yX4_forget : MethodName := ⟨RX4, "forget", "()V"⟩
abbrev cX4_keep : ByteArray := prog_6_method_3_code
def yX4_keep : MethodName := ⟨RX4, "keep", "(LRopeToALake$Moving;)V"⟩
abbrev cX4_bringBack : ByteArray := prog_6_method_4_code
def yX4_bringBack : MethodName := ⟨RX4, "bringBack", "(LRopeToALake$Moving;)Z"⟩
abbrev cX4_tellDraws : ByteArray := prog_6_method_5_code
def yX4_tellDraws : MethodName := ⟨RX4, "tellDraws", "(I)V"⟩
def RX5 : String := "RopeToALake$Reader"
def TX5 : u_T := fun k => match k with
  | 0 => ("RopeToALake$Reader", "tape", "LRopeToALake$Tape;", true)
  | 1 => ("RopeToALake$Reader", "faultKind", "I", false)
  | 2 => ("RopeToALake$Reader", "faultPlace", "I", false)
  | 3 => ("RopeToALake$Reader", "lines", "I", false)
  | 4 => ("RopeToALake$Reader", "length", "I", false)
  | 5 => ("RopeToALake$Reader", "code", "[I", true)
  | 6 => ("RopeToALake$Reader", "at", "I", false)
  | _ => ("RopeToALake$Reader", "token", "I", false)
def tyX5 : Nat → FieldType := fun k => match k with
  | 0 => .object "RopeToALake$Tape"
  | 1 => .int
  | 2 => .int
  | 3 => .int
  | 4 => .int
  | 5 => .array .int
  | 6 => .int
  | _ => .int
abbrev wsX50 : List Cond := u_ws RX5 TX5 8
theorem nmX5 : ∀ a, a < 8 → ∀ b, b < 8 → a ≠ b → (TX5 a).2.1 ≠ (TX5 b).2.1 := by decide +kernel
theorem tyX5_ok : ∀ k, k < 8 → parseFieldDescriptor (TX5 k).2.2.1 = some (tyX5 k) := by decide +kernel
abbrev cX5_init : ByteArray := prog_7_method_1_code
def yX5_init : MethodName := ⟨RX5, "<init>", "()V"⟩
abbrev cX5_read : ByteArray := prog_7_method_2_code
def yX5_read : MethodName := ⟨RX5, "read", "()V"⟩
abbrev cX5_fail : ByteArray := prog_7_method_3_code
def yX5_fail : MethodName := ⟨RX5, "fail", "(I)V"⟩
abbrev cX5_next : ByteArray := prog_7_method_4_code
def yX5_next : MethodName := ⟨RX5, "next", "()V"⟩
abbrev cX5_emit : ByteArray := prog_7_method_5_code
def yX5_emit : MethodName := ⟨RX5, "emit", "(I)V"⟩
abbrev cX5_expect : ByteArray := prog_7_method_6_code
def yX5_expect : MethodName := ⟨RX5, "expect", "(I)V"⟩
abbrev cX5_readLine : ByteArray := prog_7_method_7_code
def yX5_readLine : MethodName := ⟨RX5, "readLine", "()V"⟩
abbrev cX5_readSum : ByteArray := prog_7_method_8_code
def yX5_readSum : MethodName := ⟨RX5, "readSum", "()V"⟩
abbrev cX5_isArithmetic : ByteArray := prog_7_method_9_code
def yX5_isArithmetic : MethodName := ⟨RX5, "isArithmetic", "(I)Z"⟩
abbrev cX5_readUnit : ByteArray := prog_7_method_10_code
def yX5_readUnit : MethodName := ⟨RX5, "readUnit", "()V"⟩
abbrev cX5_readDivisor : ByteArray := prog_7_method_11_code
def yX5_readDivisor : MethodName := ⟨RX5, "readDivisor", "()V"⟩
abbrev cX5_readAny : ByteArray := prog_7_method_12_code
def yX5_readAny : MethodName := ⟨RX5, "readAny", "(I)V"⟩
abbrev cX5_readCondition : ByteArray := prog_7_method_13_code
def yX5_readCondition : MethodName := ⟨RX5, "readCondition", "(I)V"⟩
def RX6 : String := "RopeToALake$Rope"
def TX6 : u_T := fun k => match k with
  | 0 => ("RopeToALake$Rope", "notches", "I", false)
  | 1 => ("RopeToALake$Rope", "buckets", "I", false)
  | 2 => ("RopeToALake$Rope", "splices", "I", false)
  | 3 => ("RopeToALake$Rope", "notch", "[I", true)
  | 4 => ("RopeToALake$Rope", "size", "[I", true)
  | 5 => ("RopeToALake$Rope", "hole", "[I", true)
  | 6 => ("RopeToALake$Rope", "field", "[I", true)
  | 7 => ("RopeToALake$Rope", "wear", "[I", true)
  | _ => ("RopeToALake$Rope", "price", "[I", true)
def tyX6 : Nat → FieldType := fun k => match k with
  | 0 => .int
  | 1 => .int
  | 2 => .int
  | 3 => .array .int
  | 4 => .array .int
  | 5 => .array .int
  | 6 => .array .int
  | 7 => .array .int
  | _ => .array .int
abbrev wsX60 : List Cond := u_ws RX6 TX6 9
theorem nmX6 : ∀ a, a < 9 → ∀ b, b < 9 → a ≠ b → (TX6 a).2.1 ≠ (TX6 b).2.1 := by decide +kernel
theorem tyX6_ok : ∀ k, k < 9 → parseFieldDescriptor (TX6 k).2.2.1 = some (tyX6 k) := by decide +kernel
abbrev cX6_init : ByteArray := prog_8_method_1_code
def yX6_init : MethodName := ⟨RX6, "<init>", "()V"⟩
abbrev cX6_beginWith : ByteArray := prog_8_method_2_code
def yX6_beginWith : MethodName := ⟨RX6, "beginWith", "(I)V"⟩
abbrev cX6_copyFrom : ByteArray := prog_8_method_3_code
def yX6_copyFrom : MethodName := ⟨RX6, "copyFrom", "(LRopeToALake$Rope;)V"⟩
abbrev cX6_hasBucket : ByteArray := prog_8_method_4_code
def yX6_hasBucket : MethodName := ⟨RX6, "hasBucket", "(I)Z"⟩
abbrev cX6_hasSplice : ByteArray := prog_8_method_5_code
def yX6_hasSplice : MethodName := ⟨RX6, "hasSplice", "(I)Z"⟩
abbrev cX6_hangBucket : ByteArray := prog_8_method_6_code
def yX6_hangBucket : MethodName := ⟨RX6, "hangBucket", "(III)I"⟩
abbrev cX6_isTaken : ByteArray := prog_8_method_7_code
def yX6_isTaken : MethodName := ⟨RX6, "isTaken", "(I)Z"⟩
abbrev cX6_addSplice : ByteArray := prog_8_method_8_code
def yX6_addSplice : MethodName := ⟨RX6, "addSplice", "(II)I"⟩
abbrev cX6_isOverLand : ByteArray := prog_8_method_9_code
def yX6_isOverLand : MethodName := ⟨RX6, "isOverLand", "(I)Z"⟩
abbrev cX6_ownerAt : ByteArray := prog_8_method_10_code
def yX6_ownerAt : MethodName := ⟨RX6, "ownerAt", "(I)I"⟩
abbrev cX6_placeOf : ByteArray := prog_8_method_11_code
def yX6_placeOf : MethodName := ⟨RX6, "placeOf", "(ILRopeToALake$Moving;)I"⟩
abbrev cX6_isBroken : ByteArray := prog_8_method_12_code
def yX6_isBroken : MethodName := ⟨RX6, "isBroken", "(LRopeToALake$Moving;)Z"⟩
abbrev cX6_stepsItHolds : ByteArray := prog_8_method_13_code
def yX6_stepsItHolds : MethodName := ⟨RX6, "stepsItHolds", "(LRopeToALake$Moving;)I"⟩
abbrev cX6_moveOn : ByteArray := prog_8_method_14_code
def yX6_moveOn : MethodName := ⟨RX6, "moveOn", "(ILRopeToALake$Moving;)V"⟩
abbrev cX6_visit : ByteArray := prog_8_method_15_code
def yX6_visit : MethodName := ⟨RX6, "visit", "(IILRopeToALake$Moving;)V"⟩
abbrev cX6_drip : ByteArray := prog_8_method_16_code
def yX6_drip : MethodName := ⟨RX6, "drip", "(IIILRopeToALake$Moving;)V"⟩
abbrev cX6_firstToBreak : ByteArray := prog_8_method_17_code
def yX6_firstToBreak : MethodName := ⟨RX6, "firstToBreak", "(ILRopeToALake$Moving;)I"⟩
abbrev cX6_priceOfBroken : ByteArray := prog_8_method_18_code
def yX6_priceOfBroken : MethodName := ⟨RX6, "priceOfBroken", "(ILRopeToALake$Moving;)I"⟩
abbrev cX6_setOfBroken : ByteArray := prog_8_method_19_code
def yX6_setOfBroken : MethodName := ⟨RX6, "setOfBroken", "(ILRopeToALake$Moving;)I"⟩
abbrev cX6_stepsToBreak : ByteArray := prog_8_method_20_code
def yX6_stepsToBreak : MethodName := ⟨RX6, "stepsToBreak", "(ILRopeToALake$Moving;)I"⟩
def RX7 : String := "RopeToALake$Roster"
def TX7 : u_T := fun k => match k with
  | 0 => ("RopeToALake$Roster", "turnOf", "[I", true)
  | 1 => ("RopeToALake$Roster", "absences", "I", false)
  | 2 => ("RopeToALake$Roster", "away", "[I", true)
  | 3 => ("RopeToALake$Roster", "dayAway", "[I", true)
  | _ => ("RopeToALake$Roster", "instead", "[I", true)
def tyX7 : Nat → FieldType := fun k => match k with
  | 0 => .array .int
  | 1 => .int
  | 2 => .array .int
  | 3 => .array .int
  | _ => .array .int
abbrev wsX70 : List Cond := u_ws RX7 TX7 5
theorem nmX7 : ∀ a, a < 5 → ∀ b, b < 5 → a ≠ b → (TX7 a).2.1 ≠ (TX7 b).2.1 := by decide +kernel
theorem tyX7_ok : ∀ k, k < 5 → parseFieldDescriptor (TX7 k).2.2.1 = some (tyX7 k) := by decide +kernel
abbrev cX7_init : ByteArray := prog_9_method_1_code
def yX7_init : MethodName := ⟨RX7, "<init>", "()V"⟩
abbrev cX7_begin : ByteArray := prog_9_method_2_code
def yX7_begin : MethodName := ⟨RX7, "begin", "()V"⟩
abbrev cX7_copyFrom : ByteArray := prog_9_method_3_code
def yX7_copyFrom : MethodName := ⟨RX7, "copyFrom", "(LRopeToALake$Roster;)V"⟩
abbrev cX7_excuse : ByteArray := prog_9_method_4_code
def yX7_excuse : MethodName := ⟨RX7, "excuse", "(III)Z"⟩
abbrev cX7_isBound : ByteArray := prog_9_method_5_code
def yX7_isBound : MethodName := ⟨RX7, "isBound", "(II)Z"⟩
abbrev cX7_pullerFor : ByteArray := prog_9_method_6_code
def yX7_pullerFor : MethodName := ⟨RX7, "pullerFor", "(II)I"⟩
def RX8 : String := "RopeToALake$Tape"
def TX8 : u_T := fun k => match k with
  | 0 => ("RopeToALake$Tape", "length", "I", false)
  | 1 => ("RopeToALake$Tape", "signs", "[I", true)
  | 2 => ("RopeToALake$Tape", "token", "[I", true)
  | 3 => ("RopeToALake$Tape", "place", "[I", true)
  | 4 => ("RopeToALake$Tape", "tokens", "I", false)
  | _ => ("RopeToALake$Tape", "at", "I", false)
def tyX8 : Nat → FieldType := fun k => match k with
  | 0 => .int
  | 1 => .array .int
  | 2 => .array .int
  | 3 => .array .int
  | 4 => .int
  | _ => .int
abbrev wsX80 : List Cond := u_ws RX8 TX8 6
theorem nmX8 : ∀ a, a < 6 → ∀ b, b < 6 → a ≠ b → (TX8 a).2.1 ≠ (TX8 b).2.1 := by decide +kernel
theorem tyX8_ok : ∀ k, k < 6 → parseFieldDescriptor (TX8 k).2.2.1 = some (tyX8 k) := by decide +kernel
abbrev cX8_init : ByteArray := prog_10_method_1_code
def yX8_init : MethodName := ⟨RX8, "<init>", "()V"⟩
abbrev cX8_hasRoom : ByteArray := prog_10_method_2_code
def yX8_hasRoom : MethodName := ⟨RX8, "hasRoom", "()Z"⟩
abbrev cX8_add : ByteArray := prog_10_method_3_code
def yX8_add : MethodName := ⟨RX8, "add", "(I)V"⟩
abbrev cX8_signAt : ByteArray := prog_10_method_4_code
def yX8_signAt : MethodName := ⟨RX8, "signAt", "(I)I"⟩
abbrev cX8_scan : ByteArray := prog_10_method_5_code
def yX8_scan : MethodName := ⟨RX8, "scan", "()V"⟩
abbrev cX8_scanToken : ByteArray := prog_10_method_6_code
def yX8_scanToken : MethodName := ⟨RX8, "scanToken", "(I)I"⟩
abbrev cX8_scanWord : ByteArray := prog_10_method_7_code
def yX8_scanWord : MethodName := ⟨RX8, "scanWord", "()I"⟩
abbrev cX8_isWordAt : ByteArray := prog_10_method_8_code
def yX8_isWordAt : MethodName := ⟨RX8, "isWordAt", "(III)Z"⟩
abbrev cX8_scanNumber : ByteArray := prog_10_method_9_code
def yX8_scanNumber : MethodName := ⟨RX8, "scanNumber", "()I"⟩
abbrev cX8_isLetter : ByteArray := prog_10_method_10_code
def yX8_isLetter : MethodName := ⟨RX8, "isLetter", "(I)Z"⟩
abbrev cX8_isDigit : ByteArray := prog_10_method_11_code
def yX8_isDigit : MethodName := ⟨RX8, "isDigit", "(I)Z"⟩
def RX9 : String := "RopeToALake$Valley"
def TX9 : u_T := fun k => match k with
  | 0 => ("RopeToALake$Valley", "moving", "LRopeToALake$Moving;", true)
  | 1 => ("RopeToALake$Valley", "rope", "LRopeToALake$Rope;", true)
  | 2 => ("RopeToALake$Valley", "folk", "LRopeToALake$Folk;", true)
  | 3 => ("RopeToALake$Valley", "roster", "LRopeToALake$Roster;", true)
  | 4 => ("RopeToALake$Valley", "law", "LRopeToALake$Law;", true)
  | 5 => ("RopeToALake$Valley", "frost", "I", false)
  | 6 => ("RopeToALake$Valley", "cold", "I", false)
  | 7 => ("RopeToALake$Valley", "weight", "[I", true)
  | _ => ("RopeToALake$Valley", "rest", "[I", true)
def tyX9 : Nat → FieldType := fun k => match k with
  | 0 => .object "RopeToALake$Moving"
  | 1 => .object "RopeToALake$Rope"
  | 2 => .object "RopeToALake$Folk"
  | 3 => .object "RopeToALake$Roster"
  | 4 => .object "RopeToALake$Law"
  | 5 => .int
  | 6 => .int
  | 7 => .array .int
  | _ => .array .int
abbrev wsX90 : List Cond := u_ws RX9 TX9 9
theorem nmX9 : ∀ a, a < 9 → ∀ b, b < 9 → a ≠ b → (TX9 a).2.1 ≠ (TX9 b).2.1 := by decide +kernel
theorem tyX9_ok : ∀ k, k < 9 → parseFieldDescriptor (TX9 k).2.2.1 = some (tyX9 k) := by decide +kernel
abbrev cX9_init : ByteArray := prog_11_method_1_code
def yX9_init : MethodName := ⟨RX9, "<init>", "()V"⟩
abbrev cX9_beginWith : ByteArray := prog_11_method_2_code
def yX9_beginWith : MethodName := ⟨RX9, "beginWith", "(I)V"⟩
abbrev cX9_copyFrom : ByteArray := prog_11_method_3_code
def yX9_copyFrom : MethodName := ⟨RX9, "copyFrom", "(LRopeToALake$Valley;)V"⟩
abbrev cX9_learn : ByteArray := prog_11_method_4_code
def yX9_learn : MethodName := ⟨RX9, "learn", "(III)Z"⟩
abbrev cX9_learnHole : ByteArray := prog_11_method_5_code
def yX9_learnHole : MethodName := ⟨RX9, "learnHole", "(II)Z"⟩
abbrev cX9_learnField : ByteArray := prog_11_method_6_code
def yX9_learnField : MethodName := ⟨RX9, "learnField", "(II)Z"⟩
abbrev cX9_learnLake : ByteArray := prog_11_method_7_code
def yX9_learnLake : MethodName := ⟨RX9, "learnLake", "(I)Z"⟩
abbrev cX9_learnFrost : ByteArray := prog_11_method_8_code
def yX9_learnFrost : MethodName := ⟨RX9, "learnFrost", "(I)Z"⟩
abbrev cX9_learnCold : ByteArray := prog_11_method_9_code
def yX9_learnCold : MethodName := ⟨RX9, "learnCold", "(I)Z"⟩
abbrev cX9_hasTimeFor : ByteArray := prog_11_method_10_code
def yX9_hasTimeFor : MethodName := ⟨RX9, "hasTimeFor", "(I)Z"⟩
abbrev cX9_weightOf : ByteArray := prog_11_method_11_code
def yX9_weightOf : MethodName := ⟨RX9, "weightOf", "(I)I"⟩
abbrev cX9_passHour : ByteArray := prog_11_method_12_code
def yX9_passHour : MethodName := ⟨RX9, "passHour", "()I"⟩
abbrev cX9_frostNow : ByteArray := prog_11_method_13_code
def yX9_frostNow : MethodName := ⟨RX9, "frostNow", "()I"⟩
abbrev cX9_pull : ByteArray := prog_11_method_14_code
def yX9_pull : MethodName := ⟨RX9, "pull", "(I)I"⟩
abbrev cX9_passMidnight : ByteArray := prog_11_method_15_code
def yX9_passMidnight : MethodName := ⟨RX9, "passMidnight", "()V"⟩
abbrev cX9_shareTrough : ByteArray := prog_11_method_16_code
def yX9_shareTrough : MethodName := ⟨RX9, "shareTrough", "()V"⟩
abbrev cX9_shareRest : ByteArray := prog_11_method_17_code
def yX9_shareRest : MethodName := ⟨RX9, "shareRest", "(I)V"⟩
abbrev cX9_drink : ByteArray := prog_11_method_18_code
def yX9_drink : MethodName := ⟨RX9, "drink", "(I)V"⟩
def RX10 : String := "RopeToALake$Watches"
def TX10 : u_T := fun k => match k with
  | 0 => ("RopeToALake$Watches", "found", "I", false)
  | 1 => ("RopeToALake$Watches", "chosen", "[I", true)
  | 2 => ("RopeToALake$Watches", "way", "[I", true)
  | 3 => ("RopeToALake$Watches", "stepsAnHour", "[I", true)
  | 4 => ("RopeToALake$Watches", "troughBehind", "[I", true)
  | _ => ("RopeToALake$Watches", "thought", "LRopeToALake$Moving;", true)
def tyX10 : Nat → FieldType := fun k => match k with
  | 0 => .int
  | 1 => .array .int
  | 2 => .array .int
  | 3 => .array .int
  | 4 => .array .int
  | _ => .object "RopeToALake$Moving"
abbrev wsX100 : List Cond := u_ws RX10 TX10 6
theorem nmX10 : ∀ a, a < 6 → ∀ b, b < 6 → a ≠ b → (TX10 a).2.1 ≠ (TX10 b).2.1 := by decide +kernel
theorem tyX10_ok : ∀ k, k < 6 → parseFieldDescriptor (TX10 k).2.2.1 = some (tyX10 k) := by decide +kernel
abbrev cX10_init : ByteArray := prog_12_method_1_code
def yX10_init : MethodName := ⟨RX10, "<init>", "()V"⟩
abbrev cX10_canAnswer : ByteArray := prog_12_method_2_code
def yX10_canAnswer : MethodName := ⟨RX10, "canAnswer", "(II)Z"⟩
abbrev cX10_answer : ByteArray := prog_12_method_3_code
def yX10_answer : MethodName := ⟨RX10, "answer", "(I)I"⟩
abbrev cX10_take : ByteArray := prog_12_method_4_code
def yX10_take : MethodName := ⟨RX10, "take", "(I)V"⟩
abbrev cX10_nextWay : ByteArray := prog_12_method_5_code
def yX10_nextWay : MethodName := ⟨RX10, "nextWay", "(I)Z"⟩
abbrev cX10_seekMostWater : ByteArray := prog_12_method_6_code
def yX10_seekMostWater : MethodName := ⟨RX10, "seekMostWater", "(LRopeToALake$Valley;)V"⟩
abbrev cX10_walk : ByteArray := prog_12_method_7_code
def yX10_walk : MethodName := ⟨RX10, "walk", "(LRopeToALake$Valley;I)V"⟩
abbrev cX10_waterOfWay : ByteArray := prog_12_method_8_code
def yX10_waterOfWay : MethodName := ⟨RX10, "waterOfWay", "()I"⟩
abbrev cX10_seekPeace : ByteArray := prog_12_method_9_code
def yX10_seekPeace : MethodName := ⟨RX10, "seekPeace", "(LRopeToALake$Folk;)V"⟩
abbrev cX10_hasEvery : ByteArray := prog_12_method_10_code
def yX10_hasEvery : MethodName := ⟨RX10, "hasEvery", "(I)Z"⟩
abbrev cX10_meetingsOfWay : ByteArray := prog_12_method_11_code
def yX10_meetingsOfWay : MethodName := ⟨RX10, "meetingsOfWay", "(LRopeToALake$Folk;)I"⟩
def RX11 : String := "RopeToALake"
def TX11 : u_T := fun k => match k with
  | 0 => ("RopeToALake", "valley", "LRopeToALake$Valley;", true)
  | 1 => ("RopeToALake", "picture", "LRopeToALake$Valley;", true)
  | 2 => ("RopeToALake", "isPictured", "Z", false)
  | 3 => ("RopeToALake", "past", "LRopeToALake$Past;", true)
  | 4 => ("RopeToALake", "reader", "LRopeToALake$Reader;", true)
  | 5 => ("RopeToALake", "watches", "LRopeToALake$Watches;", true)
  | _ => ("RopeToALake", "ledger", "LRopeToALake$Ledger;", true)
def tyX11 : Nat → FieldType := fun k => match k with
  | 0 => .object "RopeToALake$Valley"
  | 1 => .object "RopeToALake$Valley"
  | 2 => .boolean
  | 3 => .object "RopeToALake$Past"
  | 4 => .object "RopeToALake$Reader"
  | 5 => .object "RopeToALake$Watches"
  | _ => .object "RopeToALake$Ledger"
abbrev wsX110 : List Cond := u_ws RX11 TX11 7
theorem nmX11 : ∀ a, a < 7 → ∀ b, b < 7 → a ≠ b → (TX11 a).2.1 ≠ (TX11 b).2.1 := by decide +kernel
theorem tyX11_ok : ∀ k, k < 7 → parseFieldDescriptor (TX11 k).2.2.1 = some (tyX11 k) := by decide +kernel
abbrev cX11_init : ByteArray := prog_1_method_1_code
def yX11_init : MethodName := ⟨RX11, "<init>", "()V"⟩
abbrev cX11_state : ByteArray := prog_1_method_2_code
def yX11_state : MethodName := ⟨RX11, "state", "(I)I"⟩
abbrev cX11_notches : ByteArray := prog_1_method_3_code
def yX11_notches : MethodName := ⟨RX11, "notches", "(I)Z"⟩
abbrev cX11_bucket : ByteArray := prog_1_method_4_code
def yX11_bucket : MethodName := ⟨RX11, "bucket", "(III)I"⟩
abbrev cX11_farm : ByteArray := prog_1_method_5_code
def yX11_farm : MethodName := ⟨RX11, "farm", "(IIII)I"⟩
abbrev cX11_tell : ByteArray := prog_1_method_6_code
def yX11_tell : MethodName := ⟨RX11, "tell", "(III)Z"⟩
abbrev cX11_turn : ByteArray := prog_1_method_7_code
def yX11_turn : MethodName := ⟨RX11, "turn", "(II)Z"⟩
abbrev cX11_absent : ByteArray := prog_1_method_8_code
def yX11_absent : MethodName := ⟨RX11, "absent", "(III)Z"⟩
abbrev cX11_splice : ByteArray := prog_1_method_9_code
def yX11_splice : MethodName := ⟨RX11, "splice", "(III)I"⟩
abbrev cX11_mend : ByteArray := prog_1_method_10_code
def yX11_mend : MethodName := ⟨RX11, "mend", "(II)Z"⟩
abbrev cX11_foes : ByteArray := prog_1_method_11_code
def yX11_foes : MethodName := ⟨RX11, "foes", "(IIZ)Z"⟩
abbrev cX11_feed : ByteArray := prog_1_method_12_code
def yX11_feed : MethodName := ⟨RX11, "feed", "(IIIII)I"⟩
abbrev cX11_end : ByteArray := prog_1_method_13_code
def yX11_end : MethodName := ⟨RX11, "end", "(I)Z"⟩
abbrev cX11_text : ByteArray := prog_1_method_14_code
def yX11_text : MethodName := ⟨RX11, "text", "()I"⟩
abbrev cX11_fault : ByteArray := prog_1_method_15_code
def yX11_fault : MethodName := ⟨RX11, "fault", "(I)I"⟩
abbrev cX11_hours : ByteArray := prog_1_method_16_code
def yX11_hours : MethodName := ⟨RX11, "hours", "(I)I"⟩
abbrev cX11_of : ByteArray := prog_1_method_17_code
def yX11_of : MethodName := ⟨RX11, "of", "(II)I"⟩
abbrev cX11_pail : ByteArray := prog_1_method_18_code
def yX11_pail : MethodName := ⟨RX11, "pail", "(II)I"⟩
abbrev cX11_part : ByteArray := prog_1_method_19_code
def yX11_part : MethodName := ⟨RX11, "part", "(II)I"⟩
abbrev cX11_owes : ByteArray := prog_1_method_20_code
def yX11_owes : MethodName := ⟨RX11, "owes", "(II)I"⟩
abbrev cX11_deals : ByteArray := prog_1_method_21_code
def yX11_deals : MethodName := ⟨RX11, "deals", "()I"⟩
abbrev cX11_best : ByteArray := prog_1_method_22_code
def yX11_best : MethodName := ⟨RX11, "best", "(I)I"⟩
abbrev cX11_peace : ByteArray := prog_1_method_23_code
def yX11_peace : MethodName := ⟨RX11, "peace", "(I)I"⟩
abbrev cX11_log : ByteArray := prog_1_method_24_code
def yX11_log : MethodName := ⟨RX11, "log", "(II)Z"⟩
abbrev cX11_slow : ByteArray := prog_1_method_25_code
def yX11_slow : MethodName := ⟨RX11, "slow", "(II)I"⟩
abbrev cX11_breaks : ByteArray := prog_1_method_26_code
def yX11_breaks : MethodName := ⟨RX11, "breaks", "(I)I"⟩
abbrev cX11_lasting : ByteArray := prog_1_method_27_code
def yX11_lasting : MethodName := ⟨RX11, "lasting", "(II)I"⟩
abbrev cX11_undo : ByteArray := prog_1_method_28_code
def yX11_undo : MethodName := ⟨RX11, "undo", "()Z"⟩
abbrev cX11_image : ByteArray := prog_1_method_29_code
def yX11_image : MethodName := ⟨RX11, "image", "(Z)Z"⟩
abbrev cX11_look : ByteArray := prog_1_method_30_code
def yX11_look : MethodName := ⟨RX11, "look", "(I)I"⟩
abbrev cX11_isWithin : ByteArray := prog_1_method_31_code
def yX11_isWithin : MethodName := ⟨RX11, "isWithin", "(III)Z"⟩
abbrev cX11_forgetIf : ByteArray := prog_1_method_32_code
def yX11_forgetIf : MethodName := ⟨RX11, "forgetIf", "(Z)Z"⟩
abbrev cX11_forgetIfNumbered : ByteArray := prog_1_method_33_code
def yX11_forgetIfNumbered : MethodName := ⟨RX11, "forgetIfNumbered", "(I)I"⟩
def RX12 : String := "RopeToALakeModel"
def TX12 : u_T := fun k => match k with
  | 0 => ("RopeToALakeModel", "told", "I", false)
  | 1 => ("RopeToALakeModel", "now", "[I", true)
  | 2 => ("RopeToALakeModel", "rows", "[I", true)
  | 3 => ("RopeToALakeModel", "undoable", "I", false)
  | 4 => ("RopeToALakeModel", "notches", "I", false)
  | 5 => ("RopeToALakeModel", "buckets", "I", false)
  | 6 => ("RopeToALakeModel", "notchOf", "[I", true)
  | 7 => ("RopeToALakeModel", "sizeOf", "[I", true)
  | 8 => ("RopeToALakeModel", "holeOf", "[I", true)
  | 9 => ("RopeToALakeModel", "farms", "I", false)
  | 10 => ("RopeToALakeModel", "armsOf", "[I", true)
  | 11 => ("RopeToALakeModel", "slowOf", "[I", true)
  | 12 => ("RopeToALakeModel", "weedsOf", "[I", true)
  | 13 => ("RopeToALakeModel", "needOf", "[I", true)
  | 14 => ("RopeToALakeModel", "fieldOf", "[I", true)
  | 15 => ("RopeToALakeModel", "turnOf", "[I", true)
  | 16 => ("RopeToALakeModel", "splices", "I", false)
  | 17 => ("RopeToALakeModel", "wearOf", "[I", true)
  | 18 => ("RopeToALakeModel", "priceOf", "[I", true)
  | 19 => ("RopeToALakeModel", "absences", "I", false)
  | 20 => ("RopeToALakeModel", "absentFarm", "[I", true)
  | 21 => ("RopeToALakeModel", "absentDay", "[I", true)
  | 22 => ("RopeToALakeModel", "absentBy", "[I", true)
  | 23 => ("RopeToALakeModel", "foesOf", "[I", true)
  | 24 => ("RopeToALakeModel", "logs", "I", false)
  | 25 => ("RopeToALakeModel", "logFarm", "[I", true)
  | 26 => ("RopeToALakeModel", "logSteps", "[I", true)
  | 27 => ("RopeToALakeModel", "frost", "I", false)
  | 28 => ("RopeToALakeModel", "cold", "I", false)
  | 29 => ("RopeToALakeModel", "tape", "[I", true)
  | 30 => ("RopeToALakeModel", "taped", "I", false)
  | 31 => ("RopeToALakeModel", "spot", "I", false)
  | 32 => ("RopeToALakeModel", "from", "I", false)
  | 33 => ("RopeToALakeModel", "token", "I", false)
  | 34 => ("RopeToALakeModel", "value", "I", false)
  | 35 => ("RopeToALakeModel", "words", "[I", true)
  | 36 => ("RopeToALakeModel", "lineMany", "I", false)
  | 37 => ("RopeToALakeModel", "lineWhen", "[I", true)
  | 38 => ("RopeToALakeModel", "lineFrom", "[I", true)
  | 39 => ("RopeToALakeModel", "lineTo", "[I", true)
  | 40 => ("RopeToALakeModel", "op", "[I", true)
  | 41 => ("RopeToALakeModel", "arg", "[I", true)
  | 42 => ("RopeToALakeModel", "codes", "I", false)
  | 43 => ("RopeToALakeModel", "open", "I", false)
  | 44 => ("RopeToALakeModel", "pending", "[I", true)
  | 45 => ("RopeToALakeModel", "pendings", "I", false)
  | 46 => ("RopeToALakeModel", "readFault", "I", false)
  | 47 => ("RopeToALakeModel", "readPlace", "I", false)
  | 48 => ("RopeToALakeModel", "faultKind", "I", false)
  | 49 => ("RopeToALakeModel", "faultPlace", "I", false)
  | 50 => ("RopeToALakeModel", "asked", "[I", true)
  | 51 => ("RopeToALakeModel", "stack", "[I", true)
  | 52 => ("RopeToALakeModel", "weights", "[I", true)
  | 53 => ("RopeToALakeModel", "rests", "[J", true)
  | 54 => ("RopeToALakeModel", "sums", "[I", true)
  | 55 => ("RopeToALakeModel", "groups", "[I", true)
  | 56 => ("RopeToALakeModel", "bestWay", "I", false)
  | 57 => ("RopeToALakeModel", "bestTrough", "I", false)
  | 58 => ("RopeToALakeModel", "isTaking", "Z", false)
  | 59 => ("RopeToALakeModel", "hasImage", "Z", false)
  | 60 => ("RopeToALakeModel", "keptAt", "I", false)
  | _ => ("RopeToALakeModel", "images", "[I", true)
def tyX12 : Nat → FieldType := fun k => match k with
  | 0 => .int
  | 1 => .array .int
  | 2 => .array .int
  | 3 => .int
  | 4 => .int
  | 5 => .int
  | 6 => .array .int
  | 7 => .array .int
  | 8 => .array .int
  | 9 => .int
  | 10 => .array .int
  | 11 => .array .int
  | 12 => .array .int
  | 13 => .array .int
  | 14 => .array .int
  | 15 => .array .int
  | 16 => .int
  | 17 => .array .int
  | 18 => .array .int
  | 19 => .int
  | 20 => .array .int
  | 21 => .array .int
  | 22 => .array .int
  | 23 => .array .int
  | 24 => .int
  | 25 => .array .int
  | 26 => .array .int
  | 27 => .int
  | 28 => .int
  | 29 => .array .int
  | 30 => .int
  | 31 => .int
  | 32 => .int
  | 33 => .int
  | 34 => .int
  | 35 => .array .int
  | 36 => .int
  | 37 => .array .int
  | 38 => .array .int
  | 39 => .array .int
  | 40 => .array .int
  | 41 => .array .int
  | 42 => .int
  | 43 => .int
  | 44 => .array .int
  | 45 => .int
  | 46 => .int
  | 47 => .int
  | 48 => .int
  | 49 => .int
  | 50 => .array .int
  | 51 => .array .int
  | 52 => .array .int
  | 53 => .array .long
  | 54 => .array .int
  | 55 => .array .int
  | 56 => .int
  | 57 => .int
  | 58 => .boolean
  | 59 => .boolean
  | 60 => .int
  | _ => .array .int
abbrev wsX120 : List Cond := u_ws RX12 TX12 62
theorem nmX12 : ∀ a, a < 62 → ∀ b, b < 62 → a ≠ b → (TX12 a).2.1 ≠ (TX12 b).2.1 := by decide +kernel
theorem tyX12_ok : ∀ k, k < 62 → parseFieldDescriptor (TX12 k).2.2.1 = some (tyX12 k) := by decide +kernel
abbrev cX12_init : ByteArray := prog_14_method_1_code
def yX12_init : MethodName := ⟨RX12, "<init>", "()V"⟩
abbrev cX12_isIn : ByteArray := prog_14_method_3_code
def yX12_isIn : MethodName := ⟨RX12, "isIn", "(III)Z"⟩
abbrev cX12_ones : ByteArray := prog_14_method_4_code
def yX12_ones : MethodName := ⟨RX12, "ones", "(I)I"⟩
abbrev cX12_keepsRow : ByteArray := prog_14_method_5_code
def yX12_keepsRow : MethodName := ⟨RX12, "keepsRow", "(I)V"⟩
abbrev cX12_takesRow : ByteArray := prog_14_method_6_code
def yX12_takesRow : MethodName := ⟨RX12, "takesRow", "(I)V"⟩
abbrev cX12_keepsAhead : ByteArray := prog_14_method_7_code
def yX12_keepsAhead : MethodName := ⟨RX12, "keepsAhead", "()V"⟩
abbrev cX12_undo : ByteArray := prog_14_method_8_code
def yX12_undo : MethodName := ⟨RX12, "undo", "()Z"⟩
abbrev cX12_state : ByteArray := prog_14_method_9_code
def yX12_state : MethodName := ⟨RX12, "state", "(I)I"⟩
abbrev cX12_draw : ByteArray := prog_14_method_10_code
def yX12_draw : MethodName := ⟨RX12, "draw", "(I)I"⟩
abbrev cX12_isFarm : ByteArray := prog_14_method_11_code
def yX12_isFarm : MethodName := ⟨RX12, "isFarm", "(I)Z"⟩
abbrev cX12_notches : ByteArray := prog_14_method_12_code
def yX12_notches : MethodName := ⟨RX12, "notches", "(I)Z"⟩
abbrev cX12_bucket : ByteArray := prog_14_method_13_code
def yX12_bucket : MethodName := ⟨RX12, "bucket", "(III)I"⟩
abbrev cX12_farm : ByteArray := prog_14_method_14_code
def yX12_farm : MethodName := ⟨RX12, "farm", "(IIII)I"⟩
abbrev cX12_allDrops : ByteArray := prog_14_method_15_code
def yX12_allDrops : MethodName := ⟨RX12, "allDrops", "()I"⟩
abbrev cX12_canTell : ByteArray := prog_14_method_16_code
def yX12_canTell : MethodName := ⟨RX12, "canTell", "(III)Z"⟩
abbrev cX12_tell : ByteArray := prog_14_method_17_code
def yX12_tell : MethodName := ⟨RX12, "tell", "(III)Z"⟩
abbrev cX12_turn : ByteArray := prog_14_method_18_code
def yX12_turn : MethodName := ⟨RX12, "turn", "(II)Z"⟩
abbrev cX12_absent : ByteArray := prog_14_method_19_code
def yX12_absent : MethodName := ⟨RX12, "absent", "(III)Z"⟩
abbrev cX12_splice : ByteArray := prog_14_method_20_code
def yX12_splice : MethodName := ⟨RX12, "splice", "(III)I"⟩
abbrev cX12_mend : ByteArray := prog_14_method_21_code
def yX12_mend : MethodName := ⟨RX12, "mend", "(II)Z"⟩
abbrev cX12_foes : ByteArray := prog_14_method_22_code
def yX12_foes : MethodName := ⟨RX12, "foes", "(IIZ)Z"⟩
abbrev cX12_types : ByteArray := prog_14_method_23_code
def yX12_types : MethodName := ⟨RX12, "types", "(I)V"⟩
abbrev cX12_feed : ByteArray := prog_14_method_24_code
def yX12_feed : MethodName := ⟨RX12, "feed", "(IIIII)I"⟩
abbrev cX12_end : ByteArray := prog_14_method_25_code
def yX12_end : MethodName := ⟨RX12, "end", "(I)Z"⟩
abbrev cX12_raw : ByteArray := prog_14_method_26_code
def yX12_raw : MethodName := ⟨RX12, "raw", "(I)I"⟩
abbrev cX12_isLetter : ByteArray := prog_14_method_27_code
def yX12_isLetter : MethodName := ⟨RX12, "isLetter", "(I)Z"⟩
abbrev cX12_isDigit : ByteArray := prog_14_method_28_code
def yX12_isDigit : MethodName := ⟨RX12, "isDigit", "(I)Z"⟩
abbrev cX12_isMarkSign : ByteArray := prog_14_method_29_code
def yX12_isMarkSign : MethodName := ⟨RX12, "isMarkSign", "(I)Z"⟩
abbrev cX12_wordAt : ByteArray := prog_14_method_30_code
def yX12_wordAt : MethodName := ⟨RX12, "wordAt", "(II)I"⟩
abbrev cX12_reads : ByteArray := prog_14_method_31_code
def yX12_reads : MethodName := ⟨RX12, "reads", "()V"⟩
abbrev cX12_errs : ByteArray := prog_14_method_32_code
def yX12_errs : MethodName := ⟨RX12, "errs", "(I)I"⟩
abbrev cX12_isWord : ByteArray := prog_14_method_33_code
def yX12_isWord : MethodName := ⟨RX12, "isWord", "(I)Z"⟩
abbrev cX12_isSign : ByteArray := prog_14_method_34_code
def yX12_isSign : MethodName := ⟨RX12, "isSign", "(I)Z"⟩
abbrev cX12_emits : ByteArray := prog_14_method_35_code
def yX12_emits : MethodName := ⟨RX12, "emits", "(II)V"⟩
abbrev cX12_readUnit : ByteArray := prog_14_method_36_code
def yX12_readUnit : MethodName := ⟨RX12, "readUnit", "()I"⟩
abbrev cX12_readProduct : ByteArray := prog_14_method_37_code
def yX12_readProduct : MethodName := ⟨RX12, "readProduct", "()I"⟩
abbrev cX12_readSum : ByteArray := prog_14_method_38_code
def yX12_readSum : MethodName := ⟨RX12, "readSum", "()I"⟩
abbrev cX12_readCompared : ByteArray := prog_14_method_39_code
def yX12_readCompared : MethodName := ⟨RX12, "readCompared", "()I"⟩
abbrev cX12_waits : ByteArray := prog_14_method_40_code
def yX12_waits : MethodName := ⟨RX12, "waits", "(I)V"⟩
abbrev cX12_settles : ByteArray := prog_14_method_41_code
def yX12_settles : MethodName := ⟨RX12, "settles", "(I)V"⟩
abbrev cX12_readAny : ByteArray := prog_14_method_42_code
def yX12_readAny : MethodName := ⟨RX12, "readAny", "()I"⟩
abbrev cX12_readText : ByteArray := prog_14_method_43_code
def yX12_readText : MethodName := ⟨RX12, "readText", "()I"⟩
abbrev cX12_text : ByteArray := prog_14_method_44_code
def yX12_text : MethodName := ⟨RX12, "text", "()I"⟩
abbrev cX12_fault : ByteArray := prog_14_method_45_code
def yX12_fault : MethodName := ⟨RX12, "fault", "(I)I"⟩
abbrev cX12_twoOf : ByteArray := prog_14_method_46_code
def yX12_twoOf : MethodName := ⟨RX12, "twoOf", "(III)I"⟩
abbrev cX12_runs : ByteArray := prog_14_method_47_code
def yX12_runs : MethodName := ⟨RX12, "runs", "(II)I"⟩
abbrev cX12_isSo : ByteArray := prog_14_method_48_code
def yX12_isSo : MethodName := ⟨RX12, "isSo", "(I)Z"⟩
abbrev cX12_owesOf : ByteArray := prog_14_method_49_code
def yX12_owesOf : MethodName := ⟨RX12, "owesOf", "(I)I"⟩
abbrev cX12_owedTo : ByteArray := prog_14_method_50_code
def yX12_owedTo : MethodName := ⟨RX12, "owedTo", "(I)I"⟩
abbrev cX12_weightOf : ByteArray := prog_14_method_51_code
def yX12_weightOf : MethodName := ⟨RX12, "weightOf", "(I)I"⟩
abbrev cX12_isBroken : ByteArray := prog_14_method_52_code
def yX12_isBroken : MethodName := ⟨RX12, "isBroken", "()Z"⟩
abbrev cX12_placeOf : ByteArray := prog_14_method_53_code
def yX12_placeOf : MethodName := ⟨RX12, "placeOf", "(I)I"⟩
abbrev cX12_drips : ByteArray := prog_14_method_54_code
def yX12_drips : MethodName := ⟨RX12, "drips", "(II)V"⟩
abbrev cX12_goesOn : ByteArray := prog_14_method_55_code
def yX12_goesOn : MethodName := ⟨RX12, "goesOn", "(I)V"⟩
abbrev cX12_step : ByteArray := prog_14_method_56_code
def yX12_step : MethodName := ⟨RX12, "step", "()V"⟩
abbrev cX12_stepsOf : ByteArray := prog_14_method_57_code
def yX12_stepsOf : MethodName := ⟨RX12, "stepsOf", "(IZ)I"⟩
abbrev cX12_pulls : ByteArray := prog_14_method_58_code
def yX12_pulls : MethodName := ⟨RX12, "pulls", "(I)I"⟩
abbrev cX12_pullerFor : ByteArray := prog_14_method_59_code
def yX12_pullerFor : MethodName := ⟨RX12, "pullerFor", "(I)I"⟩
abbrev cX12_shares : ByteArray := prog_14_method_60_code
def yX12_shares : MethodName := ⟨RX12, "shares", "()V"⟩
abbrev cX12_midnight : ByteArray := prog_14_method_61_code
def yX12_midnight : MethodName := ⟨RX12, "midnight", "()V"⟩
abbrev cX12_goesBy : ByteArray := prog_14_method_62_code
def yX12_goesBy : MethodName := ⟨RX12, "goesBy", "()I"⟩
abbrev cX12_hours : ByteArray := prog_14_method_63_code
def yX12_hours : MethodName := ⟨RX12, "hours", "(I)I"⟩
abbrev cX12_of : ByteArray := prog_14_method_64_code
def yX12_of : MethodName := ⟨RX12, "of", "(II)I"⟩
abbrev cX12_pail : ByteArray := prog_14_method_65_code
def yX12_pail : MethodName := ⟨RX12, "pail", "(II)I"⟩
abbrev cX12_part : ByteArray := prog_14_method_66_code
def yX12_part : MethodName := ⟨RX12, "part", "(II)I"⟩
abbrev cX12_owes : ByteArray := prog_14_method_67_code
def yX12_owes : MethodName := ⟨RX12, "owes", "(II)I"⟩
abbrev cX12_mostGroups : ByteArray := prog_14_method_68_code
def yX12_mostGroups : MethodName := ⟨RX12, "mostGroups", "(I)I"⟩
abbrev cX12_deals : ByteArray := prog_14_method_69_code
def yX12_deals : MethodName := ⟨RX12, "deals", "()I"⟩
abbrev cX12_farmOf : ByteArray := prog_14_method_70_code
def yX12_farmOf : MethodName := ⟨RX12, "farmOf", "(II)I"⟩
abbrev cX12_ways : ByteArray := prog_14_method_71_code
def yX12_ways : MethodName := ⟨RX12, "ways", "()I"⟩
abbrev cX12_findsBest : ByteArray := prog_14_method_72_code
def yX12_findsBest : MethodName := ⟨RX12, "findsBest", "()V"⟩
abbrev cX12_canAsk : ByteArray := prog_14_method_73_code
def yX12_canAsk : MethodName := ⟨RX12, "canAsk", "(I)Z"⟩
abbrev cX12_best : ByteArray := prog_14_method_74_code
def yX12_best : MethodName := ⟨RX12, "best", "(I)I"⟩
abbrev cX12_meetings : ByteArray := prog_14_method_75_code
def yX12_meetings : MethodName := ⟨RX12, "meetings", "(I)I"⟩
abbrev cX12_peace : ByteArray := prog_14_method_76_code
def yX12_peace : MethodName := ⟨RX12, "peace", "(I)I"⟩
abbrev cX12_log : ByteArray := prog_14_method_77_code
def yX12_log : MethodName := ⟨RX12, "log", "(II)Z"⟩
abbrev cX12_slow : ByteArray := prog_14_method_78_code
def yX12_slow : MethodName := ⟨RX12, "slow", "(II)I"⟩
abbrev cX12_lasts : ByteArray := prog_14_method_79_code
def yX12_lasts : MethodName := ⟨RX12, "lasts", "(I)I"⟩
abbrev cX12_breaks : ByteArray := prog_14_method_80_code
def yX12_breaks : MethodName := ⟨RX12, "breaks", "(I)I"⟩
abbrev cX12_lasting : ByteArray := prog_14_method_81_code
def yX12_lasting : MethodName := ⟨RX12, "lasting", "(II)I"⟩
abbrev cX12_kept : ByteArray := prog_14_method_82_code
def yX12_kept : MethodName := ⟨RX12, "kept", "(I)I"⟩
abbrev cX12_keepsLaw : ByteArray := prog_14_method_83_code
def yX12_keepsLaw : MethodName := ⟨RX12, "keepsLaw", "()V"⟩
abbrev cX12_keepsOthers : ByteArray := prog_14_method_84_code
def yX12_keepsOthers : MethodName := ⟨RX12, "keepsOthers", "()V"⟩
abbrev cX12_image : ByteArray := prog_14_method_85_code
def yX12_image : MethodName := ⟨RX12, "image", "(Z)Z"⟩
abbrev cX12_look : ByteArray := prog_14_method_86_code
def yX12_look : MethodName := ⟨RX12, "look", "(I)I"⟩
def RJx145de : String := "java/io/Serializable"
def TJx145de : u_T := fun k => match k with
  | _ => ("", "", "", false)
def tyJx145de : Nat → FieldType := fun k => match k with
  | _ => .int
abbrev wsJx145de0 : List Cond := u_ws RJx145de TJx145de 0
theorem nmJx145de : ∀ a, a < 0 → ∀ b, b < 0 → a ≠ b → (TJx145de a).2.1 ≠ (TJx145de b).2.1 := by decide +kernel
theorem tyJx145de_ok : ∀ k, k < 0 → parseFieldDescriptor (TJx145de k).2.2.1 = some (tyJx145de k) := by decide +kernel
def RJx9f9b0 : String := "java/lang/CharSequence"
def TJx9f9b0 : u_T := fun k => match k with
  | _ => ("", "", "", false)
def tyJx9f9b0 : Nat → FieldType := fun k => match k with
  | _ => .int
abbrev wsJx9f9b00 : List Cond := u_ws RJx9f9b0 TJx9f9b0 0
theorem nmJx9f9b0 : ∀ a, a < 0 → ∀ b, b < 0 → a ≠ b → (TJx9f9b0 a).2.1 ≠ (TJx9f9b0 b).2.1 := by decide +kernel
theorem tyJx9f9b0_ok : ∀ k, k < 0 → parseFieldDescriptor (TJx9f9b0 k).2.2.1 = some (tyJx9f9b0 k) := by decide +kernel
def RJ11 : String := "java/lang/Character"
def TJ11 : u_T := fun k => match k with
  | _ => ("", "", "", false)
def tyJ11 : Nat → FieldType := fun k => match k with
  | _ => .int
abbrev wsJ110 : List Cond := u_ws RJ11 TJ11 0
theorem nmJ11 : ∀ a, a < 0 → ∀ b, b < 0 → a ≠ b → (TJ11 a).2.1 ≠ (TJ11 b).2.1 := by decide +kernel
theorem tyJ11_ok : ∀ k, k < 0 → parseFieldDescriptor (TJ11 k).2.2.1 = some (tyJ11 k) := by decide +kernel
abbrev cJ11_isValidCodePoint_9a6ad : ByteArray := prog_15_method_11_code
def yJ11_isValidCodePoint_9a6ad : MethodName := ⟨RJ11, "isValidCodePoint", "(I)Z"⟩
abbrev cJ11_highSurrogate_5068e : ByteArray := prog_15_method_28_code
def yJ11_highSurrogate_5068e : MethodName := ⟨RJ11, "highSurrogate", "(I)C"⟩
abbrev cJ11_lowSurrogate_5068e : ByteArray := prog_15_method_29_code
def yJ11_lowSurrogate_5068e : MethodName := ⟨RJ11, "lowSurrogate", "(I)C"⟩
def RJxb160c : String := "java/lang/Comparable"
def TJxb160c : u_T := fun k => match k with
  | _ => ("", "", "", false)
def tyJxb160c : Nat → FieldType := fun k => match k with
  | _ => .int
abbrev wsJxb160c0 : List Cond := u_ws RJxb160c TJxb160c 0
theorem nmJxb160c : ∀ a, a < 0 → ∀ b, b < 0 → a ≠ b → (TJxb160c a).2.1 ≠ (TJxb160c b).2.1 := by decide +kernel
theorem tyJxb160c_ok : ∀ k, k < 0 → parseFieldDescriptor (TJxb160c k).2.2.1 = some (tyJxb160c k) := by decide +kernel
def RJ9 : String := "java/lang/Math"
def TJ9 : u_T := fun k => match k with
  | _ => ("", "", "", false)
def tyJ9 : Nat → FieldType := fun k => match k with
  | _ => .int
abbrev wsJ90 : List Cond := u_ws RJ9 TJ9 0
theorem nmJ9 : ∀ a, a < 0 → ∀ b, b < 0 → a ≠ b → (TJ9 a).2.1 ≠ (TJ9 b).2.1 := by decide +kernel
theorem tyJ9_ok : ∀ k, k < 0 → parseFieldDescriptor (TJ9 k).2.2.1 = some (tyJ9 k) := by decide +kernel
abbrev cJ9_max_7cf53 : ByteArray := prog_16_method_65_code
def yJ9_max_7cf53 : MethodName := ⟨RJ9, "max", "(II)I"⟩
abbrev cJ9_min_7cf53 : ByteArray := prog_16_method_69_code
def yJ9_min_7cf53 : MethodName := ⟨RJ9, "min", "(II)I"⟩
def RJ0 : String := "java/lang/String"
def TJ0 : u_T := fun k => match k with
  | _ => ("", "", "", false)
def tyJ0 : Nat → FieldType := fun k => match k with
  | _ => .int
abbrev wsJ00 : List Cond := u_ws RJ0 TJ0 0
theorem nmJ0 : ∀ a, a < 0 → ∀ b, b < 0 → a ≠ b → (TJ0 a).2.1 ≠ (TJ0 b).2.1 := by decide +kernel
theorem tyJ0_ok : ∀ k, k < 0 → parseFieldDescriptor (TJ0 k).2.2.1 = some (tyJ0 k) := by decide +kernel
abbrev cJ0_length_8abf5 : ByteArray := prog_17_method_54_code
def yJ0_length_8abf5 : MethodName := ⟨RJ0, "length", "()I"⟩
abbrev cJ0_charAt_5068e : ByteArray := prog_17_method_56_code
def yJ0_charAt_5068e : MethodName := ⟨RJ0, "charAt", "(I)C"⟩
abbrev cJ0_indexOf_0f7a4 : ByteArray := prog_17_method_79_code
def yJ0_indexOf_0f7a4 : MethodName := ⟨RJ0, "indexOf", "(I)I"⟩
abbrev cJ0_indexOf_7cf53 : ByteArray := prog_17_method_80_code
def yJ0_indexOf_7cf53 : MethodName := ⟨RJ0, "indexOf", "(II)I"⟩
abbrev cJ0_coder_7d493 : ByteArray := prog_17_method_152_code
def yJ0_coder_7d493 : MethodName := ⟨RJ0, "coder", "()B"⟩
abbrev cJ0_isLatin1_aae02 : ByteArray := prog_17_method_154_code
def yJ0_isLatin1_aae02 : MethodName := ⟨RJ0, "isLatin1", "()Z"⟩
abbrev cJ0_checkIndex_df160 : ByteArray := prog_17_method_155_code
def yJ0_checkIndex_df160 : MethodName := ⟨RJ0, "checkIndex", "(II)V"⟩
abbrev cJ0_checkBoundsBeginEnd_23922 : ByteArray := prog_17_method_158_code
def yJ0_checkBoundsBeginEnd_23922 : MethodName := ⟨RJ0, "checkBoundsBeginEnd", "(III)V"⟩
def RJ1 : String := "java/lang/StringLatin1"
def TJ1 : u_T := fun k => match k with
  | _ => ("", "", "", false)
def tyJ1 : Nat → FieldType := fun k => match k with
  | _ => .int
abbrev wsJ10 : List Cond := u_ws RJ1 TJ1 0
theorem nmJ1 : ∀ a, a < 0 → ∀ b, b < 0 → a ≠ b → (TJ1 a).2.1 ≠ (TJ1 b).2.1 := by decide +kernel
theorem tyJ1_ok : ∀ k, k < 0 → parseFieldDescriptor (TJ1 k).2.2.1 = some (tyJ1 k) := by decide +kernel
abbrev cJ1_charAt_3b067 : ByteArray := prog_18_method_2_code
def yJ1_charAt_3b067 : MethodName := ⟨RJ1, "charAt", "([BI)C"⟩
abbrev cJ1_canEncode_9a6ad : ByteArray := prog_18_method_4_code
def yJ1_canEncode_9a6ad : MethodName := ⟨RJ1, "canEncode", "(I)Z"⟩
abbrev cJ1_indexOf_4cfef : ByteArray := prog_18_method_22_code
def yJ1_indexOf_4cfef : MethodName := ⟨RJ1, "indexOf", "([BIII)I"⟩
abbrev cJ1_indexOfChar_4cfef : ByteArray := prog_18_method_23_code
def yJ1_indexOfChar_4cfef : MethodName := ⟨RJ1, "indexOfChar", "([BIII)I"⟩
def RJ2 : String := "java/lang/StringUTF16"
def TJ2 : u_T := fun k => match k with
  | _ => ("", "", "", false)
def tyJ2 : Nat → FieldType := fun k => match k with
  | _ => .int
abbrev wsJ20 : List Cond := u_ws RJ2 TJ2 0
theorem nmJ2 : ∀ a, a < 0 → ∀ b, b < 0 → a ≠ b → (TJ2 a).2.1 ≠ (TJ2 b).2.1 := by decide +kernel
theorem tyJ2_ok : ∀ k, k < 0 → parseFieldDescriptor (TJ2 k).2.2.1 = some (tyJ2 k) := by decide +kernel
abbrev cJ2_getChar_3b067 : ByteArray := prog_19_method_5_code
def yJ2_getChar_3b067 : MethodName := ⟨RJ2, "getChar", "([BI)C"⟩
abbrev cJ2_length_9d52b : ByteArray := prog_19_method_6_code
def yJ2_length_9d52b : MethodName := ⟨RJ2, "length", "([B)I"⟩
abbrev cJ2_indexOf_4cfef : ByteArray := prog_19_method_40_code
def yJ2_indexOf_4cfef : MethodName := ⟨RJ2, "indexOf", "([BIII)I"⟩
abbrev cJ2_indexOfChar_4cfef : ByteArray := prog_19_method_47_code
def yJ2_indexOfChar_4cfef : MethodName := ⟨RJ2, "indexOfChar", "([BIII)I"⟩
abbrev cJ2_indexOfCharUnsafe_4cfef : ByteArray := prog_19_method_48_code
def yJ2_indexOfCharUnsafe_4cfef : MethodName := ⟨RJ2, "indexOfCharUnsafe", "([BIII)I"⟩
abbrev cJ2_indexOfSupplementary_4cfef : ByteArray := prog_19_method_49_code
def yJ2_indexOfSupplementary_4cfef : MethodName := ⟨RJ2, "indexOfSupplementary", "([BIII)I"⟩
abbrev cJ2_charAt_3b067 : ByteArray := prog_19_method_83_code
def yJ2_charAt_3b067 : MethodName := ⟨RJ2, "charAt", "([BI)C"⟩
abbrev cJ2_checkIndex_2214a : ByteArray := prog_19_method_91_code
def yJ2_checkIndex_2214a : MethodName := ⟨RJ2, "checkIndex", "(I[B)V"⟩
abbrev cJ2_checkBoundsBeginEnd_d044e : ByteArray := prog_19_method_93_code
def yJ2_checkBoundsBeginEnd_d044e : MethodName := ⟨RJ2, "checkBoundsBeginEnd", "(II[B)V"⟩
def RJ10 : String := "java/lang/System"
def TJ10 : u_T := fun k => match k with
  | _ => ("", "", "", false)
def tyJ10 : Nat → FieldType := fun k => match k with
  | _ => .int
abbrev wsJ100 : List Cond := u_ws RJ10 TJ10 0
theorem nmJ10 : ∀ a, a < 0 → ∀ b, b < 0 → a ≠ b → (TJ10 a).2.1 ≠ (TJ10 b).2.1 := by decide +kernel
theorem tyJ10_ok : ∀ k, k < 0 → parseFieldDescriptor (TJ10 k).2.2.1 = some (tyJ10 k) := by decide +kernel
def RJxfd54e : String := "java/lang/constant/Constable"
def TJxfd54e : u_T := fun k => match k with
  | _ => ("", "", "", false)
def tyJxfd54e : Nat → FieldType := fun k => match k with
  | _ => .int
abbrev wsJxfd54e0 : List Cond := u_ws RJxfd54e TJxfd54e 0
theorem nmJxfd54e : ∀ a, a < 0 → ∀ b, b < 0 → a ≠ b → (TJxfd54e a).2.1 ≠ (TJxfd54e b).2.1 := by decide +kernel
theorem tyJxfd54e_ok : ∀ k, k < 0 → parseFieldDescriptor (TJxfd54e k).2.2.1 = some (tyJxfd54e k) := by decide +kernel
def RJx3cf43 : String := "java/lang/constant/ConstantDesc"
def TJx3cf43 : u_T := fun k => match k with
  | _ => ("", "", "", false)
def tyJx3cf43 : Nat → FieldType := fun k => match k with
  | _ => .int
abbrev wsJx3cf430 : List Cond := u_ws RJx3cf43 TJx3cf43 0
theorem nmJx3cf43 : ∀ a, a < 0 → ∀ b, b < 0 → a ≠ b → (TJx3cf43 a).2.1 ≠ (TJx3cf43 b).2.1 := by decide +kernel
theorem tyJx3cf43_ok : ∀ k, k < 0 → parseFieldDescriptor (TJx3cf43 k).2.2.1 = some (tyJx3cf43 k) := by decide +kernel
def RJ7 : String := "java/util/Arrays"
def TJ7 : u_T := fun k => match k with
  | _ => ("", "", "", false)
def tyJ7 : Nat → FieldType := fun k => match k with
  | _ => .int
abbrev wsJ70 : List Cond := u_ws RJ7 TJ7 0
theorem nmJ7 : ∀ a, a < 0 → ∀ b, b < 0 → a ≠ b → (TJ7 a).2.1 ≠ (TJ7 b).2.1 := by decide +kernel
theorem tyJ7_ok : ∀ k, k < 0 → parseFieldDescriptor (TJ7 k).2.2.1 = some (tyJ7 k) := by decide +kernel
abbrev cJ7_fill_53178 : ByteArray := prog_21_method_103_code
def yJ7_fill_53178 : MethodName := ⟨RJ7, "fill", "([II)V"⟩
def RJ3 : String := "jdk/internal/util/Preconditions"
def TJ3 : u_T := fun k => match k with
  | _ => ("", "", "", false)
def tyJ3 : Nat → FieldType := fun k => match k with
  | _ => .int
abbrev wsJ30 : List Cond := u_ws RJ3 TJ3 0
theorem nmJ3 : ∀ a, a < 0 → ∀ b, b < 0 → a ≠ b → (TJ3 a).2.1 ≠ (TJ3 b).2.1 := by decide +kernel
theorem tyJ3_ok : ∀ k, k < 0 → parseFieldDescriptor (TJ3 k).2.2.1 = some (tyJ3 k) := by decide +kernel
abbrev cJ3_checkIndex_8e157 : ByteArray := prog_22_method_11_code
def yJ3_checkIndex_8e157 : MethodName := ⟨RJ3, "checkIndex", "(IILjava/util/function/BiFunction;)I"⟩
abbrev cJ3_checkFromToIndex_8c36e : ByteArray := prog_22_method_12_code
def yJ3_checkFromToIndex_8c36e : MethodName := ⟨RJ3, "checkFromToIndex", "(IIILjava/util/function/BiFunction;)I"⟩
def RL : String := "RopeToALakeLaw"
abbrev cL_law : ByteArray := code
def yL_law : MethodName := ⟨RL, "law", "([I)Z"⟩
abbrev vwCl : List vw_C := [(RX0, TX0, 6), (RX1, TX1, 5), (RX2, TX2, 3), (RX3, TX3, 16), (RX4, TX4, 3), (RX5, TX5, 8), (RX6, TX6, 9), (RX7, TX7, 5), (RX8, TX8, 6), (RX9, TX9, 9), (RX10, TX10, 6), (RX11, TX11, 7), (RX12, TX12, 62)]
theorem inX0 : ∀ w ∈ wsX00, w ∈ lw_tbl := by decide +kernel
theorem inX1 : ∀ w ∈ wsX10, w ∈ lw_tbl := by decide +kernel
theorem inX2 : ∀ w ∈ wsX20, w ∈ lw_tbl := by decide +kernel
theorem inX3 : ∀ w ∈ wsX30, w ∈ lw_tbl := by decide +kernel
theorem inX4 : ∀ w ∈ wsX40, w ∈ lw_tbl := by decide +kernel
theorem inX5 : ∀ w ∈ wsX50, w ∈ lw_tbl := by decide +kernel
theorem inX6 : ∀ w ∈ wsX60, w ∈ lw_tbl := by decide +kernel
theorem inX7 : ∀ w ∈ wsX70, w ∈ lw_tbl := by decide +kernel
theorem inX8 : ∀ w ∈ wsX80, w ∈ lw_tbl := by decide +kernel
theorem inX9 : ∀ w ∈ wsX90, w ∈ lw_tbl := by decide +kernel
theorem inX10 : ∀ w ∈ wsX100, w ∈ lw_tbl := by decide +kernel
theorem inX11 : ∀ w ∈ wsX110, w ∈ lw_tbl := by decide +kernel
theorem inX12 : ∀ w ∈ wsX120, w ∈ lw_tbl := by decide +kernel
