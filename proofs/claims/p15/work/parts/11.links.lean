theorem tb_1 {w : Cond} (i : Nat) (h : tables_1_1[i]? = some w) (hg : goodWord w = true) : w ∈ gws := by
  have h : w ∈ tables_1_1 := List.mem_of_getElem? h
  exact List.mem_filter.mpr ⟨List.mem_append_right _ (List.mem_append_left _ h), hg⟩
theorem tl_1 {w : Cond} (i : Nat) (h : tables_1_1[i]? = some w) : w ∈ lw_tbl := by
  have h : w ∈ tables_1_1 := List.mem_of_getElem? h
  exact List.mem_append_right _ (List.mem_append_left _ h)
theorem tn_1 {w : Cond} (i : Nat) (h : tables_1_1[i]? = some w) (hg : isNest w = true) : w ∈ nestW := by
  have h : w ∈ tables_1_1 := List.mem_of_getElem? h
  exact List.mem_filter.mpr ⟨List.mem_append_right _ (List.mem_append_left _ h), hg⟩
theorem tb_2 {w : Cond} (i : Nat) (h : tables_1_2[i]? = some w) (hg : goodWord w = true) : w ∈ gws := by
  have h : w ∈ tables_1_2 := List.mem_of_getElem? h
  exact List.mem_filter.mpr ⟨List.mem_append_right _ (List.mem_append_right _ (List.mem_append_left _ h)), hg⟩
theorem tl_2 {w : Cond} (i : Nat) (h : tables_1_2[i]? = some w) : w ∈ lw_tbl := by
  have h : w ∈ tables_1_2 := List.mem_of_getElem? h
  exact List.mem_append_right _ (List.mem_append_right _ (List.mem_append_left _ h))
theorem tn_2 {w : Cond} (i : Nat) (h : tables_1_2[i]? = some w) (hg : isNest w = true) : w ∈ nestW := by
  have h : w ∈ tables_1_2 := List.mem_of_getElem? h
  exact List.mem_filter.mpr ⟨List.mem_append_right _ (List.mem_append_right _ (List.mem_append_left _ h)), hg⟩
theorem tb_3 {w : Cond} (i : Nat) (h : tables_1_3[i]? = some w) (hg : goodWord w = true) : w ∈ gws := by
  have h : w ∈ tables_1_3 := List.mem_of_getElem? h
  exact List.mem_filter.mpr ⟨List.mem_append_right _ (List.mem_append_right _ (List.mem_append_right _ (List.mem_append_left _ h))), hg⟩
theorem tl_3 {w : Cond} (i : Nat) (h : tables_1_3[i]? = some w) : w ∈ lw_tbl := by
  have h : w ∈ tables_1_3 := List.mem_of_getElem? h
  exact List.mem_append_right _ (List.mem_append_right _ (List.mem_append_right _ (List.mem_append_left _ h)))
theorem tn_3 {w : Cond} (i : Nat) (h : tables_1_3[i]? = some w) (hg : isNest w = true) : w ∈ nestW := by
  have h : w ∈ tables_1_3 := List.mem_of_getElem? h
  exact List.mem_filter.mpr ⟨List.mem_append_right _ (List.mem_append_right _ (List.mem_append_right _ (List.mem_append_left _ h))), hg⟩
theorem tb_4 {w : Cond} (i : Nat) (h : tables_1_4[i]? = some w) (hg : goodWord w = true) : w ∈ gws := by
  have h : w ∈ tables_1_4 := List.mem_of_getElem? h
  exact List.mem_filter.mpr ⟨List.mem_append_right _ (List.mem_append_right _ (List.mem_append_right _ (List.mem_append_right _ (List.mem_append_left _ h)))), hg⟩
theorem tl_4 {w : Cond} (i : Nat) (h : tables_1_4[i]? = some w) : w ∈ lw_tbl := by
  have h : w ∈ tables_1_4 := List.mem_of_getElem? h
  exact List.mem_append_right _ (List.mem_append_right _ (List.mem_append_right _ (List.mem_append_right _ (List.mem_append_left _ h))))
theorem tn_4 {w : Cond} (i : Nat) (h : tables_1_4[i]? = some w) (hg : isNest w = true) : w ∈ nestW := by
  have h : w ∈ tables_1_4 := List.mem_of_getElem? h
  exact List.mem_filter.mpr ⟨List.mem_append_right _ (List.mem_append_right _ (List.mem_append_right _ (List.mem_append_right _ (List.mem_append_left _ h)))), hg⟩
theorem tb_5 {w : Cond} (i : Nat) (h : tables_1_5[i]? = some w) (hg : goodWord w = true) : w ∈ gws := by
  have h : w ∈ tables_1_5 := List.mem_of_getElem? h
  exact List.mem_filter.mpr ⟨List.mem_append_right _ (List.mem_append_right _ (List.mem_append_right _ (List.mem_append_right _ (List.mem_append_right _ (List.mem_append_left _ h))))), hg⟩
theorem tl_5 {w : Cond} (i : Nat) (h : tables_1_5[i]? = some w) : w ∈ lw_tbl := by
  have h : w ∈ tables_1_5 := List.mem_of_getElem? h
  exact List.mem_append_right _ (List.mem_append_right _ (List.mem_append_right _ (List.mem_append_right _ (List.mem_append_right _ (List.mem_append_left _ h)))))
theorem tn_5 {w : Cond} (i : Nat) (h : tables_1_5[i]? = some w) (hg : isNest w = true) : w ∈ nestW := by
  have h : w ∈ tables_1_5 := List.mem_of_getElem? h
  exact List.mem_filter.mpr ⟨List.mem_append_right _ (List.mem_append_right _ (List.mem_append_right _ (List.mem_append_right _ (List.mem_append_right _ (List.mem_append_left _ h))))), hg⟩
theorem tb_6 {w : Cond} (i : Nat) (h : tables_1_6[i]? = some w) (hg : goodWord w = true) : w ∈ gws := by
  have h : w ∈ tables_1_6 := List.mem_of_getElem? h
  exact List.mem_filter.mpr ⟨List.mem_append_right _ (List.mem_append_right _ (List.mem_append_right _ (List.mem_append_right _ (List.mem_append_right _ (List.mem_append_right _ (List.mem_append_left _ h)))))), hg⟩
theorem tl_6 {w : Cond} (i : Nat) (h : tables_1_6[i]? = some w) : w ∈ lw_tbl := by
  have h : w ∈ tables_1_6 := List.mem_of_getElem? h
  exact List.mem_append_right _ (List.mem_append_right _ (List.mem_append_right _ (List.mem_append_right _ (List.mem_append_right _ (List.mem_append_right _ (List.mem_append_left _ h))))))
theorem tn_6 {w : Cond} (i : Nat) (h : tables_1_6[i]? = some w) (hg : isNest w = true) : w ∈ nestW := by
  have h : w ∈ tables_1_6 := List.mem_of_getElem? h
  exact List.mem_filter.mpr ⟨List.mem_append_right _ (List.mem_append_right _ (List.mem_append_right _ (List.mem_append_right _ (List.mem_append_right _ (List.mem_append_right _ (List.mem_append_left _ h)))))), hg⟩
theorem tb_7 {w : Cond} (i : Nat) (h : tables_1_7[i]? = some w) (hg : goodWord w = true) : w ∈ gws := by
  have h : w ∈ tables_1_7 := List.mem_of_getElem? h
  exact List.mem_filter.mpr ⟨List.mem_append_right _ (List.mem_append_right _ (List.mem_append_right _ (List.mem_append_right _ (List.mem_append_right _ (List.mem_append_right _ (List.mem_append_right _ (List.mem_append_left _ h))))))), hg⟩
theorem tl_7 {w : Cond} (i : Nat) (h : tables_1_7[i]? = some w) : w ∈ lw_tbl := by
  have h : w ∈ tables_1_7 := List.mem_of_getElem? h
  exact List.mem_append_right _ (List.mem_append_right _ (List.mem_append_right _ (List.mem_append_right _ (List.mem_append_right _ (List.mem_append_right _ (List.mem_append_right _ (List.mem_append_left _ h)))))))
theorem tn_7 {w : Cond} (i : Nat) (h : tables_1_7[i]? = some w) (hg : isNest w = true) : w ∈ nestW := by
  have h : w ∈ tables_1_7 := List.mem_of_getElem? h
  exact List.mem_filter.mpr ⟨List.mem_append_right _ (List.mem_append_right _ (List.mem_append_right _ (List.mem_append_right _ (List.mem_append_right _ (List.mem_append_right _ (List.mem_append_right _ (List.mem_append_left _ h))))))), hg⟩
theorem tb_8 {w : Cond} (i : Nat) (h : tables_1_8[i]? = some w) (hg : goodWord w = true) : w ∈ gws := by
  have h : w ∈ tables_1_8 := List.mem_of_getElem? h
  exact List.mem_filter.mpr ⟨List.mem_append_right _ (List.mem_append_right _ (List.mem_append_right _ (List.mem_append_right _ (List.mem_append_right _ (List.mem_append_right _ (List.mem_append_right _ (List.mem_append_right _ (h)))))))), hg⟩
theorem tl_8 {w : Cond} (i : Nat) (h : tables_1_8[i]? = some w) : w ∈ lw_tbl := by
  have h : w ∈ tables_1_8 := List.mem_of_getElem? h
  exact List.mem_append_right _ (List.mem_append_right _ (List.mem_append_right _ (List.mem_append_right _ (List.mem_append_right _ (List.mem_append_right _ (List.mem_append_right _ (List.mem_append_right _ (h))))))))
theorem tn_8 {w : Cond} (i : Nat) (h : tables_1_8[i]? = some w) (hg : isNest w = true) : w ∈ nestW := by
  have h : w ∈ tables_1_8 := List.mem_of_getElem? h
  exact List.mem_filter.mpr ⟨List.mem_append_right _ (List.mem_append_right _ (List.mem_append_right _ (List.mem_append_right _ (List.mem_append_right _ (List.mem_append_right _ (List.mem_append_right _ (List.mem_append_right _ (h)))))))), hg⟩
theorem ts_1 {q : MethodName × Nat} (i : Nat) (h : lw_privs_1[i]? = some q) : Cond.selects q.1.cls q.1 q.1 ∈ gws := by
  have h : q ∈ lw_privs_1 := List.mem_of_getElem? h
  have h : q ∈ lw_privs := List.mem_append_left _ h
  exact List.mem_filter.mpr ⟨List.mem_append_left _ (List.mem_map_of_mem (f := fun q : MethodName × Nat => Cond.selects q.1.cls q.1 q.1) h), rfl⟩
theorem ts_2 {q : MethodName × Nat} (i : Nat) (h : lw_privs_2[i]? = some q) : Cond.selects q.1.cls q.1 q.1 ∈ gws := by
  have h : q ∈ lw_privs_2 := List.mem_of_getElem? h
  have h : q ∈ lw_privs := List.mem_append_right _ (List.mem_append_left _ h)
  exact List.mem_filter.mpr ⟨List.mem_append_left _ (List.mem_map_of_mem (f := fun q : MethodName × Nat => Cond.selects q.1.cls q.1 q.1) h), rfl⟩
theorem ts_3 {q : MethodName × Nat} (i : Nat) (h : lw_privs_3[i]? = some q) : Cond.selects q.1.cls q.1 q.1 ∈ gws := by
  have h : q ∈ lw_privs_3 := List.mem_of_getElem? h
  have h : q ∈ lw_privs := List.mem_append_right _ (List.mem_append_right _ (List.mem_append_left _ h))
  exact List.mem_filter.mpr ⟨List.mem_append_left _ (List.mem_map_of_mem (f := fun q : MethodName × Nat => Cond.selects q.1.cls q.1 q.1) h), rfl⟩
theorem ts_4 {q : MethodName × Nat} (i : Nat) (h : lw_privs_4[i]? = some q) : Cond.selects q.1.cls q.1 q.1 ∈ gws := by
  have h : q ∈ lw_privs_4 := List.mem_of_getElem? h
  have h : q ∈ lw_privs := List.mem_append_right _ (List.mem_append_right _ (List.mem_append_right _ (List.mem_append_left _ h)))
  exact List.mem_filter.mpr ⟨List.mem_append_left _ (List.mem_map_of_mem (f := fun q : MethodName × Nat => Cond.selects q.1.cls q.1 q.1) h), rfl⟩
theorem ts_5 {q : MethodName × Nat} (i : Nat) (h : lw_privs_5[i]? = some q) : Cond.selects q.1.cls q.1 q.1 ∈ gws := by
  have h : q ∈ lw_privs_5 := List.mem_of_getElem? h
  have h : q ∈ lw_privs := List.mem_append_right _ (List.mem_append_right _ (List.mem_append_right _ (List.mem_append_right _ (List.mem_append_left _ h))))
  exact List.mem_filter.mpr ⟨List.mem_append_left _ (List.mem_map_of_mem (f := fun q : MethodName × Nat => Cond.selects q.1.cls q.1 q.1) h), rfl⟩
theorem ts_6 {q : MethodName × Nat} (i : Nat) (h : lw_privs_6[i]? = some q) : Cond.selects q.1.cls q.1 q.1 ∈ gws := by
  have h : q ∈ lw_privs_6 := List.mem_of_getElem? h
  have h : q ∈ lw_privs := List.mem_append_right _ (List.mem_append_right _ (List.mem_append_right _ (List.mem_append_right _ (List.mem_append_right _ (List.mem_append_left _ h)))))
  exact List.mem_filter.mpr ⟨List.mem_append_left _ (List.mem_map_of_mem (f := fun q : MethodName × Nat => Cond.selects q.1.cls q.1 q.1) h), rfl⟩
theorem ts_7 {q : MethodName × Nat} (i : Nat) (h : lw_privs_7[i]? = some q) : Cond.selects q.1.cls q.1 q.1 ∈ gws := by
  have h : q ∈ lw_privs_7 := List.mem_of_getElem? h
  have h : q ∈ lw_privs := List.mem_append_right _ (List.mem_append_right _ (List.mem_append_right _ (List.mem_append_right _ (List.mem_append_right _ (List.mem_append_right _ (h))))))
  exact List.mem_filter.mpr ⟨List.mem_append_left _ (List.mem_map_of_mem (f := fun q : MethodName × Nat => Cond.selects q.1.cls q.1 q.1) h), rfl⟩
theorem iniL : Cond.initialized RL ∈ gws := tb_1 0 rfl rfl
theorem iniX11 : Cond.initialized RX11 ∈ gws := tb_1 1 rfl rfl
theorem iniX9 : Cond.initialized RX9 ∈ gws := tb_1 2 rfl rfl
theorem iniX3 : Cond.initialized RX3 ∈ gws := tb_1 3 rfl rfl
theorem iniX6 : Cond.initialized RX6 ∈ gws := tb_1 4 rfl rfl
theorem iniX0 : Cond.initialized RX0 ∈ gws := tb_1 5 rfl rfl
theorem iniX7 : Cond.initialized RX7 ∈ gws := tb_1 6 rfl rfl
theorem iniX1 : Cond.initialized RX1 ∈ gws := tb_1 7 rfl rfl
theorem iniJ7 : Cond.initialized RJ7 ∈ gws := tb_1 8 rfl rfl
theorem iniX4 : Cond.initialized RX4 ∈ gws := tb_1 9 rfl rfl
theorem iniX5 : Cond.initialized RX5 ∈ gws := tb_1 10 rfl rfl
theorem iniX8 : Cond.initialized RX8 ∈ gws := tb_1 11 rfl rfl
theorem iniX10 : Cond.initialized RX10 ∈ gws := tb_1 12 rfl rfl
theorem iniX2 : Cond.initialized RX2 ∈ gws := tb_1 13 rfl rfl
theorem iniX12 : Cond.initialized RX12 ∈ gws := tb_1 14 rfl rfl
theorem iniJ9 : Cond.initialized RJ9 ∈ gws := tb_1 15 rfl rfl
theorem iniJ0 : Cond.initialized RJ0 ∈ gws := tb_1 16 rfl rfl
theorem iniJ1 : Cond.initialized RJ1 ∈ gws := tb_1 17 rfl rfl
theorem iniJ3 : Cond.initialized RJ3 ∈ gws := tb_1 18 rfl rfl
theorem iniJ2 : Cond.initialized RJ2 ∈ gws := tb_1 19 rfl rfl
theorem iniJ11 : Cond.initialized RJ11 ∈ gws := tb_1 20 rfl rfl
theorem iniJ10 : Cond.initialized RJ10 ∈ gws := tb_1 21 rfl rfl
theorem cdX11_init : Cond.code yX11_init cX11_init 1 none ∈ gws := tb_1 26 rfl rfl
theorem insX11_init : Cond.instanceMethod yX11_init ∈ gws := tb_1 25 rfl rfl
theorem cdX9_init : Cond.code yX9_init cX9_init 1 none ∈ gws := tb_1 34 rfl rfl
theorem insX9_init : Cond.instanceMethod yX9_init ∈ gws := tb_1 33 rfl rfl
theorem cdX3_init : Cond.code yX3_init cX3_init 1 none ∈ gws := tb_1 40 rfl rfl
theorem insX3_init : Cond.instanceMethod yX3_init ∈ gws := tb_1 39 rfl rfl
theorem cdX6_init : Cond.code yX6_init cX6_init 1 none ∈ gws := tb_1 136 rfl rfl
theorem insX6_init : Cond.instanceMethod yX6_init ∈ gws := tb_1 135 rfl rfl
theorem cdX0_init : Cond.code yX0_init cX0_init 1 none ∈ gws := tb_1 180 rfl rfl
theorem insX0_init : Cond.instanceMethod yX0_init ∈ gws := tb_1 179 rfl rfl
theorem cdX7_init : Cond.code yX7_init cX7_init 1 none ∈ gws := tb_1 213 rfl rfl
theorem insX7_init : Cond.instanceMethod yX7_init ∈ gws := tb_1 212 rfl rfl
theorem cdX1_init : Cond.code yX1_init cX1_init 1 none ∈ gws := tb_1 237 rfl rfl
theorem insX1_init : Cond.instanceMethod yX1_init ∈ gws := tb_1 236 rfl rfl
theorem cdX9_beginWith : Cond.code yX9_beginWith cX9_beginWith 2 none ∈ gws := tb_2 19 rfl rfl
theorem insX9_beginWith : Cond.instanceMethod yX9_beginWith ∈ gws := tb_2 17 rfl rfl
theorem selX9_beginWith : Cond.selects RX9 yX9_beginWith yX9_beginWith ∈ gws := tb_2 18 rfl rfl
theorem cdX3_clearAllButDraws : Cond.code yX3_clearAllButDraws cX3_clearAllButDraws 1 none ∈ gws := tb_2 23 rfl rfl
theorem insX3_clearAllButDraws : Cond.instanceMethod yX3_clearAllButDraws ∈ gws := tb_2 21 rfl rfl
theorem selX3_clearAllButDraws : Cond.selects RX3 yX3_clearAllButDraws yX3_clearAllButDraws ∈ gws := tb_2 22 rfl rfl
theorem cdJ7_fill_53178 : Cond.code yJ7_fill_53178 cJ7_fill_53178 4 none ∈ gws := tb_2 26 rfl rfl
theorem staJ7_fill_53178 : Cond.static yJ7_fill_53178 ∈ gws := tb_2 25 rfl rfl
theorem cdX3_forgetToday : Cond.code yX3_forgetToday cX3_forgetToday 1 none ∈ gws := tb_2 30 rfl rfl
theorem insX3_forgetToday : Cond.instanceMethod yX3_forgetToday ∈ gws := tb_2 28 rfl rfl
theorem selX3_forgetToday : Cond.selects RX3 yX3_forgetToday yX3_forgetToday ∈ gws := tb_2 29 rfl rfl
theorem cdX6_beginWith : Cond.code yX6_beginWith cX6_beginWith 2 none ∈ gws := tb_2 34 rfl rfl
theorem insX6_beginWith : Cond.instanceMethod yX6_beginWith ∈ gws := tb_2 32 rfl rfl
theorem selX6_beginWith : Cond.selects RX6 yX6_beginWith yX6_beginWith ∈ gws := tb_2 33 rfl rfl
theorem cdX0_begin : Cond.code yX0_begin cX0_begin 2 none ∈ gws := tb_2 39 rfl rfl
theorem insX0_begin : Cond.instanceMethod yX0_begin ∈ gws := tb_2 37 rfl rfl
theorem selX0_begin : Cond.selects RX0 yX0_begin yX0_begin ∈ gws := tb_2 38 rfl rfl
theorem cdX7_begin : Cond.code yX7_begin cX7_begin 1 none ∈ gws := tb_2 44 rfl rfl
theorem insX7_begin : Cond.instanceMethod yX7_begin ∈ gws := tb_2 42 rfl rfl
theorem selX7_begin : Cond.selects RX7 yX7_begin yX7_begin ∈ gws := tb_2 43 rfl rfl
theorem cdX1_begin : Cond.code yX1_begin cX1_begin 1 none ∈ gws := tb_2 49 rfl rfl
theorem insX1_begin : Cond.instanceMethod yX1_begin ∈ gws := tb_2 47 rfl rfl
theorem selX1_begin : Cond.selects RX1 yX1_begin yX1_begin ∈ gws := tb_2 48 rfl rfl
theorem cdX4_init : Cond.code yX4_init cX4_init 2 none ∈ gws := tb_2 92 rfl rfl
theorem insX4_init : Cond.instanceMethod yX4_init ∈ gws := tb_2 91 rfl rfl
theorem cdX5_init : Cond.code yX5_init cX5_init 1 none ∈ gws := tb_2 112 rfl rfl
theorem insX5_init : Cond.instanceMethod yX5_init ∈ gws := tb_2 111 rfl rfl
theorem cdX8_init : Cond.code yX8_init cX8_init 1 none ∈ gws := tb_2 118 rfl rfl
theorem insX8_init : Cond.instanceMethod yX8_init ∈ gws := tb_2 117 rfl rfl
theorem cdX10_init : Cond.code yX10_init cX10_init 1 none ∈ gws := tb_2 178 rfl rfl
theorem insX10_init : Cond.instanceMethod yX10_init ∈ gws := tb_2 177 rfl rfl
theorem cdX2_init : Cond.code yX2_init cX2_init 1 none ∈ gws := tb_2 205 rfl rfl
theorem insX2_init : Cond.instanceMethod yX2_init ∈ gws := tb_2 204 rfl rfl
theorem cdX11_state : Cond.code yX11_state cX11_state 3 (some .int) ∈ gws := tb_3 2 rfl rfl
theorem insX11_state : Cond.instanceMethod yX11_state ∈ gws := tb_3 0 rfl rfl
theorem selX11_state : Cond.selects RX11 yX11_state yX11_state ∈ gws := tb_3 1 rfl rfl
theorem cdX4_tellDraws : Cond.code yX4_tellDraws cX4_tellDraws 3 none ∈ gws := tb_3 6 rfl rfl
theorem insX4_tellDraws : Cond.instanceMethod yX4_tellDraws ∈ gws := tb_3 4 rfl rfl
theorem selX4_tellDraws : Cond.selects RX4 yX4_tellDraws yX4_tellDraws ∈ gws := tb_3 5 rfl rfl
theorem cdX11_notches : Cond.code yX11_notches cX11_notches 2 (some .boolean) ∈ gws := tb_3 10 rfl rfl
theorem insX11_notches : Cond.instanceMethod yX11_notches ∈ gws := tb_3 8 rfl rfl
theorem selX11_notches : Cond.selects RX11 yX11_notches yX11_notches ∈ gws := tb_3 9 rfl rfl
theorem cdX11_isWithin : Cond.code yX11_isWithin cX11_isWithin 3 (some .boolean) ∈ gws := tb_3 13 rfl rfl
theorem staX11_isWithin : Cond.static yX11_isWithin ∈ gws := tb_3 12 rfl rfl
theorem cdX4_forget : Cond.code yX4_forget cX4_forget 1 none ∈ gws := tb_3 18 rfl rfl
theorem insX4_forget : Cond.instanceMethod yX4_forget ∈ gws := tb_3 16 rfl rfl
theorem selX4_forget : Cond.selects RX4 yX4_forget yX4_forget ∈ gws := tb_3 17 rfl rfl
theorem cdX11_bucket : Cond.code yX11_bucket cX11_bucket 4 (some .int) ∈ gws := tb_3 22 rfl rfl
theorem insX11_bucket : Cond.instanceMethod yX11_bucket ∈ gws := tb_3 20 rfl rfl
theorem selX11_bucket : Cond.selects RX11 yX11_bucket yX11_bucket ∈ gws := tb_3 21 rfl rfl
theorem cdX6_hangBucket : Cond.code yX6_hangBucket cX6_hangBucket 4 (some .int) ∈ gws := tb_3 26 rfl rfl
theorem insX6_hangBucket : Cond.instanceMethod yX6_hangBucket ∈ gws := tb_3 24 rfl rfl
theorem selX6_hangBucket : Cond.selects RX6 yX6_hangBucket yX6_hangBucket ∈ gws := tb_3 25 rfl rfl
theorem cdX6_isTaken : Cond.code yX6_isTaken cX6_isTaken 3 (some .boolean) ∈ gws := tb_3 31 rfl rfl
theorem insX6_isTaken : Cond.instanceMethod yX6_isTaken ∈ gws := tb_3 30 rfl rfl
theorem selX6_isTaken : Cond.selects RX6 yX6_isTaken yX6_isTaken ∈ gws := ts_1 (q := (⟨"RopeToALake$Rope", "isTaken", "(I)Z"⟩, _)) 0 rfl
theorem cdX11_forgetIfNumbered : Cond.code yX11_forgetIfNumbered cX11_forgetIfNumbered 2 (some .int) ∈ gws := tb_3 35 rfl rfl
theorem insX11_forgetIfNumbered : Cond.instanceMethod yX11_forgetIfNumbered ∈ gws := tb_3 34 rfl rfl
theorem selX11_forgetIfNumbered : Cond.selects RX11 yX11_forgetIfNumbered yX11_forgetIfNumbered ∈ gws := ts_1 (q := (⟨"RopeToALake", "forgetIfNumbered", "(I)I"⟩, _)) 1 rfl
theorem cdX11_forgetIf : Cond.code yX11_forgetIf cX11_forgetIf 2 (some .boolean) ∈ gws := tb_3 39 rfl rfl
theorem insX11_forgetIf : Cond.instanceMethod yX11_forgetIf ∈ gws := tb_3 38 rfl rfl
theorem selX11_forgetIf : Cond.selects RX11 yX11_forgetIf yX11_forgetIf ∈ gws := ts_1 (q := (⟨"RopeToALake", "forgetIf", "(Z)Z"⟩, _)) 2 rfl
theorem cdX11_farm : Cond.code yX11_farm cX11_farm 5 (some .int) ∈ gws := tb_3 43 rfl rfl
theorem insX11_farm : Cond.instanceMethod yX11_farm ∈ gws := tb_3 41 rfl rfl
theorem selX11_farm : Cond.selects RX11 yX11_farm yX11_farm ∈ gws := tb_3 42 rfl rfl
theorem cdX0_settle : Cond.code yX0_settle cX0_settle 5 (some .int) ∈ gws := tb_3 47 rfl rfl
theorem insX0_settle : Cond.instanceMethod yX0_settle ∈ gws := tb_3 45 rfl rfl
theorem selX0_settle : Cond.selects RX0 yX0_settle yX0_settle ∈ gws := tb_3 46 rfl rfl
theorem cdX0_isFit : Cond.code yX0_isFit cX0_isFit 2 (some .boolean) ∈ gws := tb_3 50 rfl rfl
theorem staX0_isFit : Cond.static yX0_isFit ∈ gws := tb_3 49 rfl rfl
theorem cdX11_tell : Cond.code yX11_tell cX11_tell 4 (some .boolean) ∈ gws := tb_3 57 rfl rfl
theorem insX11_tell : Cond.instanceMethod yX11_tell ∈ gws := tb_3 55 rfl rfl
theorem selX11_tell : Cond.selects RX11 yX11_tell yX11_tell ∈ gws := tb_3 56 rfl rfl
theorem cdX9_learn : Cond.code yX9_learn cX9_learn 4 (some .boolean) ∈ gws := tb_3 61 rfl rfl
theorem insX9_learn : Cond.instanceMethod yX9_learn ∈ gws := tb_3 59 rfl rfl
theorem selX9_learn : Cond.selects RX9 yX9_learn yX9_learn ∈ gws := tb_3 60 rfl rfl
theorem cdX0_learnTrait : Cond.code yX0_learnTrait cX0_learnTrait 4 (some .boolean) ∈ gws := tb_3 65 rfl rfl
theorem insX0_learnTrait : Cond.instanceMethod yX0_learnTrait ∈ gws := tb_3 63 rfl rfl
theorem selX0_learnTrait : Cond.selects RX0 yX0_learnTrait yX0_learnTrait ∈ gws := tb_3 64 rfl rfl
theorem cdX0_has : Cond.code yX0_has cX0_has 2 (some .boolean) ∈ gws := tb_3 69 rfl rfl
theorem insX0_has : Cond.instanceMethod yX0_has ∈ gws := tb_3 67 rfl rfl
theorem selX0_has : Cond.selects RX0 yX0_has yX0_has ∈ gws := tb_3 68 rfl rfl
theorem cdX9_learnHole : Cond.code yX9_learnHole cX9_learnHole 3 (some .boolean) ∈ gws := tb_3 73 rfl rfl
theorem insX9_learnHole : Cond.instanceMethod yX9_learnHole ∈ gws := tb_3 72 rfl rfl
theorem selX9_learnHole : Cond.selects RX9 yX9_learnHole yX9_learnHole ∈ gws := ts_1 (q := (⟨"RopeToALake$Valley", "learnHole", "(II)Z"⟩, _)) 3 rfl
theorem cdX6_hasBucket : Cond.code yX6_hasBucket cX6_hasBucket 2 (some .boolean) ∈ gws := tb_3 77 rfl rfl
theorem insX6_hasBucket : Cond.instanceMethod yX6_hasBucket ∈ gws := tb_3 75 rfl rfl
theorem selX6_hasBucket : Cond.selects RX6 yX6_hasBucket yX6_hasBucket ∈ gws := tb_3 76 rfl rfl
theorem cdX9_learnField : Cond.code yX9_learnField cX9_learnField 3 (some .boolean) ∈ gws := tb_3 82 rfl rfl
theorem insX9_learnField : Cond.instanceMethod yX9_learnField ∈ gws := tb_3 81 rfl rfl
theorem selX9_learnField : Cond.selects RX9 yX9_learnField yX9_learnField ∈ gws := ts_1 (q := (⟨"RopeToALake$Valley", "learnField", "(II)Z"⟩, _)) 4 rfl
theorem cdX6_isOverLand : Cond.code yX6_isOverLand cX6_isOverLand 2 (some .boolean) ∈ gws := tb_3 86 rfl rfl
theorem insX6_isOverLand : Cond.instanceMethod yX6_isOverLand ∈ gws := tb_3 84 rfl rfl
theorem selX6_isOverLand : Cond.selects RX6 yX6_isOverLand yX6_isOverLand ∈ gws := tb_3 85 rfl rfl
theorem cdX9_learnLake : Cond.code yX9_learnLake cX9_learnLake 2 (some .boolean) ∈ gws := tb_3 91 rfl rfl
theorem insX9_learnLake : Cond.instanceMethod yX9_learnLake ∈ gws := tb_3 90 rfl rfl
theorem selX9_learnLake : Cond.selects RX9 yX9_learnLake yX9_learnLake ∈ gws := ts_1 (q := (⟨"RopeToALake$Valley", "learnLake", "(I)Z"⟩, _)) 5 rfl
theorem cdX3_allDrops : Cond.code yX3_allDrops cX3_allDrops 3 (some .int) ∈ gws := tb_3 96 rfl rfl
theorem insX3_allDrops : Cond.instanceMethod yX3_allDrops ∈ gws := tb_3 94 rfl rfl
theorem selX3_allDrops : Cond.selects RX3 yX3_allDrops yX3_allDrops ∈ gws := tb_3 95 rfl rfl
theorem cdX9_learnFrost : Cond.code yX9_learnFrost cX9_learnFrost 2 (some .boolean) ∈ gws := tb_3 101 rfl rfl
theorem insX9_learnFrost : Cond.instanceMethod yX9_learnFrost ∈ gws := tb_3 100 rfl rfl
theorem selX9_learnFrost : Cond.selects RX9 yX9_learnFrost yX9_learnFrost ∈ gws := ts_1 (q := (⟨"RopeToALake$Valley", "learnFrost", "(I)Z"⟩, _)) 6 rfl
theorem cdX9_learnCold : Cond.code yX9_learnCold cX9_learnCold 2 (some .boolean) ∈ gws := tb_3 105 rfl rfl
theorem insX9_learnCold : Cond.instanceMethod yX9_learnCold ∈ gws := tb_3 104 rfl rfl
theorem selX9_learnCold : Cond.selects RX9 yX9_learnCold yX9_learnCold ∈ gws := ts_1 (q := (⟨"RopeToALake$Valley", "learnCold", "(I)Z"⟩, _)) 7 rfl
theorem cdX11_turn : Cond.code yX11_turn cX11_turn 3 (some .boolean) ∈ gws := tb_3 109 rfl rfl
theorem insX11_turn : Cond.instanceMethod yX11_turn ∈ gws := tb_3 107 rfl rfl
theorem selX11_turn : Cond.selects RX11 yX11_turn yX11_turn ∈ gws := tb_3 108 rfl rfl
theorem cdX11_absent : Cond.code yX11_absent cX11_absent 4 (some .boolean) ∈ gws := tb_3 114 rfl rfl
theorem insX11_absent : Cond.instanceMethod yX11_absent ∈ gws := tb_3 112 rfl rfl
theorem selX11_absent : Cond.selects RX11 yX11_absent yX11_absent ∈ gws := tb_3 113 rfl rfl
theorem cdX0_areTwo : Cond.code yX0_areTwo cX0_areTwo 3 (some .boolean) ∈ gws := tb_3 118 rfl rfl
theorem insX0_areTwo : Cond.instanceMethod yX0_areTwo ∈ gws := tb_3 116 rfl rfl
theorem selX0_areTwo : Cond.selects RX0 yX0_areTwo yX0_areTwo ∈ gws := tb_3 117 rfl rfl
theorem cdX7_excuse : Cond.code yX7_excuse cX7_excuse 4 (some .boolean) ∈ gws := tb_3 122 rfl rfl
theorem insX7_excuse : Cond.instanceMethod yX7_excuse ∈ gws := tb_3 120 rfl rfl
theorem selX7_excuse : Cond.selects RX7 yX7_excuse yX7_excuse ∈ gws := tb_3 121 rfl rfl
theorem cdX7_isBound : Cond.code yX7_isBound cX7_isBound 4 (some .boolean) ∈ gws := tb_3 126 rfl rfl
theorem insX7_isBound : Cond.instanceMethod yX7_isBound ∈ gws := tb_3 125 rfl rfl
theorem selX7_isBound : Cond.selects RX7 yX7_isBound yX7_isBound ∈ gws := ts_1 (q := (⟨"RopeToALake$Roster", "isBound", "(II)Z"⟩, _)) 8 rfl
theorem cdX11_splice : Cond.code yX11_splice cX11_splice 5 (some .int) ∈ gws := tb_3 130 rfl rfl
theorem insX11_splice : Cond.instanceMethod yX11_splice ∈ gws := tb_3 128 rfl rfl
theorem selX11_splice : Cond.selects RX11 yX11_splice yX11_splice ∈ gws := tb_3 129 rfl rfl
theorem cdX6_addSplice : Cond.code yX6_addSplice cX6_addSplice 3 (some .int) ∈ gws := tb_3 135 rfl rfl
theorem insX6_addSplice : Cond.instanceMethod yX6_addSplice ∈ gws := tb_3 133 rfl rfl
theorem selX6_addSplice : Cond.selects RX6 yX6_addSplice yX6_addSplice ∈ gws := tb_3 134 rfl rfl
theorem cdX11_mend : Cond.code yX11_mend cX11_mend 3 (some .boolean) ∈ gws := tb_3 139 rfl rfl
theorem insX11_mend : Cond.instanceMethod yX11_mend ∈ gws := tb_3 137 rfl rfl
theorem selX11_mend : Cond.selects RX11 yX11_mend yX11_mend ∈ gws := tb_3 138 rfl rfl
theorem cdX6_hasSplice : Cond.code yX6_hasSplice cX6_hasSplice 2 (some .boolean) ∈ gws := tb_3 143 rfl rfl
theorem insX6_hasSplice : Cond.instanceMethod yX6_hasSplice ∈ gws := tb_3 141 rfl rfl
theorem selX6_hasSplice : Cond.selects RX6 yX6_hasSplice yX6_hasSplice ∈ gws := tb_3 142 rfl rfl
theorem cdX11_foes : Cond.code yX11_foes cX11_foes 4 (some .boolean) ∈ gws := tb_3 147 rfl rfl
theorem insX11_foes : Cond.instanceMethod yX11_foes ∈ gws := tb_3 145 rfl rfl
theorem selX11_foes : Cond.selects RX11 yX11_foes yX11_foes ∈ gws := tb_3 146 rfl rfl
theorem cdX0_setFoes : Cond.code yX0_setFoes cX0_setFoes 6 none ∈ gws := tb_3 151 rfl rfl
theorem insX0_setFoes : Cond.instanceMethod yX0_setFoes ∈ gws := tb_3 149 rfl rfl
theorem selX0_setFoes : Cond.selects RX0 yX0_setFoes yX0_setFoes ∈ gws := tb_3 150 rfl rfl
theorem cdX11_feed : Cond.code yX11_feed cX11_feed 7 (some .int) ∈ gws := tb_3 155 rfl rfl
theorem insX11_feed : Cond.instanceMethod yX11_feed ∈ gws := tb_3 153 rfl rfl
theorem selX11_feed : Cond.selects RX11 yX11_feed yX11_feed ∈ gws := tb_3 154 rfl rfl
theorem cdX8_hasRoom : Cond.code yX8_hasRoom cX8_hasRoom 1 (some .boolean) ∈ gws := tb_3 159 rfl rfl
theorem insX8_hasRoom : Cond.instanceMethod yX8_hasRoom ∈ gws := tb_3 157 rfl rfl
theorem selX8_hasRoom : Cond.selects RX8 yX8_hasRoom yX8_hasRoom ∈ gws := tb_3 158 rfl rfl
theorem cdX8_add : Cond.code yX8_add cX8_add 3 none ∈ gws := tb_3 163 rfl rfl
theorem insX8_add : Cond.instanceMethod yX8_add ∈ gws := tb_3 161 rfl rfl
theorem selX8_add : Cond.selects RX8 yX8_add yX8_add ∈ gws := tb_3 162 rfl rfl
theorem cdX11_end : Cond.code yX11_end cX11_end 2 (some .boolean) ∈ gws := tb_3 167 rfl rfl
theorem insX11_end : Cond.instanceMethod yX11_end ∈ gws := tb_3 165 rfl rfl
theorem selX11_end : Cond.selects RX11 yX11_end yX11_end ∈ gws := tb_3 166 rfl rfl
theorem cdX11_text : Cond.code yX11_text cX11_text 1 (some .int) ∈ gws := tb_3 171 rfl rfl
theorem insX11_text : Cond.instanceMethod yX11_text ∈ gws := tb_3 169 rfl rfl
theorem selX11_text : Cond.selects RX11 yX11_text yX11_text ∈ gws := tb_3 170 rfl rfl
theorem cdX5_read : Cond.code yX5_read cX5_read 2 none ∈ gws := tb_3 175 rfl rfl
theorem insX5_read : Cond.instanceMethod yX5_read ∈ gws := tb_3 173 rfl rfl
theorem selX5_read : Cond.selects RX5 yX5_read yX5_read ∈ gws := tb_3 174 rfl rfl
theorem cdX8_scan : Cond.code yX8_scan cX8_scan 3 none ∈ gws := tb_3 179 rfl rfl
theorem insX8_scan : Cond.instanceMethod yX8_scan ∈ gws := tb_3 177 rfl rfl
theorem selX8_scan : Cond.selects RX8 yX8_scan yX8_scan ∈ gws := tb_3 178 rfl rfl
theorem cdX8_signAt : Cond.code yX8_signAt cX8_signAt 2 (some .int) ∈ gws := tb_3 183 rfl rfl
theorem insX8_signAt : Cond.instanceMethod yX8_signAt ∈ gws := tb_3 182 rfl rfl
theorem selX8_signAt : Cond.selects RX8 yX8_signAt yX8_signAt ∈ gws := ts_1 (q := (⟨"RopeToALake$Tape", "signAt", "(I)I"⟩, _)) 9 rfl
theorem cdJ9_min_7cf53 : Cond.code yJ9_min_7cf53 cJ9_min_7cf53 2 (some .int) ∈ gws := tb_3 186 rfl rfl
theorem staJ9_min_7cf53 : Cond.static yJ9_min_7cf53 ∈ gws := tb_3 185 rfl rfl
theorem cdX8_scanToken : Cond.code yX8_scanToken cX8_scanToken 2 (some .int) ∈ gws := tb_3 191 rfl rfl
theorem insX8_scanToken : Cond.instanceMethod yX8_scanToken ∈ gws := tb_3 190 rfl rfl
theorem selX8_scanToken : Cond.selects RX8 yX8_scanToken yX8_scanToken ∈ gws := ts_1 (q := (⟨"RopeToALake$Tape", "scanToken", "(I)I"⟩, _)) 10 rfl
theorem cdX8_isLetter : Cond.code yX8_isLetter cX8_isLetter 1 (some .boolean) ∈ gws := tb_3 194 rfl rfl
theorem staX8_isLetter : Cond.static yX8_isLetter ∈ gws := tb_3 193 rfl rfl
theorem cdX8_scanWord : Cond.code yX8_scanWord cX8_scanWord 5 (some .int) ∈ gws := tb_3 198 rfl rfl
theorem insX8_scanWord : Cond.instanceMethod yX8_scanWord ∈ gws := tb_3 197 rfl rfl
theorem selX8_scanWord : Cond.selects RX8 yX8_scanWord yX8_scanWord ∈ gws := ts_1 (q := (⟨"RopeToALake$Tape", "scanWord", "()I"⟩, _)) 11 rfl
theorem cdJ0_length_8abf5 : Cond.code yJ0_length_8abf5 cJ0_length_8abf5 1 (some .int) ∈ gws := tb_3 203 rfl rfl
theorem insJ0_length_8abf5 : Cond.instanceMethod yJ0_length_8abf5 ∈ gws := tb_3 201 rfl rfl
theorem selJ0_length_8abf5 : Cond.selects RJ0 yJ0_length_8abf5 yJ0_length_8abf5 ∈ gws := tb_3 202 rfl rfl
theorem cdJ0_coder_7d493 : Cond.code yJ0_coder_7d493 cJ0_coder_7d493 1 (some .byte) ∈ gws := tb_3 207 rfl rfl
theorem insJ0_coder_7d493 : Cond.instanceMethod yJ0_coder_7d493 ∈ gws := tb_3 205 rfl rfl
theorem selJ0_coder_7d493 : Cond.selects RJ0 yJ0_coder_7d493 yJ0_coder_7d493 ∈ gws := tb_3 206 rfl rfl
theorem cdJ0_charAt_5068e : Cond.code yJ0_charAt_5068e cJ0_charAt_5068e 2 (some .char) ∈ gws := tb_3 213 rfl rfl
theorem insJ0_charAt_5068e : Cond.instanceMethod yJ0_charAt_5068e ∈ gws := tb_3 211 rfl rfl
theorem selJ0_charAt_5068e : Cond.selects RJ0 yJ0_charAt_5068e yJ0_charAt_5068e ∈ gws := tb_3 212 rfl rfl
theorem cdJ0_isLatin1_aae02 : Cond.code yJ0_isLatin1_aae02 cJ0_isLatin1_aae02 1 (some .boolean) ∈ gws := tb_3 217 rfl rfl
theorem insJ0_isLatin1_aae02 : Cond.instanceMethod yJ0_isLatin1_aae02 ∈ gws := tb_3 215 rfl rfl
theorem selJ0_isLatin1_aae02 : Cond.selects RJ0 yJ0_isLatin1_aae02 yJ0_isLatin1_aae02 ∈ gws := tb_3 216 rfl rfl
theorem cdJ1_charAt_3b067 : Cond.code yJ1_charAt_3b067 cJ1_charAt_3b067 2 (some .char) ∈ gws := tb_3 220 rfl rfl
theorem staJ1_charAt_3b067 : Cond.static yJ1_charAt_3b067 ∈ gws := tb_3 219 rfl rfl
theorem cdJ0_checkIndex_df160 : Cond.code yJ0_checkIndex_df160 cJ0_checkIndex_df160 2 none ∈ gws := tb_3 223 rfl rfl
theorem staJ0_checkIndex_df160 : Cond.static yJ0_checkIndex_df160 ∈ gws := tb_3 222 rfl rfl
theorem cdJ3_checkIndex_8e157 : Cond.code yJ3_checkIndex_8e157 cJ3_checkIndex_8e157 3 (some .int) ∈ gws := tb_3 228 rfl rfl
theorem staJ3_checkIndex_8e157 : Cond.static yJ3_checkIndex_8e157 ∈ gws := tb_3 227 rfl rfl
theorem cdJ2_charAt_3b067 : Cond.code yJ2_charAt_3b067 cJ2_charAt_3b067 2 (some .char) ∈ gws := tb_3 231 rfl rfl
theorem staJ2_charAt_3b067 : Cond.static yJ2_charAt_3b067 ∈ gws := tb_3 230 rfl rfl
theorem cdJ2_checkIndex_2214a : Cond.code yJ2_checkIndex_2214a cJ2_checkIndex_2214a 2 none ∈ gws := tb_3 234 rfl rfl
theorem staJ2_checkIndex_2214a : Cond.static yJ2_checkIndex_2214a ∈ gws := tb_3 233 rfl rfl
theorem cdJ2_length_9d52b : Cond.code yJ2_length_9d52b cJ2_length_9d52b 1 (some .int) ∈ gws := tb_3 237 rfl rfl
theorem staJ2_length_9d52b : Cond.static yJ2_length_9d52b ∈ gws := tb_3 236 rfl rfl
theorem cdJ2_getChar_3b067 : Cond.code yJ2_getChar_3b067 cJ2_getChar_3b067 2 (some .char) ∈ gws := tb_4 1 rfl rfl
theorem staJ2_getChar_3b067 : Cond.static yJ2_getChar_3b067 ∈ gws := tb_4 0 rfl rfl
theorem cdX8_isWordAt : Cond.code yX8_isWordAt cX8_isWordAt 5 (some .boolean) ∈ gws := tb_4 11 rfl rfl
theorem insX8_isWordAt : Cond.instanceMethod yX8_isWordAt ∈ gws := tb_4 10 rfl rfl
theorem selX8_isWordAt : Cond.selects RX8 yX8_isWordAt yX8_isWordAt ∈ gws := ts_1 (q := (⟨"RopeToALake$Tape", "isWordAt", "(III)Z"⟩, _)) 12 rfl
theorem cdX8_isDigit : Cond.code yX8_isDigit cX8_isDigit 1 (some .boolean) ∈ gws := tb_4 14 rfl rfl
theorem staX8_isDigit : Cond.static yX8_isDigit ∈ gws := tb_4 13 rfl rfl
theorem cdX8_scanNumber : Cond.code yX8_scanNumber cX8_scanNumber 3 (some .int) ∈ gws := tb_4 18 rfl rfl
theorem insX8_scanNumber : Cond.instanceMethod yX8_scanNumber ∈ gws := tb_4 17 rfl rfl
theorem selX8_scanNumber : Cond.selects RX8 yX8_scanNumber yX8_scanNumber ∈ gws := ts_1 (q := (⟨"RopeToALake$Tape", "scanNumber", "()I"⟩, _)) 13 rfl
theorem cdJ0_indexOf_0f7a4 : Cond.code yJ0_indexOf_0f7a4 cJ0_indexOf_0f7a4 2 (some .int) ∈ gws := tb_4 23 rfl rfl
theorem insJ0_indexOf_0f7a4 : Cond.instanceMethod yJ0_indexOf_0f7a4 ∈ gws := tb_4 21 rfl rfl
theorem selJ0_indexOf_0f7a4 : Cond.selects RJ0 yJ0_indexOf_0f7a4 yJ0_indexOf_0f7a4 ∈ gws := tb_4 22 rfl rfl
theorem cdJ0_indexOf_7cf53 : Cond.code yJ0_indexOf_7cf53 cJ0_indexOf_7cf53 3 (some .int) ∈ gws := tb_4 27 rfl rfl
theorem insJ0_indexOf_7cf53 : Cond.instanceMethod yJ0_indexOf_7cf53 ∈ gws := tb_4 25 rfl rfl
theorem selJ0_indexOf_7cf53 : Cond.selects RJ0 yJ0_indexOf_7cf53 yJ0_indexOf_7cf53 ∈ gws := tb_4 26 rfl rfl
theorem cdJ1_indexOf_4cfef : Cond.code yJ1_indexOf_4cfef cJ1_indexOf_4cfef 4 (some .int) ∈ gws := tb_4 31 rfl rfl
theorem staJ1_indexOf_4cfef : Cond.static yJ1_indexOf_4cfef ∈ gws := tb_4 30 rfl rfl
theorem cdJ1_canEncode_9a6ad : Cond.code yJ1_canEncode_9a6ad cJ1_canEncode_9a6ad 1 (some .boolean) ∈ gws := tb_4 34 rfl rfl
theorem staJ1_canEncode_9a6ad : Cond.static yJ1_canEncode_9a6ad ∈ gws := tb_4 33 rfl rfl
theorem cdJ9_max_7cf53 : Cond.code yJ9_max_7cf53 cJ9_max_7cf53 2 (some .int) ∈ gws := tb_4 37 rfl rfl
theorem staJ9_max_7cf53 : Cond.static yJ9_max_7cf53 ∈ gws := tb_4 36 rfl rfl
theorem cdJ1_indexOfChar_4cfef : Cond.code yJ1_indexOfChar_4cfef cJ1_indexOfChar_4cfef 6 (some .int) ∈ gws := tb_4 41 rfl rfl
theorem staJ1_indexOfChar_4cfef : Cond.static yJ1_indexOfChar_4cfef ∈ gws := tb_4 40 rfl rfl
theorem cdJ2_indexOf_4cfef : Cond.code yJ2_indexOf_4cfef cJ2_indexOf_4cfef 4 (some .int) ∈ gws := tb_4 44 rfl rfl
theorem staJ2_indexOf_4cfef : Cond.static yJ2_indexOf_4cfef ∈ gws := tb_4 43 rfl rfl
theorem cdJ2_indexOfChar_4cfef : Cond.code yJ2_indexOfChar_4cfef cJ2_indexOfChar_4cfef 4 (some .int) ∈ gws := tb_4 50 rfl rfl
theorem staJ2_indexOfChar_4cfef : Cond.static yJ2_indexOfChar_4cfef ∈ gws := tb_4 49 rfl rfl
theorem cdJ2_checkBoundsBeginEnd_d044e : Cond.code yJ2_checkBoundsBeginEnd_d044e cJ2_checkBoundsBeginEnd_d044e 3 none ∈ gws := tb_4 53 rfl rfl
theorem staJ2_checkBoundsBeginEnd_d044e : Cond.static yJ2_checkBoundsBeginEnd_d044e ∈ gws := tb_4 52 rfl rfl
theorem cdJ0_checkBoundsBeginEnd_23922 : Cond.code yJ0_checkBoundsBeginEnd_23922 cJ0_checkBoundsBeginEnd_23922 3 none ∈ gws := tb_4 56 rfl rfl
theorem staJ0_checkBoundsBeginEnd_23922 : Cond.static yJ0_checkBoundsBeginEnd_23922 ∈ gws := tb_4 55 rfl rfl
theorem cdJ3_checkFromToIndex_8c36e : Cond.code yJ3_checkFromToIndex_8c36e cJ3_checkFromToIndex_8c36e 4 (some .int) ∈ gws := tb_4 59 rfl rfl
theorem staJ3_checkFromToIndex_8c36e : Cond.static yJ3_checkFromToIndex_8c36e ∈ gws := tb_4 58 rfl rfl
theorem cdJ2_indexOfCharUnsafe_4cfef : Cond.code yJ2_indexOfCharUnsafe_4cfef cJ2_indexOfCharUnsafe_4cfef 5 (some .int) ∈ gws := tb_4 62 rfl rfl
theorem staJ2_indexOfCharUnsafe_4cfef : Cond.static yJ2_indexOfCharUnsafe_4cfef ∈ gws := tb_4 61 rfl rfl
theorem cdJ2_indexOfSupplementary_4cfef : Cond.code yJ2_indexOfSupplementary_4cfef cJ2_indexOfSupplementary_4cfef 7 (some .int) ∈ gws := tb_4 65 rfl rfl
theorem staJ2_indexOfSupplementary_4cfef : Cond.static yJ2_indexOfSupplementary_4cfef ∈ gws := tb_4 64 rfl rfl
theorem cdJ11_isValidCodePoint_9a6ad : Cond.code yJ11_isValidCodePoint_9a6ad cJ11_isValidCodePoint_9a6ad 2 (some .boolean) ∈ gws := tb_4 68 rfl rfl
theorem staJ11_isValidCodePoint_9a6ad : Cond.static yJ11_isValidCodePoint_9a6ad ∈ gws := tb_4 67 rfl rfl
theorem cdJ11_highSurrogate_5068e : Cond.code yJ11_highSurrogate_5068e cJ11_highSurrogate_5068e 1 (some .char) ∈ gws := tb_4 71 rfl rfl
theorem staJ11_highSurrogate_5068e : Cond.static yJ11_highSurrogate_5068e ∈ gws := tb_4 70 rfl rfl
theorem cdJ11_lowSurrogate_5068e : Cond.code yJ11_lowSurrogate_5068e cJ11_lowSurrogate_5068e 1 (some .char) ∈ gws := tb_4 75 rfl rfl
theorem staJ11_lowSurrogate_5068e : Cond.static yJ11_lowSurrogate_5068e ∈ gws := tb_4 74 rfl rfl
theorem cdX5_readLine : Cond.code yX5_readLine cX5_readLine 1 none ∈ gws := tb_4 80 rfl rfl
theorem insX5_readLine : Cond.instanceMethod yX5_readLine ∈ gws := tb_4 79 rfl rfl
theorem selX5_readLine : Cond.selects RX5 yX5_readLine yX5_readLine ∈ gws := ts_1 (q := (⟨"RopeToALake$Reader", "readLine", "()V"⟩, _)) 14 rfl
theorem cdX5_next : Cond.code yX5_next cX5_next 1 none ∈ gws := tb_4 84 rfl rfl
theorem insX5_next : Cond.instanceMethod yX5_next ∈ gws := tb_4 83 rfl rfl
theorem selX5_next : Cond.selects RX5 yX5_next yX5_next ∈ gws := ts_1 (q := (⟨"RopeToALake$Reader", "next", "()V"⟩, _)) 15 rfl
theorem cdX5_readSum : Cond.code yX5_readSum cX5_readSum 5 none ∈ gws := tb_4 88 rfl rfl
theorem insX5_readSum : Cond.instanceMethod yX5_readSum ∈ gws := tb_4 87 rfl rfl
theorem selX5_readSum : Cond.selects RX5 yX5_readSum yX5_readSum ∈ gws := ts_2 (q := (⟨"RopeToALake$Reader", "readSum", "()V"⟩, _)) 0 rfl
theorem cdX5_readUnit : Cond.code yX5_readUnit cX5_readUnit 1 none ∈ gws := tb_4 92 rfl rfl
theorem insX5_readUnit : Cond.instanceMethod yX5_readUnit ∈ gws := tb_4 91 rfl rfl
theorem selX5_readUnit : Cond.selects RX5 yX5_readUnit yX5_readUnit ∈ gws := ts_2 (q := (⟨"RopeToALake$Reader", "readUnit", "()V"⟩, _)) 1 rfl
theorem cdX5_emit : Cond.code yX5_emit cX5_emit 2 none ∈ gws := tb_4 97 rfl rfl
theorem insX5_emit : Cond.instanceMethod yX5_emit ∈ gws := tb_4 96 rfl rfl
theorem selX5_emit : Cond.selects RX5 yX5_emit yX5_emit ∈ gws := ts_2 (q := (⟨"RopeToALake$Reader", "emit", "(I)V"⟩, _)) 2 rfl
theorem cdX5_fail : Cond.code yX5_fail cX5_fail 2 none ∈ gws := tb_4 101 rfl rfl
theorem insX5_fail : Cond.instanceMethod yX5_fail ∈ gws := tb_4 100 rfl rfl
theorem selX5_fail : Cond.selects RX5 yX5_fail yX5_fail ∈ gws := ts_2 (q := (⟨"RopeToALake$Reader", "fail", "(I)V"⟩, _)) 3 rfl
theorem cdX5_isArithmetic : Cond.code yX5_isArithmetic cX5_isArithmetic 1 (some .boolean) ∈ gws := tb_4 104 rfl rfl
theorem staX5_isArithmetic : Cond.static yX5_isArithmetic ∈ gws := tb_4 103 rfl rfl
theorem cdX5_readDivisor : Cond.code yX5_readDivisor cX5_readDivisor 1 none ∈ gws := tb_4 108 rfl rfl
theorem insX5_readDivisor : Cond.instanceMethod yX5_readDivisor ∈ gws := tb_4 107 rfl rfl
theorem selX5_readDivisor : Cond.selects RX5 yX5_readDivisor yX5_readDivisor ∈ gws := ts_2 (q := (⟨"RopeToALake$Reader", "readDivisor", "()V"⟩, _)) 4 rfl
theorem cdX5_readAny : Cond.code yX5_readAny cX5_readAny 5 none ∈ gws := tb_4 112 rfl rfl
theorem insX5_readAny : Cond.instanceMethod yX5_readAny ∈ gws := tb_4 111 rfl rfl
theorem selX5_readAny : Cond.selects RX5 yX5_readAny yX5_readAny ∈ gws := ts_2 (q := (⟨"RopeToALake$Reader", "readAny", "(I)V"⟩, _)) 5 rfl
theorem cdX5_readCondition : Cond.code yX5_readCondition cX5_readCondition 4 none ∈ gws := tb_4 116 rfl rfl
theorem insX5_readCondition : Cond.instanceMethod yX5_readCondition ∈ gws := tb_4 115 rfl rfl
theorem selX5_readCondition : Cond.selects RX5 yX5_readCondition yX5_readCondition ∈ gws := ts_2 (q := (⟨"RopeToALake$Reader", "readCondition", "(I)V"⟩, _)) 6 rfl
theorem cdX5_expect : Cond.code yX5_expect cX5_expect 2 none ∈ gws := tb_4 120 rfl rfl
theorem insX5_expect : Cond.instanceMethod yX5_expect ∈ gws := tb_4 119 rfl rfl
theorem selX5_expect : Cond.selects RX5 yX5_expect yX5_expect ∈ gws := ts_2 (q := (⟨"RopeToALake$Reader", "expect", "(I)V"⟩, _)) 7 rfl
theorem cdX1_adopt : Cond.code yX1_adopt cX1_adopt 2 none ∈ gws := tb_4 124 rfl rfl
theorem insX1_adopt : Cond.instanceMethod yX1_adopt ∈ gws := tb_4 122 rfl rfl
theorem selX1_adopt : Cond.selects RX1 yX1_adopt yX1_adopt ∈ gws := tb_4 123 rfl rfl
theorem cdX11_fault : Cond.code yX11_fault cX11_fault 2 (some .int) ∈ gws := tb_4 132 rfl rfl
theorem insX11_fault : Cond.instanceMethod yX11_fault ∈ gws := tb_4 130 rfl rfl
theorem selX11_fault : Cond.selects RX11 yX11_fault yX11_fault ∈ gws := tb_4 131 rfl rfl
theorem cdX11_hours : Cond.code yX11_hours cX11_hours 4 (some .int) ∈ gws := tb_4 136 rfl rfl
theorem insX11_hours : Cond.instanceMethod yX11_hours ∈ gws := tb_4 134 rfl rfl
theorem selX11_hours : Cond.selects RX11 yX11_hours yX11_hours ∈ gws := tb_4 135 rfl rfl
theorem cdX9_hasTimeFor : Cond.code yX9_hasTimeFor cX9_hasTimeFor 2 (some .boolean) ∈ gws := tb_4 140 rfl rfl
theorem insX9_hasTimeFor : Cond.instanceMethod yX9_hasTimeFor ∈ gws := tb_4 138 rfl rfl
theorem selX9_hasTimeFor : Cond.selects RX9 yX9_hasTimeFor yX9_hasTimeFor ∈ gws := tb_4 139 rfl rfl
theorem cdX4_keep : Cond.code yX4_keep cX4_keep 2 none ∈ gws := tb_4 144 rfl rfl
theorem insX4_keep : Cond.instanceMethod yX4_keep ∈ gws := tb_4 142 rfl rfl
theorem selX4_keep : Cond.selects RX4 yX4_keep yX4_keep ∈ gws := tb_4 143 rfl rfl
theorem cdX3_copyFrom : Cond.code yX3_copyFrom cX3_copyFrom 2 none ∈ gws := tb_4 149 rfl rfl
theorem insX3_copyFrom : Cond.instanceMethod yX3_copyFrom ∈ gws := tb_4 147 rfl rfl
theorem selX3_copyFrom : Cond.selects RX3 yX3_copyFrom yX3_copyFrom ∈ gws := tb_4 148 rfl rfl
theorem cdX9_passHour : Cond.code yX9_passHour cX9_passHour 2 (some .int) ∈ gws := tb_4 155 rfl rfl
theorem insX9_passHour : Cond.instanceMethod yX9_passHour ∈ gws := tb_4 153 rfl rfl
theorem selX9_passHour : Cond.selects RX9 yX9_passHour yX9_passHour ∈ gws := tb_4 154 rfl rfl
theorem cdX9_frostNow : Cond.code yX9_frostNow cX9_frostNow 1 (some .int) ∈ gws := tb_4 159 rfl rfl
theorem insX9_frostNow : Cond.instanceMethod yX9_frostNow ∈ gws := tb_4 158 rfl rfl
theorem selX9_frostNow : Cond.selects RX9 yX9_frostNow yX9_frostNow ∈ gws := ts_2 (q := (⟨"RopeToALake$Valley", "frostNow", "()I"⟩, _)) 8 rfl
theorem cdX3_draw : Cond.code yX3_draw cX3_draw 2 (some .int) ∈ gws := tb_4 163 rfl rfl
theorem insX3_draw : Cond.instanceMethod yX3_draw ∈ gws := tb_4 161 rfl rfl
theorem selX3_draw : Cond.selects RX3 yX3_draw yX3_draw ∈ gws := tb_4 162 rfl rfl
theorem cdX9_pull : Cond.code yX9_pull cX9_pull 6 (some .int) ∈ gws := tb_4 169 rfl rfl
theorem insX9_pull : Cond.instanceMethod yX9_pull ∈ gws := tb_4 168 rfl rfl
theorem selX9_pull : Cond.selects RX9 yX9_pull yX9_pull ∈ gws := ts_2 (q := (⟨"RopeToALake$Valley", "pull", "(I)I"⟩, _)) 9 rfl
theorem cdX7_pullerFor : Cond.code yX7_pullerFor cX7_pullerFor 4 (some .int) ∈ gws := tb_4 173 rfl rfl
theorem insX7_pullerFor : Cond.instanceMethod yX7_pullerFor ∈ gws := tb_4 171 rfl rfl
theorem selX7_pullerFor : Cond.selects RX7 yX7_pullerFor yX7_pullerFor ∈ gws := tb_4 172 rfl rfl
theorem cdX6_stepsItHolds : Cond.code yX6_stepsItHolds cX6_stepsItHolds 4 (some .int) ∈ gws := tb_4 177 rfl rfl
theorem insX6_stepsItHolds : Cond.instanceMethod yX6_stepsItHolds ∈ gws := tb_4 175 rfl rfl
theorem selX6_stepsItHolds : Cond.selects RX6 yX6_stepsItHolds yX6_stepsItHolds ∈ gws := tb_4 176 rfl rfl
theorem cdX6_stepsToBreak : Cond.code yX6_stepsToBreak cX6_stepsToBreak 4 (some .int) ∈ gws := tb_4 182 rfl rfl
theorem insX6_stepsToBreak : Cond.instanceMethod yX6_stepsToBreak ∈ gws := tb_4 181 rfl rfl
theorem selX6_stepsToBreak : Cond.selects RX6 yX6_stepsToBreak yX6_stepsToBreak ∈ gws := ts_2 (q := (⟨"RopeToALake$Rope", "stepsToBreak", "(ILRopeToALake$Moving;)I"⟩, _)) 10 rfl
theorem cdX0_stepsAnHour : Cond.code yX0_stepsAnHour cX0_stepsAnHour 3 (some .int) ∈ gws := tb_4 187 rfl rfl
theorem insX0_stepsAnHour : Cond.instanceMethod yX0_stepsAnHour ∈ gws := tb_4 185 rfl rfl
theorem selX0_stepsAnHour : Cond.selects RX0 yX0_stepsAnHour yX0_stepsAnHour ∈ gws := tb_4 186 rfl rfl
theorem cdX0_armsLessWeeds : Cond.code yX0_armsLessWeeds cX0_armsLessWeeds 4 (some .int) ∈ gws := tb_4 191 rfl rfl
theorem insX0_armsLessWeeds : Cond.instanceMethod yX0_armsLessWeeds ∈ gws := tb_4 190 rfl rfl
theorem selX0_armsLessWeeds : Cond.selects RX0 yX0_armsLessWeeds yX0_armsLessWeeds ∈ gws := ts_2 (q := (⟨"RopeToALake$Folk", "armsLessWeeds", "(I)I"⟩, _)) 11 rfl
theorem cdX6_moveOn : Cond.code yX6_moveOn cX6_moveOn 5 none ∈ gws := tb_4 197 rfl rfl
theorem insX6_moveOn : Cond.instanceMethod yX6_moveOn ∈ gws := tb_4 195 rfl rfl
theorem selX6_moveOn : Cond.selects RX6 yX6_moveOn yX6_moveOn ∈ gws := tb_4 196 rfl rfl
theorem cdX6_placeOf : Cond.code yX6_placeOf cX6_placeOf 4 (some .int) ∈ gws := tb_4 201 rfl rfl
theorem insX6_placeOf : Cond.instanceMethod yX6_placeOf ∈ gws := tb_4 199 rfl rfl
theorem selX6_placeOf : Cond.selects RX6 yX6_placeOf yX6_placeOf ∈ gws := tb_4 200 rfl rfl
theorem cdX6_visit : Cond.code yX6_visit cX6_visit 5 none ∈ gws := tb_4 205 rfl rfl
theorem insX6_visit : Cond.instanceMethod yX6_visit ∈ gws := tb_4 204 rfl rfl
theorem selX6_visit : Cond.selects RX6 yX6_visit yX6_visit ∈ gws := ts_2 (q := (⟨"RopeToALake$Rope", "visit", "(IILRopeToALake$Moving;)V"⟩, _)) 12 rfl
theorem cdX6_ownerAt : Cond.code yX6_ownerAt cX6_ownerAt 2 (some .int) ∈ gws := tb_4 209 rfl rfl
theorem insX6_ownerAt : Cond.instanceMethod yX6_ownerAt ∈ gws := tb_4 207 rfl rfl
theorem selX6_ownerAt : Cond.selects RX6 yX6_ownerAt yX6_ownerAt ∈ gws := tb_4 208 rfl rfl
theorem cdX6_drip : Cond.code yX6_drip cX6_drip 5 none ∈ gws := tb_4 213 rfl rfl
theorem insX6_drip : Cond.instanceMethod yX6_drip ∈ gws := tb_4 212 rfl rfl
theorem selX6_drip : Cond.selects RX6 yX6_drip yX6_drip ∈ gws := ts_2 (q := (⟨"RopeToALake$Rope", "drip", "(IIILRopeToALake$Moving;)V"⟩, _)) 13 rfl
theorem cdX9_passMidnight : Cond.code yX9_passMidnight cX9_passMidnight 2 none ∈ gws := tb_4 218 rfl rfl
theorem insX9_passMidnight : Cond.instanceMethod yX9_passMidnight ∈ gws := tb_4 217 rfl rfl
theorem selX9_passMidnight : Cond.selects RX9 yX9_passMidnight yX9_passMidnight ∈ gws := ts_2 (q := (⟨"RopeToALake$Valley", "passMidnight", "()V"⟩, _)) 14 rfl
theorem cdX9_shareTrough : Cond.code yX9_shareTrough cX9_shareTrough 7 none ∈ gws := tb_4 222 rfl rfl
theorem insX9_shareTrough : Cond.instanceMethod yX9_shareTrough ∈ gws := tb_4 221 rfl rfl
theorem selX9_shareTrough : Cond.selects RX9 yX9_shareTrough yX9_shareTrough ∈ gws := ts_2 (q := (⟨"RopeToALake$Valley", "shareTrough", "()V"⟩, _)) 15 rfl
theorem cdX1_weigh : Cond.code yX1_weigh cX1_weigh 8 (some .int) ∈ gws := tb_4 226 rfl rfl
theorem insX1_weigh : Cond.instanceMethod yX1_weigh ∈ gws := tb_4 224 rfl rfl
theorem selX1_weigh : Cond.selects RX1 yX1_weigh yX1_weigh ∈ gws := tb_4 225 rfl rfl
theorem cdX1_push : Cond.code yX1_push cX1_push 2 none ∈ gws := tb_4 230 rfl rfl
theorem insX1_push : Cond.instanceMethod yX1_push ∈ gws := tb_4 229 rfl rfl
theorem selX1_push : Cond.selects RX1 yX1_push yX1_push ∈ gws := ts_3 (q := (⟨"RopeToALake$Law", "push", "(I)V"⟩, _)) 0 rfl
theorem cdX1_pop : Cond.code yX1_pop cX1_pop 1 (some .int) ∈ gws := tb_4 235 rfl rfl
theorem insX1_pop : Cond.instanceMethod yX1_pop ∈ gws := tb_4 234 rfl rfl
theorem selX1_pop : Cond.selects RX1 yX1_pop yX1_pop ∈ gws := ts_3 (q := (⟨"RopeToALake$Law", "pop", "()I"⟩, _)) 1 rfl
theorem cdX1_hold : Cond.code yX1_hold cX1_hold 1 (some .int) ∈ gws := tb_4 238 rfl rfl
theorem staX1_hold : Cond.static yX1_hold ∈ gws := tb_4 237 rfl rfl
theorem cdX1_valueOf : Cond.code yX1_valueOf cX1_valueOf 4 (some .int) ∈ gws := tb_5 3 rfl rfl
theorem staX1_valueOf : Cond.static yX1_valueOf ∈ gws := tb_5 2 rfl rfl
theorem cdX3_debtOf : Cond.code yX3_debtOf cX3_debtOf 4 (some .int) ∈ gws := tb_5 7 rfl rfl
theorem insX3_debtOf : Cond.instanceMethod yX3_debtOf ∈ gws := tb_5 5 rfl rfl
theorem selX3_debtOf : Cond.selects RX3 yX3_debtOf yX3_debtOf ∈ gws := tb_5 6 rfl rfl
theorem cdX1_join : Cond.code yX1_join cX1_join 3 (some .int) ∈ gws := tb_5 10 rfl rfl
theorem staX1_join : Cond.static yX1_join ∈ gws := tb_5 9 rfl rfl
theorem cdX9_shareRest : Cond.code yX9_shareRest cX9_shareRest 5 none ∈ gws := tb_5 14 rfl rfl
theorem insX9_shareRest : Cond.instanceMethod yX9_shareRest ∈ gws := tb_5 13 rfl rfl
theorem selX9_shareRest : Cond.selects RX9 yX9_shareRest yX9_shareRest ∈ gws := ts_3 (q := (⟨"RopeToALake$Valley", "shareRest", "(I)V"⟩, _)) 2 rfl
theorem cdX9_drink : Cond.code yX9_drink cX9_drink 4 none ∈ gws := tb_5 18 rfl rfl
theorem insX9_drink : Cond.instanceMethod yX9_drink ∈ gws := tb_5 17 rfl rfl
theorem selX9_drink : Cond.selects RX9 yX9_drink yX9_drink ∈ gws := ts_3 (q := (⟨"RopeToALake$Valley", "drink", "(I)V"⟩, _)) 3 rfl
theorem cdX11_of : Cond.code yX11_of cX11_of 4 (some .int) ∈ gws := tb_5 23 rfl rfl
theorem insX11_of : Cond.instanceMethod yX11_of ∈ gws := tb_5 21 rfl rfl
theorem selX11_of : Cond.selects RX11 yX11_of yX11_of ∈ gws := tb_5 22 rfl rfl
theorem cdX9_weightOf : Cond.code yX9_weightOf cX9_weightOf 2 (some .int) ∈ gws := tb_5 27 rfl rfl
theorem insX9_weightOf : Cond.instanceMethod yX9_weightOf ∈ gws := tb_5 25 rfl rfl
theorem selX9_weightOf : Cond.selects RX9 yX9_weightOf yX9_weightOf ∈ gws := tb_5 26 rfl rfl
theorem cdX3_creditOf : Cond.code yX3_creditOf cX3_creditOf 4 (some .int) ∈ gws := tb_5 32 rfl rfl
theorem insX3_creditOf : Cond.instanceMethod yX3_creditOf ∈ gws := tb_5 30 rfl rfl
theorem selX3_creditOf : Cond.selects RX3 yX3_creditOf yX3_creditOf ∈ gws := tb_5 31 rfl rfl
theorem cdX11_pail : Cond.code yX11_pail cX11_pail 4 (some .int) ∈ gws := tb_5 36 rfl rfl
theorem insX11_pail : Cond.instanceMethod yX11_pail ∈ gws := tb_5 34 rfl rfl
theorem selX11_pail : Cond.selects RX11 yX11_pail yX11_pail ∈ gws := tb_5 35 rfl rfl
theorem cdX11_part : Cond.code yX11_part cX11_part 4 (some .int) ∈ gws := tb_5 42 rfl rfl
theorem insX11_part : Cond.instanceMethod yX11_part ∈ gws := tb_5 40 rfl rfl
theorem selX11_part : Cond.selects RX11 yX11_part yX11_part ∈ gws := tb_5 41 rfl rfl
theorem cdX11_owes : Cond.code yX11_owes cX11_owes 3 (some .int) ∈ gws := tb_5 46 rfl rfl
theorem insX11_owes : Cond.instanceMethod yX11_owes ∈ gws := tb_5 44 rfl rfl
theorem selX11_owes : Cond.selects RX11 yX11_owes yX11_owes ∈ gws := tb_5 45 rfl rfl
theorem cdX11_deals : Cond.code yX11_deals cX11_deals 1 (some .int) ∈ gws := tb_5 50 rfl rfl
theorem insX11_deals : Cond.instanceMethod yX11_deals ∈ gws := tb_5 48 rfl rfl
theorem selX11_deals : Cond.selects RX11 yX11_deals yX11_deals ∈ gws := tb_5 49 rfl rfl
theorem cdX2_fewestDeals : Cond.code yX2_fewestDeals cX2_fewestDeals 6 (some .int) ∈ gws := tb_5 54 rfl rfl
theorem insX2_fewestDeals : Cond.instanceMethod yX2_fewestDeals ∈ gws := tb_5 52 rfl rfl
theorem selX2_fewestDeals : Cond.selects RX2 yX2_fewestDeals yX2_fewestDeals ∈ gws := tb_5 53 rfl rfl
theorem cdX2_weighSet : Cond.code yX2_weighSet cX2_weighSet 6 none ∈ gws := tb_5 62 rfl rfl
theorem insX2_weighSet : Cond.instanceMethod yX2_weighSet ∈ gws := tb_5 61 rfl rfl
theorem selX2_weighSet : Cond.selects RX2 yX2_weighSet yX2_weighSet ∈ gws := ts_3 (q := (⟨"RopeToALake$Ledger", "weighSet", "(II)V"⟩, _)) 4 rfl
theorem cdX11_best : Cond.code yX11_best cX11_best 2 (some .int) ∈ gws := tb_5 66 rfl rfl
theorem insX11_best : Cond.instanceMethod yX11_best ∈ gws := tb_5 64 rfl rfl
theorem selX11_best : Cond.selects RX11 yX11_best yX11_best ∈ gws := tb_5 65 rfl rfl
theorem cdX10_canAnswer : Cond.code yX10_canAnswer cX10_canAnswer 3 (some .boolean) ∈ gws := tb_5 70 rfl rfl
theorem insX10_canAnswer : Cond.instanceMethod yX10_canAnswer ∈ gws := tb_5 68 rfl rfl
theorem selX10_canAnswer : Cond.selects RX10 yX10_canAnswer yX10_canAnswer ∈ gws := tb_5 69 rfl rfl
theorem cdX10_seekMostWater : Cond.code yX10_seekMostWater cX10_seekMostWater 7 none ∈ gws := tb_5 75 rfl rfl
theorem insX10_seekMostWater : Cond.instanceMethod yX10_seekMostWater ∈ gws := tb_5 73 rfl rfl
theorem selX10_seekMostWater : Cond.selects RX10 yX10_seekMostWater yX10_seekMostWater ∈ gws := tb_5 74 rfl rfl
theorem cdX10_walk : Cond.code yX10_walk cX10_walk 4 none ∈ gws := tb_5 82 rfl rfl
theorem insX10_walk : Cond.instanceMethod yX10_walk ∈ gws := tb_5 81 rfl rfl
theorem selX10_walk : Cond.selects RX10 yX10_walk yX10_walk ∈ gws := ts_3 (q := (⟨"RopeToALake$Watches", "walk", "(LRopeToALake$Valley;I)V"⟩, _)) 5 rfl
theorem cdX10_waterOfWay : Cond.code yX10_waterOfWay cX10_waterOfWay 3 (some .int) ∈ gws := tb_5 90 rfl rfl
theorem insX10_waterOfWay : Cond.instanceMethod yX10_waterOfWay ∈ gws := tb_5 89 rfl rfl
theorem selX10_waterOfWay : Cond.selects RX10 yX10_waterOfWay yX10_waterOfWay ∈ gws := ts_3 (q := (⟨"RopeToALake$Watches", "waterOfWay", "()I"⟩, _)) 6 rfl
theorem cdX10_take : Cond.code yX10_take cX10_take 2 none ∈ gws := tb_5 94 rfl rfl
theorem insX10_take : Cond.instanceMethod yX10_take ∈ gws := tb_5 93 rfl rfl
theorem selX10_take : Cond.selects RX10 yX10_take yX10_take ∈ gws := ts_3 (q := (⟨"RopeToALake$Watches", "take", "(I)V"⟩, _)) 7 rfl
theorem cdX10_nextWay : Cond.code yX10_nextWay cX10_nextWay 3 (some .boolean) ∈ gws := tb_5 99 rfl rfl
theorem insX10_nextWay : Cond.instanceMethod yX10_nextWay ∈ gws := tb_5 98 rfl rfl
theorem selX10_nextWay : Cond.selects RX10 yX10_nextWay yX10_nextWay ∈ gws := ts_3 (q := (⟨"RopeToALake$Watches", "nextWay", "(I)Z"⟩, _)) 8 rfl
theorem cdX10_answer : Cond.code yX10_answer cX10_answer 2 (some .int) ∈ gws := tb_5 103 rfl rfl
theorem insX10_answer : Cond.instanceMethod yX10_answer ∈ gws := tb_5 101 rfl rfl
theorem selX10_answer : Cond.selects RX10 yX10_answer yX10_answer ∈ gws := tb_5 102 rfl rfl
theorem cdX11_peace : Cond.code yX11_peace cX11_peace 2 (some .int) ∈ gws := tb_5 107 rfl rfl
theorem insX11_peace : Cond.instanceMethod yX11_peace ∈ gws := tb_5 105 rfl rfl
theorem selX11_peace : Cond.selects RX11 yX11_peace yX11_peace ∈ gws := tb_5 106 rfl rfl
theorem cdX10_seekPeace : Cond.code yX10_seekPeace cX10_seekPeace 6 none ∈ gws := tb_5 111 rfl rfl
theorem insX10_seekPeace : Cond.instanceMethod yX10_seekPeace ∈ gws := tb_5 109 rfl rfl
theorem selX10_seekPeace : Cond.selects RX10 yX10_seekPeace yX10_seekPeace ∈ gws := tb_5 110 rfl rfl
theorem cdX10_hasEvery : Cond.code yX10_hasEvery cX10_hasEvery 4 (some .boolean) ∈ gws := tb_5 115 rfl rfl
theorem insX10_hasEvery : Cond.instanceMethod yX10_hasEvery ∈ gws := tb_5 114 rfl rfl
theorem selX10_hasEvery : Cond.selects RX10 yX10_hasEvery yX10_hasEvery ∈ gws := ts_3 (q := (⟨"RopeToALake$Watches", "hasEvery", "(I)Z"⟩, _)) 9 rfl
theorem cdX10_meetingsOfWay : Cond.code yX10_meetingsOfWay cX10_meetingsOfWay 5 (some .int) ∈ gws := tb_5 119 rfl rfl
theorem insX10_meetingsOfWay : Cond.instanceMethod yX10_meetingsOfWay ∈ gws := tb_5 118 rfl rfl
theorem selX10_meetingsOfWay : Cond.selects RX10 yX10_meetingsOfWay yX10_meetingsOfWay ∈ gws := ts_3 (q := (⟨"RopeToALake$Watches", "meetingsOfWay", "(LRopeToALake$Folk;)I"⟩, _)) 10 rfl
theorem cdX0_areFoes : Cond.code yX0_areFoes cX0_areFoes 3 (some .boolean) ∈ gws := tb_5 123 rfl rfl
theorem insX0_areFoes : Cond.instanceMethod yX0_areFoes ∈ gws := tb_5 121 rfl rfl
theorem selX0_areFoes : Cond.selects RX0 yX0_areFoes yX0_areFoes ∈ gws := tb_5 122 rfl rfl
theorem cdX11_log : Cond.code yX11_log cX11_log 3 (some .boolean) ∈ gws := tb_5 127 rfl rfl
theorem insX11_log : Cond.instanceMethod yX11_log ∈ gws := tb_5 125 rfl rfl
theorem selX11_log : Cond.selects RX11 yX11_log yX11_log ∈ gws := tb_5 126 rfl rfl
theorem cdX0_noteLog : Cond.code yX0_noteLog cX0_noteLog 3 (some .boolean) ∈ gws := tb_5 131 rfl rfl
theorem insX0_noteLog : Cond.instanceMethod yX0_noteLog ∈ gws := tb_5 129 rfl rfl
theorem selX0_noteLog : Cond.selects RX0 yX0_noteLog yX0_noteLog ∈ gws := tb_5 130 rfl rfl
theorem cdX11_slow : Cond.code yX11_slow cX11_slow 6 (some .int) ∈ gws := tb_5 136 rfl rfl
theorem insX11_slow : Cond.instanceMethod yX11_slow ∈ gws := tb_5 134 rfl rfl
theorem selX11_slow : Cond.selects RX11 yX11_slow yX11_slow ∈ gws := tb_5 135 rfl rfl
theorem cdX0_leastSlow : Cond.code yX0_leastSlow cX0_leastSlow 2 (some .int) ∈ gws := tb_5 140 rfl rfl
theorem insX0_leastSlow : Cond.instanceMethod yX0_leastSlow ∈ gws := tb_5 138 rfl rfl
theorem selX0_leastSlow : Cond.selects RX0 yX0_leastSlow yX0_leastSlow ∈ gws := tb_5 139 rfl rfl
theorem cdX0_mostSlow : Cond.code yX0_mostSlow cX0_mostSlow 2 (some .int) ∈ gws := tb_5 144 rfl rfl
theorem insX0_mostSlow : Cond.instanceMethod yX0_mostSlow ∈ gws := tb_5 142 rfl rfl
theorem selX0_mostSlow : Cond.selects RX0 yX0_mostSlow yX0_mostSlow ∈ gws := tb_5 143 rfl rfl
theorem cdX11_breaks : Cond.code yX11_breaks cX11_breaks 2 (some .int) ∈ gws := tb_5 148 rfl rfl
theorem insX11_breaks : Cond.instanceMethod yX11_breaks ∈ gws := tb_5 146 rfl rfl
theorem selX11_breaks : Cond.selects RX11 yX11_breaks yX11_breaks ∈ gws := tb_5 147 rfl rfl
theorem cdX6_firstToBreak : Cond.code yX6_firstToBreak cX6_firstToBreak 7 (some .int) ∈ gws := tb_5 152 rfl rfl
theorem insX6_firstToBreak : Cond.instanceMethod yX6_firstToBreak ∈ gws := tb_5 150 rfl rfl
theorem selX6_firstToBreak : Cond.selects RX6 yX6_firstToBreak yX6_firstToBreak ∈ gws := tb_5 151 rfl rfl
theorem cdX11_lasting : Cond.code yX11_lasting cX11_lasting 3 (some .int) ∈ gws := tb_5 156 rfl rfl
theorem insX11_lasting : Cond.instanceMethod yX11_lasting ∈ gws := tb_5 154 rfl rfl
theorem selX11_lasting : Cond.selects RX11 yX11_lasting yX11_lasting ∈ gws := tb_5 155 rfl rfl
theorem cdX6_priceOfBroken : Cond.code yX6_priceOfBroken cX6_priceOfBroken 5 (some .int) ∈ gws := tb_5 160 rfl rfl
theorem insX6_priceOfBroken : Cond.instanceMethod yX6_priceOfBroken ∈ gws := tb_5 158 rfl rfl
theorem selX6_priceOfBroken : Cond.selects RX6 yX6_priceOfBroken yX6_priceOfBroken ∈ gws := tb_5 159 rfl rfl
theorem cdX6_setOfBroken : Cond.code yX6_setOfBroken cX6_setOfBroken 5 (some .int) ∈ gws := tb_5 164 rfl rfl
theorem insX6_setOfBroken : Cond.instanceMethod yX6_setOfBroken ∈ gws := tb_5 162 rfl rfl
theorem selX6_setOfBroken : Cond.selects RX6 yX6_setOfBroken yX6_setOfBroken ∈ gws := tb_5 163 rfl rfl
theorem cdX11_undo : Cond.code yX11_undo cX11_undo 1 (some .boolean) ∈ gws := tb_5 168 rfl rfl
theorem insX11_undo : Cond.instanceMethod yX11_undo ∈ gws := tb_5 166 rfl rfl
theorem selX11_undo : Cond.selects RX11 yX11_undo yX11_undo ∈ gws := tb_5 167 rfl rfl
theorem cdX4_bringBack : Cond.code yX4_bringBack cX4_bringBack 2 (some .boolean) ∈ gws := tb_5 172 rfl rfl
theorem insX4_bringBack : Cond.instanceMethod yX4_bringBack ∈ gws := tb_5 170 rfl rfl
theorem selX4_bringBack : Cond.selects RX4 yX4_bringBack yX4_bringBack ∈ gws := tb_5 171 rfl rfl
theorem cdX11_image : Cond.code yX11_image cX11_image 2 (some .boolean) ∈ gws := tb_5 176 rfl rfl
theorem insX11_image : Cond.instanceMethod yX11_image ∈ gws := tb_5 174 rfl rfl
theorem selX11_image : Cond.selects RX11 yX11_image yX11_image ∈ gws := tb_5 175 rfl rfl
theorem cdX9_copyFrom : Cond.code yX9_copyFrom cX9_copyFrom 2 none ∈ gws := tb_5 180 rfl rfl
theorem insX9_copyFrom : Cond.instanceMethod yX9_copyFrom ∈ gws := tb_5 178 rfl rfl
theorem selX9_copyFrom : Cond.selects RX9 yX9_copyFrom yX9_copyFrom ∈ gws := tb_5 179 rfl rfl
theorem cdX6_copyFrom : Cond.code yX6_copyFrom cX6_copyFrom 2 none ∈ gws := tb_5 185 rfl rfl
theorem insX6_copyFrom : Cond.instanceMethod yX6_copyFrom ∈ gws := tb_5 183 rfl rfl
theorem selX6_copyFrom : Cond.selects RX6 yX6_copyFrom yX6_copyFrom ∈ gws := tb_5 184 rfl rfl
theorem cdX0_copyFrom : Cond.code yX0_copyFrom cX0_copyFrom 3 none ∈ gws := tb_5 190 rfl rfl
theorem insX0_copyFrom : Cond.instanceMethod yX0_copyFrom ∈ gws := tb_5 188 rfl rfl
theorem selX0_copyFrom : Cond.selects RX0 yX0_copyFrom yX0_copyFrom ∈ gws := tb_5 189 rfl rfl
theorem cdX7_copyFrom : Cond.code yX7_copyFrom cX7_copyFrom 2 none ∈ gws := tb_5 195 rfl rfl
theorem insX7_copyFrom : Cond.instanceMethod yX7_copyFrom ∈ gws := tb_5 193 rfl rfl
theorem selX7_copyFrom : Cond.selects RX7 yX7_copyFrom yX7_copyFrom ∈ gws := tb_5 194 rfl rfl
theorem cdX1_copyFrom : Cond.code yX1_copyFrom cX1_copyFrom 2 none ∈ gws := tb_5 200 rfl rfl
theorem insX1_copyFrom : Cond.instanceMethod yX1_copyFrom ∈ gws := tb_5 198 rfl rfl
theorem selX1_copyFrom : Cond.selects RX1 yX1_copyFrom yX1_copyFrom ∈ gws := tb_5 199 rfl rfl
theorem cdX11_look : Cond.code yX11_look cX11_look 3 (some .int) ∈ gws := tb_5 204 rfl rfl
theorem insX11_look : Cond.instanceMethod yX11_look ∈ gws := tb_5 202 rfl rfl
theorem selX11_look : Cond.selects RX11 yX11_look yX11_look ∈ gws := tb_5 203 rfl rfl
theorem cdX6_isBroken : Cond.code yX6_isBroken cX6_isBroken 2 (some .boolean) ∈ gws := tb_5 209 rfl rfl
theorem insX6_isBroken : Cond.instanceMethod yX6_isBroken ∈ gws := tb_5 207 rfl rfl
theorem selX6_isBroken : Cond.selects RX6 yX6_isBroken yX6_isBroken ∈ gws := tb_5 208 rfl rfl
theorem cdX12_init : Cond.code yX12_init cX12_init 1 none ∈ gws := tb_5 216 rfl rfl
theorem insX12_init : Cond.instanceMethod yX12_init ∈ gws := tb_5 215 rfl rfl
theorem cdX12_undo : Cond.code yX12_undo cX12_undo 1 (some .boolean) ∈ gws := tb_6 169 rfl rfl
theorem insX12_undo : Cond.instanceMethod yX12_undo ∈ gws := tb_6 167 rfl rfl
theorem selX12_undo : Cond.selects RX12 yX12_undo yX12_undo ∈ gws := tb_6 168 rfl rfl
theorem cdX12_takesRow : Cond.code yX12_takesRow cX12_takesRow 3 none ∈ gws := tb_6 173 rfl rfl
theorem insX12_takesRow : Cond.instanceMethod yX12_takesRow ∈ gws := tb_6 172 rfl rfl
theorem selX12_takesRow : Cond.selects RX12 yX12_takesRow yX12_takesRow ∈ gws := ts_3 (q := (⟨"RopeToALakeModel", "takesRow", "(I)V"⟩, _)) 11 rfl
theorem cdX12_state : Cond.code yX12_state cX12_state 3 (some .int) ∈ gws := tb_6 177 rfl rfl
theorem insX12_state : Cond.instanceMethod yX12_state ∈ gws := tb_6 175 rfl rfl
theorem selX12_state : Cond.selects RX12 yX12_state yX12_state ∈ gws := tb_6 176 rfl rfl
theorem cdX12_notches : Cond.code yX12_notches cX12_notches 4 (some .boolean) ∈ gws := tb_6 181 rfl rfl
theorem insX12_notches : Cond.instanceMethod yX12_notches ∈ gws := tb_6 179 rfl rfl
theorem selX12_notches : Cond.selects RX12 yX12_notches yX12_notches ∈ gws := tb_6 180 rfl rfl
theorem cdX12_isIn : Cond.code yX12_isIn cX12_isIn 4 (some .boolean) ∈ gws := tb_6 185 rfl rfl
theorem insX12_isIn : Cond.instanceMethod yX12_isIn ∈ gws := tb_6 184 rfl rfl
theorem selX12_isIn : Cond.selects RX12 yX12_isIn yX12_isIn ∈ gws := ts_3 (q := (⟨"RopeToALakeModel", "isIn", "(III)Z"⟩, _)) 12 rfl
theorem cdX12_bucket : Cond.code yX12_bucket cX12_bucket 5 (some .int) ∈ gws := tb_6 189 rfl rfl
theorem insX12_bucket : Cond.instanceMethod yX12_bucket ∈ gws := tb_6 187 rfl rfl
theorem selX12_bucket : Cond.selects RX12 yX12_bucket yX12_bucket ∈ gws := tb_6 188 rfl rfl
theorem cdX12_farm : Cond.code yX12_farm cX12_farm 5 (some .int) ∈ gws := tb_6 193 rfl rfl
theorem insX12_farm : Cond.instanceMethod yX12_farm ∈ gws := tb_6 191 rfl rfl
theorem selX12_farm : Cond.selects RX12 yX12_farm yX12_farm ∈ gws := tb_6 192 rfl rfl
theorem cdX12_tell : Cond.code yX12_tell cX12_tell 4 (some .boolean) ∈ gws := tb_6 197 rfl rfl
theorem insX12_tell : Cond.instanceMethod yX12_tell ∈ gws := tb_6 195 rfl rfl
theorem selX12_tell : Cond.selects RX12 yX12_tell yX12_tell ∈ gws := tb_6 196 rfl rfl
theorem cdX12_canTell : Cond.code yX12_canTell cX12_canTell 4 (some .boolean) ∈ gws := tb_6 201 rfl rfl
theorem insX12_canTell : Cond.instanceMethod yX12_canTell ∈ gws := tb_6 200 rfl rfl
theorem selX12_canTell : Cond.selects RX12 yX12_canTell yX12_canTell ∈ gws := ts_3 (q := (⟨"RopeToALakeModel", "canTell", "(III)Z"⟩, _)) 13 rfl
theorem cdX12_isFarm : Cond.code yX12_isFarm cX12_isFarm 2 (some .boolean) ∈ gws := tb_6 205 rfl rfl
theorem insX12_isFarm : Cond.instanceMethod yX12_isFarm ∈ gws := tb_6 204 rfl rfl
theorem selX12_isFarm : Cond.selects RX12 yX12_isFarm yX12_isFarm ∈ gws := ts_3 (q := (⟨"RopeToALakeModel", "isFarm", "(I)Z"⟩, _)) 14 rfl
theorem cdX12_allDrops : Cond.code yX12_allDrops cX12_allDrops 3 (some .int) ∈ gws := tb_6 210 rfl rfl
theorem insX12_allDrops : Cond.instanceMethod yX12_allDrops ∈ gws := tb_6 209 rfl rfl
theorem selX12_allDrops : Cond.selects RX12 yX12_allDrops yX12_allDrops ∈ gws := ts_3 (q := (⟨"RopeToALakeModel", "allDrops", "()I"⟩, _)) 15 rfl
theorem cdX12_turn : Cond.code yX12_turn cX12_turn 3 (some .boolean) ∈ gws := tb_6 215 rfl rfl
theorem insX12_turn : Cond.instanceMethod yX12_turn ∈ gws := tb_6 213 rfl rfl
theorem selX12_turn : Cond.selects RX12 yX12_turn yX12_turn ∈ gws := tb_6 214 rfl rfl
theorem cdX12_absent : Cond.code yX12_absent cX12_absent 5 (some .boolean) ∈ gws := tb_6 219 rfl rfl
theorem insX12_absent : Cond.instanceMethod yX12_absent ∈ gws := tb_6 217 rfl rfl
theorem selX12_absent : Cond.selects RX12 yX12_absent yX12_absent ∈ gws := tb_6 218 rfl rfl
theorem cdX12_splice : Cond.code yX12_splice cX12_splice 4 (some .int) ∈ gws := tb_6 223 rfl rfl
theorem insX12_splice : Cond.instanceMethod yX12_splice ∈ gws := tb_6 221 rfl rfl
theorem selX12_splice : Cond.selects RX12 yX12_splice yX12_splice ∈ gws := tb_6 222 rfl rfl
theorem cdX12_mend : Cond.code yX12_mend cX12_mend 3 (some .boolean) ∈ gws := tb_6 228 rfl rfl
theorem insX12_mend : Cond.instanceMethod yX12_mend ∈ gws := tb_6 226 rfl rfl
theorem selX12_mend : Cond.selects RX12 yX12_mend yX12_mend ∈ gws := tb_6 227 rfl rfl
theorem cdX12_foes : Cond.code yX12_foes cX12_foes 4 (some .boolean) ∈ gws := tb_6 232 rfl rfl
theorem insX12_foes : Cond.instanceMethod yX12_foes ∈ gws := tb_6 230 rfl rfl
theorem selX12_foes : Cond.selects RX12 yX12_foes yX12_foes ∈ gws := tb_6 231 rfl rfl
theorem cdX12_feed : Cond.code yX12_feed cX12_feed 6 (some .int) ∈ gws := tb_6 236 rfl rfl
theorem insX12_feed : Cond.instanceMethod yX12_feed ∈ gws := tb_6 234 rfl rfl
theorem selX12_feed : Cond.selects RX12 yX12_feed yX12_feed ∈ gws := tb_6 235 rfl rfl
theorem cdX12_types : Cond.code yX12_types cX12_types 3 none ∈ gws := tb_7 0 rfl rfl
theorem insX12_types : Cond.instanceMethod yX12_types ∈ gws := tb_6 239 rfl rfl
theorem selX12_types : Cond.selects RX12 yX12_types yX12_types ∈ gws := ts_4 (q := (⟨"RopeToALakeModel", "types", "(I)V"⟩, _)) 0 rfl
theorem cdX12_end : Cond.code yX12_end cX12_end 2 (some .boolean) ∈ gws := tb_7 4 rfl rfl
theorem insX12_end : Cond.instanceMethod yX12_end ∈ gws := tb_7 2 rfl rfl
theorem selX12_end : Cond.selects RX12 yX12_end yX12_end ∈ gws := tb_7 3 rfl rfl
theorem cdX12_text : Cond.code yX12_text cX12_text 3 (some .int) ∈ gws := tb_7 8 rfl rfl
theorem insX12_text : Cond.instanceMethod yX12_text ∈ gws := tb_7 6 rfl rfl
theorem selX12_text : Cond.selects RX12 yX12_text yX12_text ∈ gws := tb_7 7 rfl rfl
theorem cdX12_reads : Cond.code yX12_reads cX12_reads 2 none ∈ gws := tb_7 12 rfl rfl
theorem insX12_reads : Cond.instanceMethod yX12_reads ∈ gws := tb_7 11 rfl rfl
theorem selX12_reads : Cond.selects RX12 yX12_reads yX12_reads ∈ gws := ts_4 (q := (⟨"RopeToALakeModel", "reads", "()V"⟩, _)) 1 rfl
theorem cdX12_raw : Cond.code yX12_raw cX12_raw 2 (some .int) ∈ gws := tb_7 16 rfl rfl
theorem insX12_raw : Cond.instanceMethod yX12_raw ∈ gws := tb_7 15 rfl rfl
theorem selX12_raw : Cond.selects RX12 yX12_raw yX12_raw ∈ gws := ts_4 (q := (⟨"RopeToALakeModel", "raw", "(I)I"⟩, _)) 2 rfl
theorem cdX12_isLetter : Cond.code yX12_isLetter cX12_isLetter 2 (some .boolean) ∈ gws := tb_7 20 rfl rfl
theorem insX12_isLetter : Cond.instanceMethod yX12_isLetter ∈ gws := tb_7 19 rfl rfl
theorem selX12_isLetter : Cond.selects RX12 yX12_isLetter yX12_isLetter ∈ gws := ts_4 (q := (⟨"RopeToALakeModel", "isLetter", "(I)Z"⟩, _)) 3 rfl
theorem cdX12_wordAt : Cond.code yX12_wordAt cX12_wordAt 6 (some .int) ∈ gws := tb_7 24 rfl rfl
theorem insX12_wordAt : Cond.instanceMethod yX12_wordAt ∈ gws := tb_7 23 rfl rfl
theorem selX12_wordAt : Cond.selects RX12 yX12_wordAt yX12_wordAt ∈ gws := ts_4 (q := (⟨"RopeToALakeModel", "wordAt", "(II)I"⟩, _)) 4 rfl
theorem cdX12_isDigit : Cond.code yX12_isDigit cX12_isDigit 2 (some .boolean) ∈ gws := tb_7 28 rfl rfl
theorem insX12_isDigit : Cond.instanceMethod yX12_isDigit ∈ gws := tb_7 27 rfl rfl
theorem selX12_isDigit : Cond.selects RX12 yX12_isDigit yX12_isDigit ∈ gws := ts_4 (q := (⟨"RopeToALakeModel", "isDigit", "(I)Z"⟩, _)) 5 rfl
theorem cdX12_isMarkSign : Cond.code yX12_isMarkSign cX12_isMarkSign 2 (some .boolean) ∈ gws := tb_7 32 rfl rfl
theorem insX12_isMarkSign : Cond.instanceMethod yX12_isMarkSign ∈ gws := tb_7 31 rfl rfl
theorem selX12_isMarkSign : Cond.selects RX12 yX12_isMarkSign yX12_isMarkSign ∈ gws := ts_4 (q := (⟨"RopeToALakeModel", "isMarkSign", "(I)Z"⟩, _)) 6 rfl
theorem cdX12_readText : Cond.code yX12_readText cX12_readText 3 (some .int) ∈ gws := tb_7 36 rfl rfl
theorem insX12_readText : Cond.instanceMethod yX12_readText ∈ gws := tb_7 35 rfl rfl
theorem selX12_readText : Cond.selects RX12 yX12_readText yX12_readText ∈ gws := ts_4 (q := (⟨"RopeToALakeModel", "readText", "()I"⟩, _)) 7 rfl
theorem cdX12_isWord : Cond.code yX12_isWord cX12_isWord 2 (some .boolean) ∈ gws := tb_7 40 rfl rfl
theorem insX12_isWord : Cond.instanceMethod yX12_isWord ∈ gws := tb_7 39 rfl rfl
theorem selX12_isWord : Cond.selects RX12 yX12_isWord yX12_isWord ∈ gws := ts_4 (q := (⟨"RopeToALakeModel", "isWord", "(I)Z"⟩, _)) 8 rfl
theorem cdX12_errs : Cond.code yX12_errs cX12_errs 2 (some .int) ∈ gws := tb_7 44 rfl rfl
theorem insX12_errs : Cond.instanceMethod yX12_errs ∈ gws := tb_7 43 rfl rfl
theorem selX12_errs : Cond.selects RX12 yX12_errs yX12_errs ∈ gws := ts_4 (q := (⟨"RopeToALakeModel", "errs", "(I)I"⟩, _)) 9 rfl
theorem cdX12_readSum : Cond.code yX12_readSum cX12_readSum 2 (some .int) ∈ gws := tb_7 48 rfl rfl
theorem insX12_readSum : Cond.instanceMethod yX12_readSum ∈ gws := tb_7 47 rfl rfl
theorem selX12_readSum : Cond.selects RX12 yX12_readSum yX12_readSum ∈ gws := ts_4 (q := (⟨"RopeToALakeModel", "readSum", "()I"⟩, _)) 10 rfl
theorem cdX12_readProduct : Cond.code yX12_readProduct cX12_readProduct 2 (some .int) ∈ gws := tb_7 52 rfl rfl
theorem insX12_readProduct : Cond.instanceMethod yX12_readProduct ∈ gws := tb_7 51 rfl rfl
theorem selX12_readProduct : Cond.selects RX12 yX12_readProduct yX12_readProduct ∈ gws := ts_4 (q := (⟨"RopeToALakeModel", "readProduct", "()I"⟩, _)) 11 rfl
theorem cdX12_readUnit : Cond.code yX12_readUnit cX12_readUnit 2 (some .int) ∈ gws := tb_7 56 rfl rfl
theorem insX12_readUnit : Cond.instanceMethod yX12_readUnit ∈ gws := tb_7 55 rfl rfl
theorem selX12_readUnit : Cond.selects RX12 yX12_readUnit yX12_readUnit ∈ gws := ts_4 (q := (⟨"RopeToALakeModel", "readUnit", "()I"⟩, _)) 12 rfl
theorem cdX12_emits : Cond.code yX12_emits cX12_emits 3 none ∈ gws := tb_7 60 rfl rfl
theorem insX12_emits : Cond.instanceMethod yX12_emits ∈ gws := tb_7 59 rfl rfl
theorem selX12_emits : Cond.selects RX12 yX12_emits yX12_emits ∈ gws := ts_4 (q := (⟨"RopeToALakeModel", "emits", "(II)V"⟩, _)) 13 rfl
theorem cdX12_isSign : Cond.code yX12_isSign cX12_isSign 2 (some .boolean) ∈ gws := tb_7 64 rfl rfl
theorem insX12_isSign : Cond.instanceMethod yX12_isSign ∈ gws := tb_7 63 rfl rfl
theorem selX12_isSign : Cond.selects RX12 yX12_isSign yX12_isSign ∈ gws := ts_4 (q := (⟨"RopeToALakeModel", "isSign", "(I)Z"⟩, _)) 14 rfl
theorem cdX12_readAny : Cond.code yX12_readAny cX12_readAny 4 (some .int) ∈ gws := tb_7 68 rfl rfl
theorem insX12_readAny : Cond.instanceMethod yX12_readAny ∈ gws := tb_7 67 rfl rfl
theorem selX12_readAny : Cond.selects RX12 yX12_readAny yX12_readAny ∈ gws := ts_4 (q := (⟨"RopeToALakeModel", "readAny", "()I"⟩, _)) 15 rfl
theorem cdX12_waits : Cond.code yX12_waits cX12_waits 2 none ∈ gws := tb_7 72 rfl rfl
theorem insX12_waits : Cond.instanceMethod yX12_waits ∈ gws := tb_7 71 rfl rfl
theorem selX12_waits : Cond.selects RX12 yX12_waits yX12_waits ∈ gws := ts_5 (q := (⟨"RopeToALakeModel", "waits", "(I)V"⟩, _)) 0 rfl
theorem cdX12_readCompared : Cond.code yX12_readCompared cX12_readCompared 2 (some .int) ∈ gws := tb_7 76 rfl rfl
theorem insX12_readCompared : Cond.instanceMethod yX12_readCompared ∈ gws := tb_7 75 rfl rfl
theorem selX12_readCompared : Cond.selects RX12 yX12_readCompared yX12_readCompared ∈ gws := ts_5 (q := (⟨"RopeToALakeModel", "readCompared", "()I"⟩, _)) 1 rfl
theorem cdX12_settles : Cond.code yX12_settles cX12_settles 2 none ∈ gws := tb_7 80 rfl rfl
theorem insX12_settles : Cond.instanceMethod yX12_settles ∈ gws := tb_7 79 rfl rfl
theorem selX12_settles : Cond.selects RX12 yX12_settles yX12_settles ∈ gws := ts_5 (q := (⟨"RopeToALakeModel", "settles", "(I)V"⟩, _)) 2 rfl
theorem cdX12_fault : Cond.code yX12_fault cX12_fault 2 (some .int) ∈ gws := tb_7 84 rfl rfl
theorem insX12_fault : Cond.instanceMethod yX12_fault ∈ gws := tb_7 82 rfl rfl
theorem selX12_fault : Cond.selects RX12 yX12_fault yX12_fault ∈ gws := tb_7 83 rfl rfl
theorem cdX12_hours : Cond.code yX12_hours cX12_hours 4 (some .int) ∈ gws := tb_7 88 rfl rfl
theorem insX12_hours : Cond.instanceMethod yX12_hours ∈ gws := tb_7 86 rfl rfl
theorem selX12_hours : Cond.selects RX12 yX12_hours yX12_hours ∈ gws := tb_7 87 rfl rfl
theorem cdX12_keepsAhead : Cond.code yX12_keepsAhead cX12_keepsAhead 2 none ∈ gws := tb_7 92 rfl rfl
theorem insX12_keepsAhead : Cond.instanceMethod yX12_keepsAhead ∈ gws := tb_7 91 rfl rfl
theorem selX12_keepsAhead : Cond.selects RX12 yX12_keepsAhead yX12_keepsAhead ∈ gws := ts_5 (q := (⟨"RopeToALakeModel", "keepsAhead", "()V"⟩, _)) 3 rfl
theorem cdX12_keepsRow : Cond.code yX12_keepsRow cX12_keepsRow 3 none ∈ gws := tb_7 96 rfl rfl
theorem insX12_keepsRow : Cond.instanceMethod yX12_keepsRow ∈ gws := tb_7 95 rfl rfl
theorem selX12_keepsRow : Cond.selects RX12 yX12_keepsRow yX12_keepsRow ∈ gws := ts_5 (q := (⟨"RopeToALakeModel", "keepsRow", "(I)V"⟩, _)) 4 rfl
theorem cdX12_goesBy : Cond.code yX12_goesBy cX12_goesBy 6 (some .int) ∈ gws := tb_7 100 rfl rfl
theorem insX12_goesBy : Cond.instanceMethod yX12_goesBy ∈ gws := tb_7 99 rfl rfl
theorem selX12_goesBy : Cond.selects RX12 yX12_goesBy yX12_goesBy ∈ gws := ts_5 (q := (⟨"RopeToALakeModel", "goesBy", "()I"⟩, _)) 5 rfl
theorem cdX12_draw : Cond.code yX12_draw cX12_draw 2 (some .int) ∈ gws := tb_7 104 rfl rfl
theorem insX12_draw : Cond.instanceMethod yX12_draw ∈ gws := tb_7 103 rfl rfl
theorem selX12_draw : Cond.selects RX12 yX12_draw yX12_draw ∈ gws := ts_5 (q := (⟨"RopeToALakeModel", "draw", "(I)I"⟩, _)) 6 rfl
theorem cdX12_isBroken : Cond.code yX12_isBroken cX12_isBroken 2 (some .boolean) ∈ gws := tb_7 110 rfl rfl
theorem insX12_isBroken : Cond.instanceMethod yX12_isBroken ∈ gws := tb_7 109 rfl rfl
theorem selX12_isBroken : Cond.selects RX12 yX12_isBroken yX12_isBroken ∈ gws := ts_5 (q := (⟨"RopeToALakeModel", "isBroken", "()Z"⟩, _)) 7 rfl
theorem cdX12_pullerFor : Cond.code yX12_pullerFor cX12_pullerFor 3 (some .int) ∈ gws := tb_7 114 rfl rfl
theorem insX12_pullerFor : Cond.instanceMethod yX12_pullerFor ∈ gws := tb_7 113 rfl rfl
theorem selX12_pullerFor : Cond.selects RX12 yX12_pullerFor yX12_pullerFor ∈ gws := ts_5 (q := (⟨"RopeToALakeModel", "pullerFor", "(I)I"⟩, _)) 8 rfl
theorem cdX12_stepsOf : Cond.code yX12_stepsOf cX12_stepsOf 5 (some .int) ∈ gws := tb_7 118 rfl rfl
theorem insX12_stepsOf : Cond.instanceMethod yX12_stepsOf ∈ gws := tb_7 117 rfl rfl
theorem selX12_stepsOf : Cond.selects RX12 yX12_stepsOf yX12_stepsOf ∈ gws := ts_5 (q := (⟨"RopeToALakeModel", "stepsOf", "(IZ)I"⟩, _)) 9 rfl
theorem cdX12_pulls : Cond.code yX12_pulls cX12_pulls 3 (some .int) ∈ gws := tb_7 122 rfl rfl
theorem insX12_pulls : Cond.instanceMethod yX12_pulls ∈ gws := tb_7 121 rfl rfl
theorem selX12_pulls : Cond.selects RX12 yX12_pulls yX12_pulls ∈ gws := ts_5 (q := (⟨"RopeToALakeModel", "pulls", "(I)I"⟩, _)) 10 rfl
theorem cdX12_step : Cond.code yX12_step cX12_step 2 none ∈ gws := tb_7 126 rfl rfl
theorem insX12_step : Cond.instanceMethod yX12_step ∈ gws := tb_7 125 rfl rfl
theorem selX12_step : Cond.selects RX12 yX12_step yX12_step ∈ gws := ts_5 (q := (⟨"RopeToALakeModel", "step", "()V"⟩, _)) 11 rfl
theorem cdX12_goesOn : Cond.code yX12_goesOn cX12_goesOn 4 none ∈ gws := tb_7 130 rfl rfl
theorem insX12_goesOn : Cond.instanceMethod yX12_goesOn ∈ gws := tb_7 129 rfl rfl
theorem selX12_goesOn : Cond.selects RX12 yX12_goesOn yX12_goesOn ∈ gws := ts_5 (q := (⟨"RopeToALakeModel", "goesOn", "(I)V"⟩, _)) 12 rfl
theorem cdX12_placeOf : Cond.code yX12_placeOf cX12_placeOf 2 (some .int) ∈ gws := tb_7 134 rfl rfl
theorem insX12_placeOf : Cond.instanceMethod yX12_placeOf ∈ gws := tb_7 133 rfl rfl
theorem selX12_placeOf : Cond.selects RX12 yX12_placeOf yX12_placeOf ∈ gws := ts_5 (q := (⟨"RopeToALakeModel", "placeOf", "(I)I"⟩, _)) 13 rfl
theorem cdX12_drips : Cond.code yX12_drips cX12_drips 5 none ∈ gws := tb_7 138 rfl rfl
theorem insX12_drips : Cond.instanceMethod yX12_drips ∈ gws := tb_7 137 rfl rfl
theorem selX12_drips : Cond.selects RX12 yX12_drips yX12_drips ∈ gws := ts_5 (q := (⟨"RopeToALakeModel", "drips", "(II)V"⟩, _)) 14 rfl
theorem cdX12_midnight : Cond.code yX12_midnight cX12_midnight 3 none ∈ gws := tb_7 142 rfl rfl
theorem insX12_midnight : Cond.instanceMethod yX12_midnight ∈ gws := tb_7 141 rfl rfl
theorem selX12_midnight : Cond.selects RX12 yX12_midnight yX12_midnight ∈ gws := ts_5 (q := (⟨"RopeToALakeModel", "midnight", "()V"⟩, _)) 15 rfl
theorem cdX12_shares : Cond.code yX12_shares cX12_shares 7 none ∈ gws := tb_7 146 rfl rfl
theorem insX12_shares : Cond.instanceMethod yX12_shares ∈ gws := tb_7 145 rfl rfl
theorem selX12_shares : Cond.selects RX12 yX12_shares yX12_shares ∈ gws := ts_6 (q := (⟨"RopeToALakeModel", "shares", "()V"⟩, _)) 0 rfl
theorem cdX12_weightOf : Cond.code yX12_weightOf cX12_weightOf 4 (some .int) ∈ gws := tb_7 150 rfl rfl
theorem insX12_weightOf : Cond.instanceMethod yX12_weightOf ∈ gws := tb_7 149 rfl rfl
theorem selX12_weightOf : Cond.selects RX12 yX12_weightOf yX12_weightOf ∈ gws := ts_6 (q := (⟨"RopeToALakeModel", "weightOf", "(I)I"⟩, _)) 1 rfl
theorem cdX12_owesOf : Cond.code yX12_owesOf cX12_owesOf 4 (some .int) ∈ gws := tb_7 154 rfl rfl
theorem insX12_owesOf : Cond.instanceMethod yX12_owesOf ∈ gws := tb_7 153 rfl rfl
theorem selX12_owesOf : Cond.selects RX12 yX12_owesOf yX12_owesOf ∈ gws := ts_6 (q := (⟨"RopeToALakeModel", "owesOf", "(I)I"⟩, _)) 2 rfl
theorem cdX12_isSo : Cond.code yX12_isSo cX12_isSo 2 (some .boolean) ∈ gws := tb_7 158 rfl rfl
theorem insX12_isSo : Cond.instanceMethod yX12_isSo ∈ gws := tb_7 157 rfl rfl
theorem selX12_isSo : Cond.selects RX12 yX12_isSo yX12_isSo ∈ gws := ts_6 (q := (⟨"RopeToALakeModel", "isSo", "(I)Z"⟩, _)) 3 rfl
theorem cdX12_runs : Cond.code yX12_runs cX12_runs 5 (some .int) ∈ gws := tb_7 162 rfl rfl
theorem insX12_runs : Cond.instanceMethod yX12_runs ∈ gws := tb_7 161 rfl rfl
theorem selX12_runs : Cond.selects RX12 yX12_runs yX12_runs ∈ gws := ts_6 (q := (⟨"RopeToALakeModel", "runs", "(II)I"⟩, _)) 4 rfl
theorem cdX12_twoOf : Cond.code yX12_twoOf cX12_twoOf 4 (some .int) ∈ gws := tb_7 166 rfl rfl
theorem insX12_twoOf : Cond.instanceMethod yX12_twoOf ∈ gws := tb_7 165 rfl rfl
theorem selX12_twoOf : Cond.selects RX12 yX12_twoOf yX12_twoOf ∈ gws := ts_6 (q := (⟨"RopeToALakeModel", "twoOf", "(III)I"⟩, _)) 5 rfl
theorem cdX12_of : Cond.code yX12_of cX12_of 3 (some .int) ∈ gws := tb_7 171 rfl rfl
theorem insX12_of : Cond.instanceMethod yX12_of ∈ gws := tb_7 169 rfl rfl
theorem selX12_of : Cond.selects RX12 yX12_of yX12_of ∈ gws := tb_7 170 rfl rfl
theorem cdX12_owedTo : Cond.code yX12_owedTo cX12_owedTo 4 (some .int) ∈ gws := tb_7 175 rfl rfl
theorem insX12_owedTo : Cond.instanceMethod yX12_owedTo ∈ gws := tb_7 174 rfl rfl
theorem selX12_owedTo : Cond.selects RX12 yX12_owedTo yX12_owedTo ∈ gws := ts_6 (q := (⟨"RopeToALakeModel", "owedTo", "(I)I"⟩, _)) 6 rfl
theorem cdX12_pail : Cond.code yX12_pail cX12_pail 3 (some .int) ∈ gws := tb_7 179 rfl rfl
theorem insX12_pail : Cond.instanceMethod yX12_pail ∈ gws := tb_7 177 rfl rfl
theorem selX12_pail : Cond.selects RX12 yX12_pail yX12_pail ∈ gws := tb_7 178 rfl rfl
theorem cdX12_part : Cond.code yX12_part cX12_part 3 (some .int) ∈ gws := tb_7 183 rfl rfl
theorem insX12_part : Cond.instanceMethod yX12_part ∈ gws := tb_7 181 rfl rfl
theorem selX12_part : Cond.selects RX12 yX12_part yX12_part ∈ gws := tb_7 182 rfl rfl
theorem cdX12_owes : Cond.code yX12_owes cX12_owes 3 (some .int) ∈ gws := tb_7 187 rfl rfl
theorem insX12_owes : Cond.instanceMethod yX12_owes ∈ gws := tb_7 185 rfl rfl
theorem selX12_owes : Cond.selects RX12 yX12_owes yX12_owes ∈ gws := tb_7 186 rfl rfl
theorem cdX12_deals : Cond.code yX12_deals cX12_deals 4 (some .int) ∈ gws := tb_7 191 rfl rfl
theorem insX12_deals : Cond.instanceMethod yX12_deals ∈ gws := tb_7 189 rfl rfl
theorem selX12_deals : Cond.selects RX12 yX12_deals yX12_deals ∈ gws := tb_7 190 rfl rfl
theorem cdX12_mostGroups : Cond.code yX12_mostGroups cX12_mostGroups 6 (some .int) ∈ gws := tb_7 195 rfl rfl
theorem insX12_mostGroups : Cond.instanceMethod yX12_mostGroups ∈ gws := tb_7 194 rfl rfl
theorem selX12_mostGroups : Cond.selects RX12 yX12_mostGroups yX12_mostGroups ∈ gws := ts_6 (q := (⟨"RopeToALakeModel", "mostGroups", "(I)I"⟩, _)) 7 rfl
theorem cdX12_ones : Cond.code yX12_ones cX12_ones 4 (some .int) ∈ gws := tb_7 199 rfl rfl
theorem insX12_ones : Cond.instanceMethod yX12_ones ∈ gws := tb_7 198 rfl rfl
theorem selX12_ones : Cond.selects RX12 yX12_ones yX12_ones ∈ gws := ts_6 (q := (⟨"RopeToALakeModel", "ones", "(I)I"⟩, _)) 8 rfl
theorem cdX12_best : Cond.code yX12_best cX12_best 2 (some .int) ∈ gws := tb_7 203 rfl rfl
theorem insX12_best : Cond.instanceMethod yX12_best ∈ gws := tb_7 201 rfl rfl
theorem selX12_best : Cond.selects RX12 yX12_best yX12_best ∈ gws := tb_7 202 rfl rfl
theorem cdX12_canAsk : Cond.code yX12_canAsk cX12_canAsk 2 (some .boolean) ∈ gws := tb_7 207 rfl rfl
theorem insX12_canAsk : Cond.instanceMethod yX12_canAsk ∈ gws := tb_7 206 rfl rfl
theorem selX12_canAsk : Cond.selects RX12 yX12_canAsk yX12_canAsk ∈ gws := ts_6 (q := (⟨"RopeToALakeModel", "canAsk", "(I)Z"⟩, _)) 9 rfl
theorem cdX12_findsBest : Cond.code yX12_findsBest cX12_findsBest 3 none ∈ gws := tb_7 211 rfl rfl
theorem insX12_findsBest : Cond.instanceMethod yX12_findsBest ∈ gws := tb_7 210 rfl rfl
theorem selX12_findsBest : Cond.selects RX12 yX12_findsBest yX12_findsBest ∈ gws := ts_6 (q := (⟨"RopeToALakeModel", "findsBest", "()V"⟩, _)) 10 rfl
theorem cdX12_ways : Cond.code yX12_ways cX12_ways 1 (some .int) ∈ gws := tb_7 215 rfl rfl
theorem insX12_ways : Cond.instanceMethod yX12_ways ∈ gws := tb_7 214 rfl rfl
theorem selX12_ways : Cond.selects RX12 yX12_ways yX12_ways ∈ gws := ts_6 (q := (⟨"RopeToALakeModel", "ways", "()I"⟩, _)) 11 rfl
theorem cdX12_farmOf : Cond.code yX12_farmOf cX12_farmOf 5 (some .int) ∈ gws := tb_7 219 rfl rfl
theorem insX12_farmOf : Cond.instanceMethod yX12_farmOf ∈ gws := tb_7 218 rfl rfl
theorem selX12_farmOf : Cond.selects RX12 yX12_farmOf yX12_farmOf ∈ gws := ts_6 (q := (⟨"RopeToALakeModel", "farmOf", "(II)I"⟩, _)) 12 rfl
theorem cdX12_peace : Cond.code yX12_peace cX12_peace 6 (some .int) ∈ gws := tb_7 223 rfl rfl
theorem insX12_peace : Cond.instanceMethod yX12_peace ∈ gws := tb_7 221 rfl rfl
theorem selX12_peace : Cond.selects RX12 yX12_peace yX12_peace ∈ gws := tb_7 222 rfl rfl
theorem cdX12_meetings : Cond.code yX12_meetings cX12_meetings 6 (some .int) ∈ gws := tb_7 227 rfl rfl
theorem insX12_meetings : Cond.instanceMethod yX12_meetings ∈ gws := tb_7 226 rfl rfl
theorem selX12_meetings : Cond.selects RX12 yX12_meetings yX12_meetings ∈ gws := ts_6 (q := (⟨"RopeToALakeModel", "meetings", "(I)I"⟩, _)) 13 rfl
theorem cdX12_log : Cond.code yX12_log cX12_log 3 (some .boolean) ∈ gws := tb_7 231 rfl rfl
theorem insX12_log : Cond.instanceMethod yX12_log ∈ gws := tb_7 229 rfl rfl
theorem selX12_log : Cond.selects RX12 yX12_log yX12_log ∈ gws := tb_7 230 rfl rfl
theorem cdX12_slow : Cond.code yX12_slow cX12_slow 8 (some .int) ∈ gws := tb_7 235 rfl rfl
theorem insX12_slow : Cond.instanceMethod yX12_slow ∈ gws := tb_7 233 rfl rfl
theorem selX12_slow : Cond.selects RX12 yX12_slow yX12_slow ∈ gws := tb_7 234 rfl rfl
theorem cdX12_breaks : Cond.code yX12_breaks cX12_breaks 4 (some .int) ∈ gws := tb_7 239 rfl rfl
theorem insX12_breaks : Cond.instanceMethod yX12_breaks ∈ gws := tb_7 237 rfl rfl
theorem selX12_breaks : Cond.selects RX12 yX12_breaks yX12_breaks ∈ gws := tb_7 238 rfl rfl
theorem cdX12_lasts : Cond.code yX12_lasts cX12_lasts 2 (some .int) ∈ gws := tb_8 3 rfl rfl
theorem insX12_lasts : Cond.instanceMethod yX12_lasts ∈ gws := tb_8 2 rfl rfl
theorem selX12_lasts : Cond.selects RX12 yX12_lasts yX12_lasts ∈ gws := ts_6 (q := (⟨"RopeToALakeModel", "lasts", "(I)I"⟩, _)) 14 rfl
theorem cdX12_lasting : Cond.code yX12_lasting cX12_lasting 6 (some .int) ∈ gws := tb_8 7 rfl rfl
theorem insX12_lasting : Cond.instanceMethod yX12_lasting ∈ gws := tb_8 5 rfl rfl
theorem selX12_lasting : Cond.selects RX12 yX12_lasting yX12_lasting ∈ gws := tb_8 6 rfl rfl
theorem cdX12_image : Cond.code yX12_image cX12_image 3 (some .boolean) ∈ gws := tb_8 11 rfl rfl
theorem insX12_image : Cond.instanceMethod yX12_image ∈ gws := tb_8 9 rfl rfl
theorem selX12_image : Cond.selects RX12 yX12_image yX12_image ∈ gws := tb_8 10 rfl rfl
theorem cdX12_kept : Cond.code yX12_kept cX12_kept 2 (some .int) ∈ gws := tb_8 15 rfl rfl
theorem insX12_kept : Cond.instanceMethod yX12_kept ∈ gws := tb_8 14 rfl rfl
theorem selX12_kept : Cond.selects RX12 yX12_kept yX12_kept ∈ gws := ts_6 (q := (⟨"RopeToALakeModel", "kept", "(I)I"⟩, _)) 15 rfl
theorem cdX12_keepsOthers : Cond.code yX12_keepsOthers cX12_keepsOthers 2 none ∈ gws := tb_8 19 rfl rfl
theorem insX12_keepsOthers : Cond.instanceMethod yX12_keepsOthers ∈ gws := tb_8 18 rfl rfl
theorem selX12_keepsOthers : Cond.selects RX12 yX12_keepsOthers yX12_keepsOthers ∈ gws := ts_7 (q := (⟨"RopeToALakeModel", "keepsOthers", "()V"⟩, _)) 0 rfl
theorem cdX12_keepsLaw : Cond.code yX12_keepsLaw cX12_keepsLaw 2 none ∈ gws := tb_8 23 rfl rfl
theorem insX12_keepsLaw : Cond.instanceMethod yX12_keepsLaw ∈ gws := tb_8 22 rfl rfl
theorem selX12_keepsLaw : Cond.selects RX12 yX12_keepsLaw yX12_keepsLaw ∈ gws := ts_7 (q := (⟨"RopeToALakeModel", "keepsLaw", "()V"⟩, _)) 1 rfl
theorem cdX12_look : Cond.code yX12_look cX12_look 2 (some .int) ∈ gws := tb_8 27 rfl rfl
theorem insX12_look : Cond.instanceMethod yX12_look ∈ gws := tb_8 25 rfl rfl
theorem selX12_look : Cond.selects RX12 yX12_look yX12_look ∈ gws := tb_8 26 rfl rfl
theorem flX3_39 : Cond.fieldLink RX3 39 RX3 "draws" "I" ∈ gws := tb_1 42 rfl rfl
theorem flX11_55 : Cond.fieldLink RX11 55 RX3 "draws" "I" ∈ gws := tb_1 43 rfl rfl
theorem flX4_39 : Cond.fieldLink RX4 39 RX3 "draws" "I" ∈ gws := tb_1 44 rfl rfl
theorem flX3_43 : Cond.fieldLink RX3 43 RX3 "lake" "I" ∈ gws := tb_1 45 rfl rfl
theorem flX9_133 : Cond.fieldLink RX9 133 RX3 "lake" "I" ∈ gws := tb_1 46 rfl rfl
theorem flX6_104 : Cond.fieldLink RX6 104 RX3 "lake" "I" ∈ gws := tb_1 47 rfl rfl
theorem flX11_302 : Cond.fieldLink RX11 302 RX3 "lake" "I" ∈ gws := tb_1 48 rfl rfl
theorem flX3_46 : Cond.fieldLink RX3 46 RX3 "trough" "I" ∈ gws := tb_1 49 rfl rfl
theorem flX10_96 : Cond.fieldLink RX10 96 RX3 "trough" "I" ∈ gws := tb_1 50 rfl rfl
theorem flX6_98 : Cond.fieldLink RX6 98 RX3 "trough" "I" ∈ gws := tb_1 51 rfl rfl
theorem flX9_204 : Cond.fieldLink RX9 204 RX3 "trough" "I" ∈ gws := tb_1 52 rfl rfl
theorem flX11_305 : Cond.fieldLink RX11 305 RX3 "trough" "I" ∈ gws := tb_1 53 rfl rfl
theorem flX3_49 : Cond.fieldLink RX3 49 RX3 "day" "I" ∈ gws := tb_1 54 rfl rfl
theorem flX9_140 : Cond.fieldLink RX9 140 RX3 "day" "I" ∈ gws := tb_1 55 rfl rfl
theorem flX1_97 : Cond.fieldLink RX1 97 RX3 "day" "I" ∈ gws := tb_1 56 rfl rfl
theorem flX11_314 : Cond.fieldLink RX11 314 RX3 "day" "I" ∈ gws := tb_1 57 rfl rfl
theorem flX3_52 : Cond.fieldLink RX3 52 RX3 "hour" "I" ∈ gws := tb_1 58 rfl rfl
theorem flX9_137 : Cond.fieldLink RX9 137 RX3 "hour" "I" ∈ gws := tb_1 59 rfl rfl
theorem flX11_317 : Cond.fieldLink RX11 317 RX3 "hour" "I" ∈ gws := tb_1 60 rfl rfl
theorem flX3_55 : Cond.fieldLink RX3 55 RX3 "steps" "I" ∈ gws := tb_1 61 rfl rfl
theorem flX6_89 : Cond.fieldLink RX6 89 RX3 "steps" "I" ∈ gws := tb_1 62 rfl rfl
theorem flX11_323 : Cond.fieldLink RX11 323 RX3 "steps" "I" ∈ gws := tb_1 63 rfl rfl
theorem flX3_58 : Cond.fieldLink RX3 58 RX3 "turned" "I" ∈ gws := tb_1 64 rfl rfl
theorem flX6_60 : Cond.fieldLink RX6 60 RX3 "turned" "I" ∈ gws := tb_1 65 rfl rfl
theorem flX3_9 : Cond.fieldLink RX3 9 RX3 "inBucket" "[I" ∈ gws := tb_1 66 rfl rfl
theorem flX6_101 : Cond.fieldLink RX6 101 RX3 "inBucket" "[I" ∈ gws := tb_1 67 rfl rfl
theorem flX11_234 : Cond.fieldLink RX11 234 RX3 "inBucket" "[I" ∈ gws := tb_1 68 rfl rfl
theorem flX3_15 : Cond.fieldLink RX3 15 RX3 "strength" "[I" ∈ gws := tb_1 69 rfl rfl
theorem flX11_132 : Cond.fieldLink RX11 132 RX3 "strength" "[I" ∈ gws := tb_1 70 rfl rfl
theorem flX6_92 : Cond.fieldLink RX6 92 RX3 "strength" "[I" ∈ gws := tb_1 71 rfl rfl
theorem flX3_18 : Cond.fieldLink RX3 18 RX3 "drops" "[I" ∈ gws := tb_1 72 rfl rfl
theorem flX1_85 : Cond.fieldLink RX1 85 RX3 "drops" "[I" ∈ gws := tb_1 73 rfl rfl
theorem flX6_115 : Cond.fieldLink RX6 115 RX3 "drops" "[I" ∈ gws := tb_1 74 rfl rfl
theorem flX9_207 : Cond.fieldLink RX9 207 RX3 "drops" "[I" ∈ gws := tb_1 75 rfl rfl
theorem flX11_195 : Cond.fieldLink RX11 195 RX3 "drops" "[I" ∈ gws := tb_1 76 rfl rfl
theorem flX3_21 : Cond.fieldLink RX3 21 RX3 "pulled" "[I" ∈ gws := tb_1 77 rfl rfl
theorem flX9_183 : Cond.fieldLink RX9 183 RX3 "pulled" "[I" ∈ gws := tb_1 78 rfl rfl
theorem flX11_198 : Cond.fieldLink RX11 198 RX3 "pulled" "[I" ∈ gws := tb_1 79 rfl rfl
theorem flX3_24 : Cond.fieldLink RX3 24 RX3 "pulledToday" "[I" ∈ gws := tb_1 80 rfl rfl
theorem flX1_74 : Cond.fieldLink RX1 74 RX3 "pulledToday" "[I" ∈ gws := tb_1 81 rfl rfl
theorem flX9_186 : Cond.fieldLink RX9 186 RX3 "pulledToday" "[I" ∈ gws := tb_1 82 rfl rfl
theorem flX11_201 : Cond.fieldLink RX11 201 RX3 "pulledToday" "[I" ∈ gws := tb_1 83 rfl rfl
theorem flX3_27 : Cond.fieldLink RX3 27 RX3 "dripped" "[I" ∈ gws := tb_1 84 rfl rfl
theorem flX6_118 : Cond.fieldLink RX6 118 RX3 "dripped" "[I" ∈ gws := tb_1 85 rfl rfl
theorem flX11_204 : Cond.fieldLink RX11 204 RX3 "dripped" "[I" ∈ gws := tb_1 86 rfl rfl
theorem flX3_30 : Cond.fieldLink RX3 30 RX3 "drippedToday" "[I" ∈ gws := tb_1 87 rfl rfl
theorem flX1_88 : Cond.fieldLink RX1 88 RX3 "drippedToday" "[I" ∈ gws := tb_1 88 rfl rfl
theorem flX6_121 : Cond.fieldLink RX6 121 RX3 "drippedToday" "[I" ∈ gws := tb_1 89 rfl rfl
theorem flX11_207 : Cond.fieldLink RX11 207 RX3 "drippedToday" "[I" ∈ gws := tb_1 90 rfl rfl
theorem flX3_33 : Cond.fieldLink RX3 33 RX3 "dryDays" "[I" ∈ gws := tb_1 91 rfl rfl
theorem flX1_91 : Cond.fieldLink RX1 91 RX3 "dryDays" "[I" ∈ gws := tb_1 92 rfl rfl
theorem flX11_210 : Cond.fieldLink RX11 210 RX3 "dryDays" "[I" ∈ gws := tb_1 93 rfl rfl
theorem flX9_217 : Cond.fieldLink RX9 217 RX3 "dryDays" "[I" ∈ gws := tb_1 94 rfl rfl
theorem flX3_36 : Cond.fieldLink RX3 36 RX3 "debt" "[I" ∈ gws := tb_1 95 rfl rfl
theorem flX9_189 : Cond.fieldLink RX9 189 RX3 "debt" "[I" ∈ gws := tb_1 96 rfl rfl
theorem flX11_247 : Cond.fieldLink RX11 247 RX3 "debt" "[I" ∈ gws := tb_1 97 rfl rfl
theorem flX6_30 : Cond.fieldLink RX6 30 RX6 "notches" "I" ∈ gws := tb_1 138 rfl rfl
theorem flX11_296 : Cond.fieldLink RX11 296 RX6 "notches" "I" ∈ gws := tb_1 139 rfl rfl
theorem flX6_34 : Cond.fieldLink RX6 34 RX6 "buckets" "I" ∈ gws := tb_1 140 rfl rfl
theorem flX11_308 : Cond.fieldLink RX11 308 RX6 "buckets" "I" ∈ gws := tb_1 141 rfl rfl
theorem flX6_37 : Cond.fieldLink RX6 37 RX6 "splices" "I" ∈ gws := tb_1 142 rfl rfl
theorem flX11_311 : Cond.fieldLink RX11 311 RX6 "splices" "I" ∈ gws := tb_1 143 rfl rfl
theorem flX6_9 : Cond.fieldLink RX6 9 RX6 "notch" "[I" ∈ gws := tb_1 144 rfl rfl
theorem flX11_225 : Cond.fieldLink RX11 225 RX6 "notch" "[I" ∈ gws := tb_1 145 rfl rfl
theorem flX6_15 : Cond.fieldLink RX6 15 RX6 "size" "[I" ∈ gws := tb_1 146 rfl rfl
theorem flX11_228 : Cond.fieldLink RX11 228 RX6 "size" "[I" ∈ gws := tb_1 147 rfl rfl
theorem flX6_18 : Cond.fieldLink RX6 18 RX6 "hole" "[I" ∈ gws := tb_1 148 rfl rfl
theorem flX9_116 : Cond.fieldLink RX9 116 RX6 "hole" "[I" ∈ gws := tb_1 149 rfl rfl
theorem flX11_231 : Cond.fieldLink RX11 231 RX6 "hole" "[I" ∈ gws := tb_1 150 rfl rfl
theorem flX6_21 : Cond.fieldLink RX6 21 RX6 "field" "[I" ∈ gws := tb_1 151 rfl rfl
theorem flX9_125 : Cond.fieldLink RX9 125 RX6 "field" "[I" ∈ gws := tb_1 152 rfl rfl
theorem flX6_24 : Cond.fieldLink RX6 24 RX6 "wear" "[I" ∈ gws := tb_1 153 rfl rfl
theorem flX11_241 : Cond.fieldLink RX11 241 RX6 "wear" "[I" ∈ gws := tb_1 154 rfl rfl
theorem flX6_27 : Cond.fieldLink RX6 27 RX6 "price" "[I" ∈ gws := tb_1 155 rfl rfl
theorem flX11_244 : Cond.fieldLink RX11 244 RX6 "price" "[I" ∈ gws := tb_1 156 rfl rfl
theorem flX0_26 : Cond.fieldLink RX0 26 RX0 "farms" "I" ∈ gws := tb_1 184 rfl rfl
theorem flX10_51 : Cond.fieldLink RX10 51 RX0 "farms" "I" ∈ gws := tb_1 185 rfl rfl
theorem flX9_195 : Cond.fieldLink RX9 195 RX0 "farms" "I" ∈ gws := tb_1 186 rfl rfl
theorem flX11_250 : Cond.fieldLink RX11 250 RX0 "farms" "I" ∈ gws := tb_1 187 rfl rfl
theorem flX0_13 : Cond.fieldLink RX0 13 RX0 "trait" "[[I" ∈ gws := tb_1 188 rfl rfl
theorem flX1_79 : Cond.fieldLink RX1 79 RX0 "trait" "[[I" ∈ gws := tb_1 189 rfl rfl
theorem flX11_191 : Cond.fieldLink RX11 191 RX0 "trait" "[[I" ∈ gws := tb_1 190 rfl rfl
theorem flX9_213 : Cond.fieldLink RX9 213 RX0 "trait" "[[I" ∈ gws := tb_1 191 rfl rfl
theorem flX0_16 : Cond.fieldLink RX0 16 RX0 "foesOf" "[I" ∈ gws := tb_1 192 rfl rfl
theorem flX0_36 : Cond.fieldLink RX0 36 RX0 "logs" "I" ∈ gws := tb_1 193 rfl rfl
theorem flX0_20 : Cond.fieldLink RX0 20 RX0 "fewestLogged" "[I" ∈ gws := tb_1 194 rfl rfl
theorem flX0_23 : Cond.fieldLink RX0 23 RX0 "mostLogged" "[I" ∈ gws := tb_1 195 rfl rfl
theorem flX7_9 : Cond.fieldLink RX7 9 RX7 "turnOf" "[I" ∈ gws := tb_1 215 rfl rfl
theorem flX11_114 : Cond.fieldLink RX11 114 RX7 "turnOf" "[I" ∈ gws := tb_1 216 rfl rfl
theorem flX9_160 : Cond.fieldLink RX9 160 RX7 "turnOf" "[I" ∈ gws := tb_1 217 rfl rfl
theorem flX7_30 : Cond.fieldLink RX7 30 RX7 "absences" "I" ∈ gws := tb_1 218 rfl rfl
theorem flX7_15 : Cond.fieldLink RX7 15 RX7 "away" "[I" ∈ gws := tb_1 219 rfl rfl
theorem flX7_18 : Cond.fieldLink RX7 18 RX7 "dayAway" "[I" ∈ gws := tb_1 220 rfl rfl
theorem flX7_21 : Cond.fieldLink RX7 21 RX7 "instead" "[I" ∈ gws := tb_1 221 rfl rfl
theorem flX1_18 : Cond.fieldLink RX1 18 RX1 "lines" "I" ∈ gws := tb_1 239 rfl rfl
theorem flX11_174 : Cond.fieldLink RX11 174 RX1 "lines" "I" ∈ gws := tb_2 0 rfl rfl
theorem flX1_22 : Cond.fieldLink RX1 22 RX1 "length" "I" ∈ gws := tb_2 1 rfl rfl
theorem flX1_9 : Cond.fieldLink RX1 9 RX1 "code" "[I" ∈ gws := tb_2 2 rfl rfl
theorem flX1_15 : Cond.fieldLink RX1 15 RX1 "stack" "[I" ∈ gws := tb_2 3 rfl rfl
theorem flX1_36 : Cond.fieldLink RX1 36 RX1 "top" "I" ∈ gws := tb_2 4 rfl rfl
theorem flX9_12 : Cond.fieldLink RX9 12 RX9 "moving" "LRopeToALake$Moving;" ∈ gws := tb_2 50 rfl rfl
theorem flX11_51 : Cond.fieldLink RX11 51 RX9 "moving" "LRopeToALake$Moving;" ∈ gws := tb_2 51 rfl rfl
theorem flX10_89 : Cond.fieldLink RX10 89 RX9 "moving" "LRopeToALake$Moving;" ∈ gws := tb_2 52 rfl rfl
theorem flX9_21 : Cond.fieldLink RX9 21 RX9 "rope" "LRopeToALake$Rope;" ∈ gws := tb_2 53 rfl rfl
theorem flX11_75 : Cond.fieldLink RX11 75 RX9 "rope" "LRopeToALake$Rope;" ∈ gws := tb_2 54 rfl rfl
theorem flX10_99 : Cond.fieldLink RX10 99 RX9 "rope" "LRopeToALake$Rope;" ∈ gws := tb_2 55 rfl rfl
theorem flX9_28 : Cond.fieldLink RX9 28 RX9 "folk" "LRopeToALake$Folk;" ∈ gws := tb_2 56 rfl rfl
theorem flX11_89 : Cond.fieldLink RX11 89 RX9 "folk" "LRopeToALake$Folk;" ∈ gws := tb_2 57 rfl rfl
theorem flX10_45 : Cond.fieldLink RX10 45 RX9 "folk" "LRopeToALake$Folk;" ∈ gws := tb_2 58 rfl rfl
theorem flX9_35 : Cond.fieldLink RX9 35 RX9 "roster" "LRopeToALake$Roster;" ∈ gws := tb_2 59 rfl rfl
theorem flX11_110 : Cond.fieldLink RX11 110 RX9 "roster" "LRopeToALake$Roster;" ∈ gws := tb_2 60 rfl rfl
theorem flX9_42 : Cond.fieldLink RX9 42 RX9 "law" "LRopeToALake$Law;" ∈ gws := tb_2 61 rfl rfl
theorem flX11_164 : Cond.fieldLink RX11 164 RX9 "law" "LRopeToALake$Law;" ∈ gws := tb_2 62 rfl rfl
theorem flX9_66 : Cond.fieldLink RX9 66 RX9 "frost" "I" ∈ gws := tb_2 63 rfl rfl
theorem flX11_332 : Cond.fieldLink RX11 332 RX9 "frost" "I" ∈ gws := tb_2 64 rfl rfl
theorem flX9_70 : Cond.fieldLink RX9 70 RX9 "cold" "I" ∈ gws := tb_2 65 rfl rfl
theorem flX11_335 : Cond.fieldLink RX11 335 RX9 "cold" "I" ∈ gws := tb_2 66 rfl rfl
theorem flX9_46 : Cond.fieldLink RX9 46 RX9 "weight" "[I" ∈ gws := tb_2 67 rfl rfl
theorem flX9_50 : Cond.fieldLink RX9 50 RX9 "rest" "[I" ∈ gws := tb_2 68 rfl rfl
theorem flX4_16 : Cond.fieldLink RX4 16 RX4 "kept" "I" ∈ gws := tb_2 97 rfl rfl
theorem flX11_326 : Cond.fieldLink RX11 326 RX4 "kept" "I" ∈ gws := tb_2 98 rfl rfl
theorem flX4_20 : Cond.fieldLink RX4 20 RX4 "next" "I" ∈ gws := tb_2 99 rfl rfl
theorem flX4_11 : Cond.fieldLink RX4 11 RX4 "ahead" "[LRopeToALake$Moving;" ∈ gws := tb_2 100 rfl rfl
theorem flX8_19 : Cond.fieldLink RX8 19 RX8 "length" "I" ∈ gws := tb_2 120 rfl rfl
theorem flX11_155 : Cond.fieldLink RX11 155 RX8 "length" "I" ∈ gws := tb_2 121 rfl rfl
theorem flX8_9 : Cond.fieldLink RX8 9 RX8 "signs" "[I" ∈ gws := tb_2 122 rfl rfl
theorem flX8_13 : Cond.fieldLink RX8 13 RX8 "token" "[I" ∈ gws := tb_2 123 rfl rfl
theorem flX5_41 : Cond.fieldLink RX5 41 RX8 "token" "[I" ∈ gws := tb_2 124 rfl rfl
theorem flX8_16 : Cond.fieldLink RX8 16 RX8 "place" "[I" ∈ gws := tb_2 125 rfl rfl
theorem flX5_53 : Cond.fieldLink RX5 53 RX8 "place" "[I" ∈ gws := tb_2 126 rfl rfl
theorem flX5_56 : Cond.fieldLink RX5 56 RX8 "tokens" "I" ∈ gws := tb_2 127 rfl rfl
theorem flX8_35 : Cond.fieldLink RX8 35 RX8 "tokens" "I" ∈ gws := tb_2 128 rfl rfl
theorem flX8_38 : Cond.fieldLink RX8 38 RX8 "at" "I" ∈ gws := tb_2 129 rfl rfl
theorem flX5_12 : Cond.fieldLink RX5 12 RX5 "tape" "LRopeToALake$Tape;" ∈ gws := tb_2 143 rfl rfl
theorem flX11_142 : Cond.fieldLink RX11 142 RX5 "tape" "LRopeToALake$Tape;" ∈ gws := tb_2 144 rfl rfl
theorem flX5_29 : Cond.fieldLink RX5 29 RX5 "faultKind" "I" ∈ gws := tb_2 145 rfl rfl
theorem flX11_161 : Cond.fieldLink RX11 161 RX5 "faultKind" "I" ∈ gws := tb_2 146 rfl rfl
theorem flX5_18 : Cond.fieldLink RX5 18 RX5 "faultPlace" "I" ∈ gws := tb_2 147 rfl rfl
theorem flX11_177 : Cond.fieldLink RX11 177 RX5 "faultPlace" "I" ∈ gws := tb_2 148 rfl rfl
theorem flX5_32 : Cond.fieldLink RX5 32 RX5 "lines" "I" ∈ gws := tb_2 149 rfl rfl
theorem flX1_31 : Cond.fieldLink RX1 31 RX5 "lines" "I" ∈ gws := tb_2 150 rfl rfl
theorem flX5_35 : Cond.fieldLink RX5 35 RX5 "length" "I" ∈ gws := tb_2 151 rfl rfl
theorem flX1_34 : Cond.fieldLink RX1 34 RX5 "length" "I" ∈ gws := tb_2 152 rfl rfl
theorem flX5_22 : Cond.fieldLink RX5 22 RX5 "code" "[I" ∈ gws := tb_2 153 rfl rfl
theorem flX1_35 : Cond.fieldLink RX1 35 RX5 "code" "[I" ∈ gws := tb_2 154 rfl rfl
theorem flX5_38 : Cond.fieldLink RX5 38 RX5 "at" "I" ∈ gws := tb_2 155 rfl rfl
theorem flX5_44 : Cond.fieldLink RX5 44 RX5 "token" "I" ∈ gws := tb_2 156 rfl rfl
theorem flX10_35 : Cond.fieldLink RX10 35 RX10 "found" "I" ∈ gws := tb_2 182 rfl rfl
theorem flX10_11 : Cond.fieldLink RX10 11 RX10 "chosen" "[I" ∈ gws := tb_2 183 rfl rfl
theorem flX10_15 : Cond.fieldLink RX10 15 RX10 "way" "[I" ∈ gws := tb_2 184 rfl rfl
theorem flX10_18 : Cond.fieldLink RX10 18 RX10 "stepsAnHour" "[I" ∈ gws := tb_2 185 rfl rfl
theorem flX10_21 : Cond.fieldLink RX10 21 RX10 "troughBehind" "[I" ∈ gws := tb_2 186 rfl rfl
theorem flX10_27 : Cond.fieldLink RX10 27 RX10 "thought" "LRopeToALake$Moving;" ∈ gws := tb_2 187 rfl rfl
theorem flX2_9 : Cond.fieldLink RX2 9 RX2 "net" "[I" ∈ gws := tb_2 207 rfl rfl
theorem flX2_15 : Cond.fieldLink RX2 15 RX2 "sum" "[I" ∈ gws := tb_2 208 rfl rfl
theorem flX2_18 : Cond.fieldLink RX2 18 RX2 "groups" "[I" ∈ gws := tb_2 209 rfl rfl
theorem flX11_12 : Cond.fieldLink RX11 12 RX11 "valley" "LRopeToALake$Valley;" ∈ gws := tb_2 217 rfl rfl
theorem flX11_16 : Cond.fieldLink RX11 16 RX11 "picture" "LRopeToALake$Valley;" ∈ gws := tb_2 218 rfl rfl
theorem flX11_19 : Cond.fieldLink RX11 19 RX11 "isPictured" "Z" ∈ gws := tb_2 219 rfl rfl
theorem flX11_26 : Cond.fieldLink RX11 26 RX11 "past" "LRopeToALake$Past;" ∈ gws := tb_2 220 rfl rfl
theorem flX11_33 : Cond.fieldLink RX11 33 RX11 "reader" "LRopeToALake$Reader;" ∈ gws := tb_2 221 rfl rfl
theorem flX11_40 : Cond.fieldLink RX11 40 RX11 "watches" "LRopeToALake$Watches;" ∈ gws := tb_2 222 rfl rfl
theorem flX11_47 : Cond.fieldLink RX11 47 RX11 "ledger" "LRopeToALake$Ledger;" ∈ gws := tb_2 223 rfl rfl
theorem flX0_53 : Cond.fieldLink RX0 53 RX0 "MOST_OF_TRAIT" "[I" ∈ gws := tb_3 52 rfl rfl
theorem flJ0_38 : Cond.fieldLink RJ0 38 RJ0 "COMPACT_STRINGS" "Z" ∈ gws := tb_3 208 rfl rfl
theorem flJ0_1053 : Cond.fieldLink RJ0 1053 RJ3 "SIOOBE_FORMATTER" "Ljava/util/function/BiFunction;" ∈ gws := tb_3 224 rfl rfl
theorem flJ2_44 : Cond.fieldLink RJ2 44 RJ2 "$assertionsDisabled" "Z" ∈ gws := tb_4 2 rfl rfl
theorem flJ2_59 : Cond.fieldLink RJ2 59 RJ2 "HI_BYTE_SHIFT" "I" ∈ gws := tb_4 4 rfl rfl
theorem flJ2_63 : Cond.fieldLink RJ2 63 RJ2 "LO_BYTE_SHIFT" "I" ∈ gws := tb_4 6 rfl rfl
theorem flX12_120 : Cond.fieldLink RX12 120 RX12 "told" "I" ∈ gws := tb_5 218 rfl rfl
theorem flX12_7 : Cond.fieldLink RX12 7 RX12 "now" "[I" ∈ gws := tb_5 219 rfl rfl
theorem flX12_13 : Cond.fieldLink RX12 13 RX12 "rows" "[I" ∈ gws := tb_5 220 rfl rfl
theorem flX12_123 : Cond.fieldLink RX12 123 RX12 "undoable" "I" ∈ gws := tb_5 221 rfl rfl
theorem flX12_16 : Cond.fieldLink RX12 16 RX12 "notches" "I" ∈ gws := tb_5 222 rfl rfl
theorem flX12_142 : Cond.fieldLink RX12 142 RX12 "buckets" "I" ∈ gws := tb_5 223 rfl rfl
theorem flX12_20 : Cond.fieldLink RX12 20 RX12 "notchOf" "[I" ∈ gws := tb_5 224 rfl rfl
theorem flX12_23 : Cond.fieldLink RX12 23 RX12 "sizeOf" "[I" ∈ gws := tb_5 225 rfl rfl
theorem flX12_26 : Cond.fieldLink RX12 26 RX12 "holeOf" "[I" ∈ gws := tb_5 226 rfl rfl
theorem flX12_135 : Cond.fieldLink RX12 135 RX12 "farms" "I" ∈ gws := tb_5 227 rfl rfl
theorem flX12_29 : Cond.fieldLink RX12 29 RX12 "armsOf" "[I" ∈ gws := tb_5 228 rfl rfl
theorem flX12_32 : Cond.fieldLink RX12 32 RX12 "slowOf" "[I" ∈ gws := tb_5 229 rfl rfl
theorem flX12_35 : Cond.fieldLink RX12 35 RX12 "weedsOf" "[I" ∈ gws := tb_5 230 rfl rfl
theorem flX12_38 : Cond.fieldLink RX12 38 RX12 "needOf" "[I" ∈ gws := tb_5 231 rfl rfl
theorem flX12_41 : Cond.fieldLink RX12 41 RX12 "fieldOf" "[I" ∈ gws := tb_5 232 rfl rfl
theorem flX12_44 : Cond.fieldLink RX12 44 RX12 "turnOf" "[I" ∈ gws := tb_5 233 rfl rfl
theorem flX12_145 : Cond.fieldLink RX12 145 RX12 "splices" "I" ∈ gws := tb_5 234 rfl rfl
theorem flX12_47 : Cond.fieldLink RX12 47 RX12 "wearOf" "[I" ∈ gws := tb_5 235 rfl rfl
theorem flX12_50 : Cond.fieldLink RX12 50 RX12 "priceOf" "[I" ∈ gws := tb_5 236 rfl rfl
theorem flX12_148 : Cond.fieldLink RX12 148 RX12 "absences" "I" ∈ gws := tb_5 237 rfl rfl
theorem flX12_53 : Cond.fieldLink RX12 53 RX12 "absentFarm" "[I" ∈ gws := tb_5 238 rfl rfl
theorem flX12_56 : Cond.fieldLink RX12 56 RX12 "absentDay" "[I" ∈ gws := tb_5 239 rfl rfl
theorem flX12_59 : Cond.fieldLink RX12 59 RX12 "absentBy" "[I" ∈ gws := tb_6 0 rfl rfl
theorem flX12_62 : Cond.fieldLink RX12 62 RX12 "foesOf" "[I" ∈ gws := tb_6 1 rfl rfl
theorem flX12_151 : Cond.fieldLink RX12 151 RX12 "logs" "I" ∈ gws := tb_6 2 rfl rfl
theorem flX12_65 : Cond.fieldLink RX12 65 RX12 "logFarm" "[I" ∈ gws := tb_6 3 rfl rfl
theorem flX12_68 : Cond.fieldLink RX12 68 RX12 "logSteps" "[I" ∈ gws := tb_6 4 rfl rfl
theorem flX12_154 : Cond.fieldLink RX12 154 RX12 "frost" "I" ∈ gws := tb_6 5 rfl rfl
theorem flX12_157 : Cond.fieldLink RX12 157 RX12 "cold" "I" ∈ gws := tb_6 6 rfl rfl
theorem flX12_71 : Cond.fieldLink RX12 71 RX12 "tape" "[I" ∈ gws := tb_6 7 rfl rfl
theorem flX12_177 : Cond.fieldLink RX12 177 RX12 "taped" "I" ∈ gws := tb_6 8 rfl rfl
theorem flX12_183 : Cond.fieldLink RX12 183 RX12 "spot" "I" ∈ gws := tb_6 9 rfl rfl
theorem flX12_190 : Cond.fieldLink RX12 190 RX12 "from" "I" ∈ gws := tb_6 10 rfl rfl
theorem flX12_193 : Cond.fieldLink RX12 193 RX12 "token" "I" ∈ gws := tb_6 11 rfl rfl
theorem flX12_196 : Cond.fieldLink RX12 196 RX12 "value" "I" ∈ gws := tb_6 12 rfl rfl
theorem flX12_74 : Cond.fieldLink RX12 74 RX12 "words" "[I" ∈ gws := tb_6 13 rfl rfl
theorem flX12_160 : Cond.fieldLink RX12 160 RX12 "lineMany" "I" ∈ gws := tb_6 14 rfl rfl
theorem flX12_77 : Cond.fieldLink RX12 77 RX12 "lineWhen" "[I" ∈ gws := tb_6 15 rfl rfl
theorem flX12_80 : Cond.fieldLink RX12 80 RX12 "lineFrom" "[I" ∈ gws := tb_6 16 rfl rfl
theorem flX12_83 : Cond.fieldLink RX12 83 RX12 "lineTo" "[I" ∈ gws := tb_6 17 rfl rfl
theorem flX12_86 : Cond.fieldLink RX12 86 RX12 "op" "[I" ∈ gws := tb_6 18 rfl rfl
theorem flX12_89 : Cond.fieldLink RX12 89 RX12 "arg" "[I" ∈ gws := tb_6 19 rfl rfl
theorem flX12_218 : Cond.fieldLink RX12 218 RX12 "codes" "I" ∈ gws := tb_6 20 rfl rfl
theorem flX12_246 : Cond.fieldLink RX12 246 RX12 "open" "I" ∈ gws := tb_6 21 rfl rfl
theorem flX12_92 : Cond.fieldLink RX12 92 RX12 "pending" "[I" ∈ gws := tb_6 22 rfl rfl
theorem flX12_243 : Cond.fieldLink RX12 243 RX12 "pendings" "I" ∈ gws := tb_6 23 rfl rfl
theorem flX12_212 : Cond.fieldLink RX12 212 RX12 "readFault" "I" ∈ gws := tb_6 24 rfl rfl
theorem flX12_215 : Cond.fieldLink RX12 215 RX12 "readPlace" "I" ∈ gws := tb_6 25 rfl rfl
theorem flX12_264 : Cond.fieldLink RX12 264 RX12 "faultKind" "I" ∈ gws := tb_6 26 rfl rfl
theorem flX12_95 : Cond.fieldLink RX12 95 RX12 "faultPlace" "I" ∈ gws := tb_6 27 rfl rfl
theorem flX12_98 : Cond.fieldLink RX12 98 RX12 "asked" "[I" ∈ gws := tb_6 28 rfl rfl
theorem flX12_101 : Cond.fieldLink RX12 101 RX12 "stack" "[I" ∈ gws := tb_6 29 rfl rfl
theorem flX12_104 : Cond.fieldLink RX12 104 RX12 "weights" "[I" ∈ gws := tb_6 30 rfl rfl
theorem flX12_107 : Cond.fieldLink RX12 107 RX12 "rests" "[J" ∈ gws := tb_6 31 rfl rfl
theorem flX12_111 : Cond.fieldLink RX12 111 RX12 "sums" "[I" ∈ gws := tb_6 32 rfl rfl
theorem flX12_114 : Cond.fieldLink RX12 114 RX12 "groups" "[I" ∈ gws := tb_6 33 rfl rfl
theorem flX12_338 : Cond.fieldLink RX12 338 RX12 "bestWay" "I" ∈ gws := tb_6 34 rfl rfl
theorem flX12_341 : Cond.fieldLink RX12 341 RX12 "bestTrough" "I" ∈ gws := tb_6 35 rfl rfl
theorem flX12_365 : Cond.fieldLink RX12 365 RX12 "isTaking" "Z" ∈ gws := tb_6 36 rfl rfl
theorem flX12_372 : Cond.fieldLink RX12 372 RX12 "hasImage" "Z" ∈ gws := tb_6 37 rfl rfl
theorem flX12_362 : Cond.fieldLink RX12 362 RX12 "keptAt" "I" ∈ gws := tb_6 38 rfl rfl
theorem flX12_117 : Cond.fieldLink RX12 117 RX12 "images" "[I" ∈ gws := tb_6 39 rfl rfl
theorem flJ0_9 : Cond.fieldLink RJ0 9 RJ0 "value" "[B" ∈ gws := tb_8 28 rfl rfl
theorem flJ0_15 : Cond.fieldLink RJ0 15 RJ0 "coder" "B" ∈ gws := tb_8 29 rfl rfl
theorem mlL_9 : Cond.methodLink RL 9 yX11_init ∈ gws := tb_1 24 rfl rfl
theorem mlX11_3 : Cond.methodLink RX11 3 objectInit ∈ gws := tb_1 27 rfl rfl
theorem mlX11_11 : Cond.methodLink RX11 11 yX9_init ∈ gws := tb_1 32 rfl rfl
theorem mlX9_3 : Cond.methodLink RX9 3 objectInit ∈ gws := tb_1 35 rfl rfl
theorem mlX3_3 : Cond.methodLink RX3 3 objectInit ∈ gws := tb_1 41 rfl rfl
theorem mlX6_3 : Cond.methodLink RX6 3 objectInit ∈ gws := tb_1 137 rfl rfl
theorem mlX0_5 : Cond.methodLink RX0 5 objectInit ∈ gws := tb_1 181 rfl rfl
theorem mlX7_3 : Cond.methodLink RX7 3 objectInit ∈ gws := tb_1 214 rfl rfl
theorem mlX1_1 : Cond.methodLink RX1 1 objectInit ∈ gws := tb_1 238 rfl rfl
theorem lnX9_53 : LV RX9 53 RX9 yX9_beginWith cX9_beginWith 2 none 1 := ⟨tb_2 16 rfl rfl, insX9_beginWith, selX9_beginWith, iniX9, cdX9_beginWith, rfl, by decide, by decide, by decide +kernel⟩
theorem lnX9_57 : LV RX9 57 RX3 yX3_clearAllButDraws cX3_clearAllButDraws 1 none 0 := ⟨tb_2 20 rfl rfl, insX3_clearAllButDraws, selX3_clearAllButDraws, iniX3, cdX3_clearAllButDraws, rfl, by decide, by decide, by decide +kernel⟩
theorem lnX3_67 : LS9 RX3 67 yJ7_fill_53178 cJ7_fill_53178 4 none 2 := ⟨tb_2 24 rfl rfl, staJ7_fill_53178, iniJ7, cdJ7_fill_53178, by decide, by decide, by decide +kernel⟩
theorem lnX3_73 : LV RX3 73 RX3 yX3_forgetToday cX3_forgetToday 1 none 0 := ⟨tb_2 27 rfl rfl, insX3_forgetToday, selX3_forgetToday, iniX3, cdX3_forgetToday, rfl, by decide, by decide, by decide +kernel⟩
theorem lnX9_60 : LV RX9 60 RX6 yX6_beginWith cX6_beginWith 2 none 1 := ⟨tb_2 31 rfl rfl, insX6_beginWith, selX6_beginWith, iniX6, cdX6_beginWith, rfl, by decide, by decide, by decide +kernel⟩
theorem lnX6_40 : LS9 RX6 40 yJ7_fill_53178 cJ7_fill_53178 4 none 2 := ⟨tb_2 35 rfl rfl, staJ7_fill_53178, iniJ7, cdJ7_fill_53178, by decide, by decide, by decide +kernel⟩
theorem lnX9_61 : LV RX9 61 RX0 yX0_begin cX0_begin 2 none 0 := ⟨tb_2 36 rfl rfl, insX0_begin, selX0_begin, iniX0, cdX0_begin, rfl, by decide, by decide, by decide +kernel⟩
theorem lnX0_30 : LS9 RX0 30 yJ7_fill_53178 cJ7_fill_53178 4 none 2 := ⟨tb_2 40 rfl rfl, staJ7_fill_53178, iniJ7, cdJ7_fill_53178, by decide, by decide, by decide +kernel⟩
theorem lnX9_64 : LV RX9 64 RX7 yX7_begin cX7_begin 1 none 0 := ⟨tb_2 41 rfl rfl, insX7_begin, selX7_begin, iniX7, cdX7_begin, rfl, by decide, by decide, by decide +kernel⟩
theorem lnX7_24 : LS9 RX7 24 yJ7_fill_53178 cJ7_fill_53178 4 none 2 := ⟨tb_2 45 rfl rfl, staJ7_fill_53178, iniJ7, cdJ7_fill_53178, by decide, by decide, by decide +kernel⟩
theorem lnX9_65 : LV RX9 65 RX1 yX1_begin cX1_begin 1 none 0 := ⟨tb_2 46 rfl rfl, insX1_begin, selX1_begin, iniX1, cdX1_begin, rfl, by decide, by decide, by decide +kernel⟩
theorem mlX11_25 : Cond.methodLink RX11 25 yX4_init ∈ gws := tb_2 90 rfl rfl
theorem mlX4_1 : Cond.methodLink RX4 1 objectInit ∈ gws := tb_2 93 rfl rfl
theorem mlX5_3 : Cond.methodLink RX5 3 objectInit ∈ gws := tb_2 113 rfl rfl
theorem mlX8_1 : Cond.methodLink RX8 1 objectInit ∈ gws := tb_2 119 rfl rfl
theorem mlX10_3 : Cond.methodLink RX10 3 objectInit ∈ gws := tb_2 179 rfl rfl
theorem mlX2_3 : Cond.methodLink RX2 3 objectInit ∈ gws := tb_2 206 rfl rfl
theorem lnL_13 : LV RL 13 RX11 yX11_state cX11_state 3 (some .int) 1 := ⟨tb_2 239 rfl rfl, insX11_state, selX11_state, iniX11, cdX11_state, rfl, by decide, by decide, by decide +kernel⟩
theorem lnX11_61 : LV RX11 61 RX4 yX4_tellDraws cX4_tellDraws 3 none 1 := ⟨tb_3 3 rfl rfl, insX4_tellDraws, selX4_tellDraws, iniX4, cdX4_tellDraws, rfl, by decide, by decide, by decide +kernel⟩
theorem lnL_18 : LV RL 18 RX11 yX11_notches cX11_notches 2 (some .boolean) 1 := ⟨tb_3 7 rfl rfl, insX11_notches, selX11_notches, iniX11, cdX11_notches, rfl, by decide, by decide, by decide +kernel⟩
theorem lnX11_65 : LS9 RX11 65 yX11_isWithin cX11_isWithin 3 (some .boolean) 3 := ⟨tb_3 11 rfl rfl, staX11_isWithin, iniX11, cdX11_isWithin, by decide, by decide, by decide +kernel⟩
theorem lnX11_69 : LV RX11 69 RX9 yX9_beginWith cX9_beginWith 2 none 1 := ⟨tb_3 14 rfl rfl, insX9_beginWith, selX9_beginWith, iniX9, cdX9_beginWith, rfl, by decide, by decide, by decide +kernel⟩
theorem lnX11_72 : LV RX11 72 RX4 yX4_forget cX4_forget 1 none 0 := ⟨tb_3 15 rfl rfl, insX4_forget, selX4_forget, iniX4, cdX4_forget, rfl, by decide, by decide, by decide +kernel⟩
theorem lnL_23 : LV RL 23 RX11 yX11_bucket cX11_bucket 4 (some .int) 3 := ⟨tb_3 19 rfl rfl, insX11_bucket, selX11_bucket, iniX11, cdX11_bucket, rfl, by decide, by decide, by decide +kernel⟩
theorem lnX11_79 : LV RX11 79 RX6 yX6_hangBucket cX6_hangBucket 4 (some .int) 3 := ⟨tb_3 23 rfl rfl, insX6_hangBucket, selX6_hangBucket, iniX6, cdX6_hangBucket, rfl, by decide, by decide, by decide +kernel⟩
theorem lnX6_56 : LV RX6 56 RX6 yX6_isTaken cX6_isTaken 3 (some .boolean) 1 := ⟨tb_3 28 rfl rfl, insX6_isTaken, selX6_isTaken, iniX6, cdX6_isTaken, rfl, by decide, by decide, by decide +kernel⟩
theorem lnX11_85 : LV RX11 85 RX11 yX11_forgetIfNumbered cX11_forgetIfNumbered 2 (some .int) 1 := ⟨tb_3 32 rfl rfl, insX11_forgetIfNumbered, selX11_forgetIfNumbered, iniX11, cdX11_forgetIfNumbered, rfl, by decide, by decide, by decide +kernel⟩
theorem lnX11_102 : LV RX11 102 RX11 yX11_forgetIf cX11_forgetIf 2 (some .boolean) 1 := ⟨tb_3 36 rfl rfl, insX11_forgetIf, selX11_forgetIf, iniX11, cdX11_forgetIf, rfl, by decide, by decide, by decide +kernel⟩
theorem lnL_28 : LV RL 28 RX11 yX11_farm cX11_farm 5 (some .int) 4 := ⟨tb_3 40 rfl rfl, insX11_farm, selX11_farm, iniX11, cdX11_farm, rfl, by decide, by decide, by decide +kernel⟩
theorem lnX11_93 : LV RX11 93 RX0 yX0_settle cX0_settle 5 (some .int) 4 := ⟨tb_3 44 rfl rfl, insX0_settle, selX0_settle, iniX0, cdX0_settle, rfl, by decide, by decide, by decide +kernel⟩
theorem lnX0_56 : LS9 RX0 56 yX0_isFit cX0_isFit 2 (some .boolean) 2 := ⟨tb_3 48 rfl rfl, staX0_isFit, iniX0, cdX0_isFit, by decide, by decide, by decide +kernel⟩
theorem lnL_33 : LV RL 33 RX11 yX11_tell cX11_tell 4 (some .boolean) 3 := ⟨tb_3 54 rfl rfl, insX11_tell, selX11_tell, iniX11, cdX11_tell, rfl, by decide, by decide, by decide +kernel⟩
theorem lnX11_99 : LV RX11 99 RX9 yX9_learn cX9_learn 4 (some .boolean) 3 := ⟨tb_3 58 rfl rfl, insX9_learn, selX9_learn, iniX9, cdX9_learn, rfl, by decide, by decide, by decide +kernel⟩
theorem lnX9_89 : LV RX9 89 RX0 yX0_learnTrait cX0_learnTrait 4 (some .boolean) 3 := ⟨tb_3 62 rfl rfl, insX0_learnTrait, selX0_learnTrait, iniX0, cdX0_learnTrait, rfl, by decide, by decide, by decide +kernel⟩
theorem lnX0_49 : LV RX0 49 RX0 yX0_has cX0_has 2 (some .boolean) 1 := ⟨tb_3 66 rfl rfl, insX0_has, selX0_has, iniX0, cdX0_has, rfl, by decide, by decide, by decide +kernel⟩
theorem lnX9_93 : LV RX9 93 RX9 yX9_learnHole cX9_learnHole 3 (some .boolean) 2 := ⟨tb_3 70 rfl rfl, insX9_learnHole, selX9_learnHole, iniX9, cdX9_learnHole, rfl, by decide, by decide, by decide +kernel⟩
theorem lnX9_110 : LV RX9 110 RX6 yX6_hasBucket cX6_hasBucket 2 (some .boolean) 1 := ⟨tb_3 74 rfl rfl, insX6_hasBucket, selX6_hasBucket, iniX6, cdX6_hasBucket, rfl, by decide, by decide, by decide +kernel⟩
theorem lnX9_97 : LV RX9 97 RX9 yX9_learnField cX9_learnField 3 (some .boolean) 2 := ⟨tb_3 79 rfl rfl, insX9_learnField, selX9_learnField, iniX9, cdX9_learnField, rfl, by decide, by decide, by decide +kernel⟩
theorem lnX9_119 : LV RX9 119 RX6 yX6_isOverLand cX6_isOverLand 2 (some .boolean) 1 := ⟨tb_3 83 rfl rfl, insX6_isOverLand, selX6_isOverLand, iniX6, cdX6_isOverLand, rfl, by decide, by decide, by decide +kernel⟩
theorem lnX9_122 : LV RX9 122 RX0 yX0_has cX0_has 2 (some .boolean) 1 := ⟨tb_3 87 rfl rfl, insX0_has, selX0_has, iniX0, cdX0_has, rfl, by decide, by decide, by decide +kernel⟩
theorem lnX9_100 : LV RX9 100 RX9 yX9_learnLake cX9_learnLake 2 (some .boolean) 1 := ⟨tb_3 88 rfl rfl, insX9_learnLake, selX9_learnLake, iniX9, cdX9_learnLake, rfl, by decide, by decide, by decide +kernel⟩
theorem lnX9_129 : LV RX9 129 RX3 yX3_allDrops cX3_allDrops 3 (some .int) 0 := ⟨tb_3 93 rfl rfl, insX3_allDrops, selX3_allDrops, iniX3, cdX3_allDrops, rfl, by decide, by decide, by decide +kernel⟩
theorem lnX9_104 : LV RX9 104 RX9 yX9_learnFrost cX9_learnFrost 2 (some .boolean) 1 := ⟨tb_3 98 rfl rfl, insX9_learnFrost, selX9_learnFrost, iniX9, cdX9_learnFrost, rfl, by decide, by decide, by decide +kernel⟩
theorem lnX9_107 : LV RX9 107 RX9 yX9_learnCold cX9_learnCold 2 (some .boolean) 1 := ⟨tb_3 102 rfl rfl, insX9_learnCold, selX9_learnCold, iniX9, cdX9_learnCold, rfl, by decide, by decide, by decide +kernel⟩
theorem lnL_38 : LV RL 38 RX11 yX11_turn cX11_turn 3 (some .boolean) 2 := ⟨tb_3 106 rfl rfl, insX11_turn, selX11_turn, iniX11, cdX11_turn, rfl, by decide, by decide, by decide +kernel⟩
theorem lnX11_106 : LV RX11 106 RX0 yX0_has cX0_has 2 (some .boolean) 1 := ⟨tb_3 110 rfl rfl, insX0_has, selX0_has, iniX0, cdX0_has, rfl, by decide, by decide, by decide +kernel⟩
theorem lnL_43 : LV RL 43 RX11 yX11_absent cX11_absent 4 (some .boolean) 3 := ⟨tb_3 111 rfl rfl, insX11_absent, selX11_absent, iniX11, cdX11_absent, rfl, by decide, by decide, by decide +kernel⟩
theorem lnX11_120 : LV RX11 120 RX0 yX0_areTwo cX0_areTwo 3 (some .boolean) 2 := ⟨tb_3 115 rfl rfl, insX0_areTwo, selX0_areTwo, iniX0, cdX0_areTwo, rfl, by decide, by decide, by decide +kernel⟩
theorem lnX11_124 : LV RX11 124 RX7 yX7_excuse cX7_excuse 4 (some .boolean) 3 := ⟨tb_3 119 rfl rfl, insX7_excuse, selX7_excuse, iniX7, cdX7_excuse, rfl, by decide, by decide, by decide +kernel⟩
theorem lnX7_40 : LV RX7 40 RX7 yX7_isBound cX7_isBound 4 (some .boolean) 2 := ⟨tb_3 123 rfl rfl, insX7_isBound, selX7_isBound, iniX7, cdX7_isBound, rfl, by decide, by decide, by decide +kernel⟩
theorem lnL_47 : LV RL 47 RX11 yX11_splice cX11_splice 5 (some .int) 3 := ⟨tb_3 127 rfl rfl, insX11_splice, selX11_splice, iniX11, cdX11_splice, rfl, by decide, by decide, by decide +kernel⟩
theorem lnX11_128 : LV RX11 128 RX6 yX6_addSplice cX6_addSplice 3 (some .int) 2 := ⟨tb_3 132 rfl rfl, insX6_addSplice, selX6_addSplice, iniX6, cdX6_addSplice, rfl, by decide, by decide, by decide +kernel⟩
theorem lnL_51 : LV RL 51 RX11 yX11_mend cX11_mend 3 (some .boolean) 2 := ⟨tb_3 136 rfl rfl, insX11_mend, selX11_mend, iniX11, cdX11_mend, rfl, by decide, by decide, by decide +kernel⟩
theorem lnX11_135 : LV RX11 135 RX6 yX6_hasSplice cX6_hasSplice 2 (some .boolean) 1 := ⟨tb_3 140 rfl rfl, insX6_hasSplice, selX6_hasSplice, iniX6, cdX6_hasSplice, rfl, by decide, by decide, by decide +kernel⟩
theorem lnL_55 : LV RL 55 RX11 yX11_foes cX11_foes 4 (some .boolean) 3 := ⟨tb_3 144 rfl rfl, insX11_foes, selX11_foes, iniX11, cdX11_foes, rfl, by decide, by decide, by decide +kernel⟩
theorem lnX11_138 : LV RX11 138 RX0 yX0_setFoes cX0_setFoes 6 none 3 := ⟨tb_3 148 rfl rfl, insX0_setFoes, selX0_setFoes, iniX0, cdX0_setFoes, rfl, by decide, by decide, by decide +kernel⟩
theorem lnL_60 : LV RL 60 RX11 yX11_feed cX11_feed 7 (some .int) 5 := ⟨tb_3 152 rfl rfl, insX11_feed, selX11_feed, iniX11, cdX11_feed, rfl, by decide, by decide, by decide +kernel⟩
theorem lnX11_146 : LV RX11 146 RX8 yX8_hasRoom cX8_hasRoom 1 (some .boolean) 0 := ⟨tb_3 156 rfl rfl, insX8_hasRoom, selX8_hasRoom, iniX8, cdX8_hasRoom, rfl, by decide, by decide, by decide +kernel⟩
theorem lnX11_152 : LV RX11 152 RX8 yX8_add cX8_add 3 none 1 := ⟨tb_3 160 rfl rfl, insX8_add, selX8_add, iniX8, cdX8_add, rfl, by decide, by decide, by decide +kernel⟩
theorem lnL_65 : LV RL 65 RX11 yX11_end cX11_end 2 (some .boolean) 1 := ⟨tb_3 164 rfl rfl, insX11_end, selX11_end, iniX11, cdX11_end, rfl, by decide, by decide, by decide +kernel⟩
theorem lnL_69 : LV RL 69 RX11 yX11_text cX11_text 1 (some .int) 0 := ⟨tb_3 168 rfl rfl, insX11_text, selX11_text, iniX11, cdX11_text, rfl, by decide, by decide, by decide +kernel⟩
theorem lnX11_158 : LV RX11 158 RX5 yX5_read cX5_read 2 none 0 := ⟨tb_3 172 rfl rfl, insX5_read, selX5_read, iniX5, cdX5_read, rfl, by decide, by decide, by decide +kernel⟩
theorem lnX5_26 : LV RX5 26 RX8 yX8_scan cX8_scan 3 none 0 := ⟨tb_3 176 rfl rfl, insX8_scan, selX8_scan, iniX8, cdX8_scan, rfl, by decide, by decide, by decide +kernel⟩
theorem lnX8_41 : LV RX8 41 RX8 yX8_signAt cX8_signAt 2 (some .int) 1 := ⟨tb_3 180 rfl rfl, insX8_signAt, selX8_signAt, iniX8, cdX8_signAt, rfl, by decide, by decide, by decide +kernel⟩
theorem mlX8_23 : Cond.methodLink RX8 23 Lib.Math.min.name ∈ gws := tb_3 184 rfl rfl
theorem lnX8_45 : LV RX8 45 RX8 yX8_scanToken cX8_scanToken 2 (some .int) 1 := ⟨tb_3 188 rfl rfl, insX8_scanToken, selX8_scanToken, iniX8, cdX8_scanToken, rfl, by decide, by decide, by decide +kernel⟩
theorem lnX8_48 : LS9 RX8 48 yX8_isLetter cX8_isLetter 1 (some .boolean) 1 := ⟨tb_3 192 rfl rfl, staX8_isLetter, iniX8, cdX8_isLetter, by decide, by decide, by decide +kernel⟩
theorem lnX8_52 : LV RX8 52 RX8 yX8_scanWord cX8_scanWord 5 (some .int) 0 := ⟨tb_3 195 rfl rfl, insX8_scanWord, selX8_scanWord, iniX8, cdX8_scanWord, rfl, by decide, by decide, by decide +kernel⟩
theorem lnX8_71 : LV RX8 71 RJ0 yJ0_length_8abf5 cJ0_length_8abf5 1 (some .int) 0 := ⟨tb_3 200 rfl rfl, insJ0_length_8abf5, selJ0_length_8abf5, iniJ0, cdJ0_length_8abf5, rfl, by decide, by decide, by decide +kernel⟩
theorem lnJ0_335 : LV RJ0 335 RJ0 yJ0_coder_7d493 cJ0_coder_7d493 1 (some .byte) 0 := ⟨tb_3 204 rfl rfl, insJ0_coder_7d493, selJ0_coder_7d493, iniJ0, cdJ0_coder_7d493, rfl, by decide, by decide, by decide +kernel⟩
theorem lnX8_73 : LV RX8 73 RJ0 yJ0_charAt_5068e cJ0_charAt_5068e 2 (some .char) 1 := ⟨tb_3 210 rfl rfl, insJ0_charAt_5068e, selJ0_charAt_5068e, iniJ0, cdJ0_charAt_5068e, rfl, by decide, by decide, by decide +kernel⟩
theorem lnJ0_492 : LV RJ0 492 RJ0 yJ0_isLatin1_aae02 cJ0_isLatin1_aae02 1 (some .boolean) 0 := ⟨tb_3 214 rfl rfl, insJ0_isLatin1_aae02, selJ0_isLatin1_aae02, iniJ0, cdJ0_isLatin1_aae02, rfl, by decide, by decide, by decide +kernel⟩
theorem lnJ0_495 : LS9 RJ0 495 yJ1_charAt_3b067 cJ1_charAt_3b067 2 (some .char) 2 := ⟨tb_3 218 rfl rfl, staJ1_charAt_3b067, iniJ1, cdJ1_charAt_3b067, by decide, by decide, by decide +kernel⟩
theorem lnJ1_9 : LS9 RJ1 9 yJ0_checkIndex_df160 cJ0_checkIndex_df160 2 none 2 := ⟨tb_3 221 rfl rfl, staJ0_checkIndex_df160, iniJ0, cdJ0_checkIndex_df160, by decide, by decide, by decide +kernel⟩
theorem lnJ0_1059 : LS9 RJ0 1059 yJ3_checkIndex_8e157 cJ3_checkIndex_8e157 3 (some .int) 3 := ⟨tb_3 226 rfl rfl, staJ3_checkIndex_8e157, iniJ3, cdJ3_checkIndex_8e157, by decide, by decide, by decide +kernel⟩
theorem lnJ0_498 : LS9 RJ0 498 yJ2_charAt_3b067 cJ2_charAt_3b067 2 (some .char) 2 := ⟨tb_3 229 rfl rfl, staJ2_charAt_3b067, iniJ2, cdJ2_charAt_3b067, by decide, by decide, by decide +kernel⟩
theorem lnJ2_67 : LS9 RJ2 67 yJ2_checkIndex_2214a cJ2_checkIndex_2214a 2 none 2 := ⟨tb_3 232 rfl rfl, staJ2_checkIndex_2214a, iniJ2, cdJ2_checkIndex_2214a, by decide, by decide, by decide +kernel⟩
theorem lnJ2_48 : LS9 RJ2 48 yJ2_length_9d52b cJ2_length_9d52b 1 (some .int) 1 := ⟨tb_3 235 rfl rfl, staJ2_length_9d52b, iniJ2, cdJ2_length_9d52b, by decide, by decide, by decide +kernel⟩
theorem lnJ2_414 : LS9 RJ2 414 yJ0_checkIndex_df160 cJ0_checkIndex_df160 2 none 2 := ⟨tb_3 238 rfl rfl, staJ0_checkIndex_df160, iniJ0, cdJ0_checkIndex_df160, by decide, by decide, by decide +kernel⟩
theorem lnJ2_71 : LS9 RJ2 71 yJ2_getChar_3b067 cJ2_getChar_3b067 2 (some .char) 2 := ⟨tb_3 239 rfl rfl, staJ2_getChar_3b067, iniJ2, cdJ2_getChar_3b067, by decide, by decide, by decide +kernel⟩
theorem lnX8_77 : LV RX8 77 RX8 yX8_isWordAt cX8_isWordAt 5 (some .boolean) 3 := ⟨tb_4 8 rfl rfl, insX8_isWordAt, selX8_isWordAt, iniX8, cdX8_isWordAt, rfl, by decide, by decide, by decide +kernel⟩
theorem lnX8_56 : LS9 RX8 56 yX8_isDigit cX8_isDigit 1 (some .boolean) 1 := ⟨tb_4 12 rfl rfl, staX8_isDigit, iniX8, cdX8_isDigit, by decide, by decide, by decide +kernel⟩
theorem lnX8_59 : LV RX8 59 RX8 yX8_scanNumber cX8_scanNumber 3 (some .int) 0 := ⟨tb_4 15 rfl rfl, insX8_scanNumber, selX8_scanNumber, iniX8, cdX8_scanNumber, rfl, by decide, by decide, by decide +kernel⟩
theorem lnX8_64 : LV RX8 64 RJ0 yJ0_indexOf_0f7a4 cJ0_indexOf_0f7a4 2 (some .int) 1 := ⟨tb_4 20 rfl rfl, insJ0_indexOf_0f7a4, selJ0_indexOf_0f7a4, iniJ0, cdJ0_indexOf_0f7a4, rfl, by decide, by decide, by decide +kernel⟩
theorem lnJ0_633 : LV RJ0 633 RJ0 yJ0_indexOf_7cf53 cJ0_indexOf_7cf53 3 (some .int) 2 := ⟨tb_4 24 rfl rfl, insJ0_indexOf_7cf53, selJ0_indexOf_7cf53, iniJ0, cdJ0_indexOf_7cf53, rfl, by decide, by decide, by decide +kernel⟩
theorem lnJ0_505 : LV RJ0 505 RJ0 yJ0_length_8abf5 cJ0_length_8abf5 1 (some .int) 0 := ⟨tb_4 28 rfl rfl, insJ0_length_8abf5, selJ0_length_8abf5, iniJ0, cdJ0_length_8abf5, rfl, by decide, by decide, by decide +kernel⟩
theorem lnJ0_637 : LS9 RJ0 637 yJ1_indexOf_4cfef cJ1_indexOf_4cfef 4 (some .int) 4 := ⟨tb_4 29 rfl rfl, staJ1_indexOf_4cfef, iniJ1, cdJ1_indexOf_4cfef, by decide, by decide, by decide +kernel⟩
theorem lnJ1_88 : LS9 RJ1 88 yJ1_canEncode_9a6ad cJ1_canEncode_9a6ad 1 (some .boolean) 1 := ⟨tb_4 32 rfl rfl, staJ1_canEncode_9a6ad, iniJ1, cdJ1_canEncode_9a6ad, by decide, by decide, by decide +kernel⟩
theorem mlJ1_92 : Cond.methodLink RJ1 92 Lib.Math.max.name ∈ gws := tb_4 35 rfl rfl
theorem mlJ1_38 : Cond.methodLink RJ1 38 Lib.Math.min.name ∈ gws := tb_4 38 rfl rfl
theorem lnJ1_95 : LS9 RJ1 95 yJ1_indexOfChar_4cfef cJ1_indexOfChar_4cfef 6 (some .int) 4 := ⟨tb_4 39 rfl rfl, staJ1_indexOfChar_4cfef, iniJ1, cdJ1_indexOfChar_4cfef, by decide, by decide, by decide +kernel⟩
theorem lnJ0_640 : LS9 RJ0 640 yJ2_indexOf_4cfef cJ2_indexOf_4cfef 4 (some .int) 4 := ⟨tb_4 42 rfl rfl, staJ2_indexOf_4cfef, iniJ2, cdJ2_indexOf_4cfef, by decide, by decide, by decide +kernel⟩
theorem mlJ2_224 : Cond.methodLink RJ2 224 Lib.Math.max.name ∈ gws := tb_4 45 rfl rfl
theorem mlJ2_183 : Cond.methodLink RJ2 183 Lib.Math.min.name ∈ gws := tb_4 46 rfl rfl
theorem lnJ2_228 : LS9 RJ2 228 yJ2_indexOfChar_4cfef cJ2_indexOfChar_4cfef 4 (some .int) 4 := ⟨tb_4 48 rfl rfl, staJ2_indexOfChar_4cfef, iniJ2, cdJ2_indexOfChar_4cfef, by decide, by decide, by decide +kernel⟩
theorem lnJ2_96 : LS9 RJ2 96 yJ2_checkBoundsBeginEnd_d044e cJ2_checkBoundsBeginEnd_d044e 3 none 3 := ⟨tb_4 51 rfl rfl, staJ2_checkBoundsBeginEnd_d044e, iniJ2, cdJ2_checkBoundsBeginEnd_d044e, by decide, by decide, by decide +kernel⟩
theorem lnJ2_241 : LS9 RJ2 241 yJ0_checkBoundsBeginEnd_23922 cJ0_checkBoundsBeginEnd_23922 3 none 3 := ⟨tb_4 54 rfl rfl, staJ0_checkBoundsBeginEnd_23922, iniJ0, cdJ0_checkBoundsBeginEnd_23922, by decide, by decide, by decide +kernel⟩
theorem lnJ0_1062 : LS9 RJ0 1062 yJ3_checkFromToIndex_8c36e cJ3_checkFromToIndex_8c36e 4 (some .int) 4 := ⟨tb_4 57 rfl rfl, staJ3_checkFromToIndex_8c36e, iniJ3, cdJ3_checkFromToIndex_8c36e, by decide, by decide, by decide +kernel⟩
theorem lnJ2_244 : LS9 RJ2 244 yJ2_indexOfCharUnsafe_4cfef cJ2_indexOfCharUnsafe_4cfef 5 (some .int) 4 := ⟨tb_4 60 rfl rfl, staJ2_indexOfCharUnsafe_4cfef, iniJ2, cdJ2_indexOfCharUnsafe_4cfef, by decide, by decide, by decide +kernel⟩
theorem lnJ2_232 : LS9 RJ2 232 yJ2_indexOfSupplementary_4cfef cJ2_indexOfSupplementary_4cfef 7 (some .int) 4 := ⟨tb_4 63 rfl rfl, staJ2_indexOfSupplementary_4cfef, iniJ2, cdJ2_indexOfSupplementary_4cfef, by decide, by decide, by decide +kernel⟩
theorem lnJ2_164 : LS9 RJ2 164 yJ11_isValidCodePoint_9a6ad cJ11_isValidCodePoint_9a6ad 2 (some .boolean) 1 := ⟨tb_4 66 rfl rfl, staJ11_isValidCodePoint_9a6ad, iniJ11, cdJ11_isValidCodePoint_9a6ad, by decide, by decide, by decide +kernel⟩
theorem lnJ2_157 : LS9 RJ2 157 yJ11_highSurrogate_5068e cJ11_highSurrogate_5068e 1 (some .char) 1 := ⟨tb_4 69 rfl rfl, staJ11_highSurrogate_5068e, iniJ11, cdJ11_highSurrogate_5068e, by decide, by decide, by decide +kernel⟩
theorem lnJ2_161 : LS9 RJ2 161 yJ11_lowSurrogate_5068e cJ11_lowSurrogate_5068e 1 (some .char) 1 := ⟨tb_4 73 rfl rfl, staJ11_lowSurrogate_5068e, iniJ11, cdJ11_lowSurrogate_5068e, by decide, by decide, by decide +kernel⟩
theorem lnX5_46 : LV RX5 46 RX5 yX5_readLine cX5_readLine 1 none 0 := ⟨tb_4 77 rfl rfl, insX5_readLine, selX5_readLine, iniX5, cdX5_readLine, rfl, by decide, by decide, by decide +kernel⟩
theorem lnX5_59 : LV RX5 59 RX5 yX5_next cX5_next 1 none 0 := ⟨tb_4 81 rfl rfl, insX5_next, selX5_next, iniX5, cdX5_next, rfl, by decide, by decide, by decide +kernel⟩
theorem lnX5_62 : LV RX5 62 RX5 yX5_readSum cX5_readSum 5 none 0 := ⟨tb_4 85 rfl rfl, insX5_readSum, selX5_readSum, iniX5, cdX5_readSum, rfl, by decide, by decide, by decide +kernel⟩
theorem lnX5_74 : LV RX5 74 RX5 yX5_readUnit cX5_readUnit 1 none 0 := ⟨tb_4 89 rfl rfl, insX5_readUnit, selX5_readUnit, iniX5, cdX5_readUnit, rfl, by decide, by decide, by decide +kernel⟩
theorem lnX5_68 : LV RX5 68 RX5 yX5_emit cX5_emit 2 none 1 := ⟨tb_4 94 rfl rfl, insX5_emit, selX5_emit, iniX5, cdX5_emit, rfl, by decide, by decide, by decide +kernel⟩
theorem lnX5_49 : LV RX5 49 RX5 yX5_fail cX5_fail 2 none 1 := ⟨tb_4 98 rfl rfl, insX5_fail, selX5_fail, iniX5, cdX5_fail, rfl, by decide, by decide, by decide +kernel⟩
theorem lnX5_77 : LS9 RX5 77 yX5_isArithmetic cX5_isArithmetic 1 (some .boolean) 1 := ⟨tb_4 102 rfl rfl, staX5_isArithmetic, iniX5, cdX5_isArithmetic, by decide, by decide, by decide +kernel⟩
theorem lnX5_81 : LV RX5 81 RX5 yX5_readDivisor cX5_readDivisor 1 none 0 := ⟨tb_4 105 rfl rfl, insX5_readDivisor, selX5_readDivisor, iniX5, cdX5_readDivisor, rfl, by decide, by decide, by decide +kernel⟩
theorem lnX5_65 : LV RX5 65 RX5 yX5_readAny cX5_readAny 5 none 1 := ⟨tb_4 109 rfl rfl, insX5_readAny, selX5_readAny, iniX5, cdX5_readAny, rfl, by decide, by decide, by decide +kernel⟩
theorem lnX5_88 : LV RX5 88 RX5 yX5_readCondition cX5_readCondition 4 none 1 := ⟨tb_4 113 rfl rfl, insX5_readCondition, selX5_readCondition, iniX5, cdX5_readCondition, rfl, by decide, by decide, by decide +kernel⟩
theorem lnX5_71 : LV RX5 71 RX5 yX5_expect cX5_expect 2 none 1 := ⟨tb_4 117 rfl rfl, insX5_expect, selX5_expect, iniX5, cdX5_expect, rfl, by decide, by decide, by decide +kernel⟩
theorem lnX11_168 : LV RX11 168 RX1 yX1_adopt cX1_adopt 2 none 1 := ⟨tb_4 121 rfl rfl, insX1_adopt, selX1_adopt, iniX1, cdX1_adopt, rfl, by decide, by decide, by decide +kernel⟩
theorem mlX1_25 : Cond.methodLink RX1 25 arraycopyName ∈ gws := tb_4 125 rfl rfl
theorem lnL_74 : LV RL 74 RX11 yX11_fault cX11_fault 2 (some .int) 1 := ⟨tb_4 129 rfl rfl, insX11_fault, selX11_fault, iniX11, cdX11_fault, rfl, by decide, by decide, by decide +kernel⟩
theorem lnL_78 : LV RL 78 RX11 yX11_hours cX11_hours 4 (some .int) 1 := ⟨tb_4 133 rfl rfl, insX11_hours, selX11_hours, iniX11, cdX11_hours, rfl, by decide, by decide, by decide +kernel⟩
theorem lnX11_180 : LV RX11 180 RX9 yX9_hasTimeFor cX9_hasTimeFor 2 (some .boolean) 1 := ⟨tb_4 137 rfl rfl, insX9_hasTimeFor, selX9_hasTimeFor, iniX9, cdX9_hasTimeFor, rfl, by decide, by decide, by decide +kernel⟩
theorem lnX11_183 : LV RX11 183 RX4 yX4_keep cX4_keep 2 none 1 := ⟨tb_4 141 rfl rfl, insX4_keep, selX4_keep, iniX4, cdX4_keep, rfl, by decide, by decide, by decide +kernel⟩
theorem lnX4_29 : LV RX4 29 RX3 yX3_copyFrom cX3_copyFrom 2 none 1 := ⟨tb_4 146 rfl rfl, insX3_copyFrom, selX3_copyFrom, iniX3, cdX3_copyFrom, rfl, by decide, by decide, by decide +kernel⟩
theorem mlX3_61 : Cond.methodLink RX3 61 arraycopyName ∈ gws := tb_4 150 rfl rfl
theorem mlX4_33 : Cond.methodLink RX4 33 Lib.Math.min.name ∈ gws := tb_4 151 rfl rfl
theorem lnX11_187 : LV RX11 187 RX9 yX9_passHour cX9_passHour 2 (some .int) 0 := ⟨tb_4 152 rfl rfl, insX9_passHour, selX9_passHour, iniX9, cdX9_passHour, rfl, by decide, by decide, by decide +kernel⟩
theorem lnX9_147 : LV RX9 147 RX9 yX9_frostNow cX9_frostNow 1 (some .int) 0 := ⟨tb_4 156 rfl rfl, insX9_frostNow, selX9_frostNow, iniX9, cdX9_frostNow, rfl, by decide, by decide, by decide +kernel⟩
theorem lnX9_157 : LV RX9 157 RX3 yX3_draw cX3_draw 2 (some .int) 1 := ⟨tb_4 160 rfl rfl, insX3_draw, selX3_draw, iniX3, cdX3_draw, rfl, by decide, by decide, by decide +kernel⟩
theorem lnX9_150 : LV RX9 150 RX9 yX9_pull cX9_pull 6 (some .int) 1 := ⟨tb_4 166 rfl rfl, insX9_pull, selX9_pull, iniX9, cdX9_pull, rfl, by decide, by decide, by decide +kernel⟩
theorem lnX9_163 : LV RX9 163 RX7 yX7_pullerFor cX7_pullerFor 4 (some .int) 2 := ⟨tb_4 170 rfl rfl, insX7_pullerFor, selX7_pullerFor, iniX7, cdX7_pullerFor, rfl, by decide, by decide, by decide +kernel⟩
theorem lnX9_167 : LV RX9 167 RX6 yX6_stepsItHolds cX6_stepsItHolds 4 (some .int) 1 := ⟨tb_4 174 rfl rfl, insX6_stepsItHolds, selX6_stepsItHolds, iniX6, cdX6_stepsItHolds, rfl, by decide, by decide, by decide +kernel⟩
theorem lnX6_72 : LV RX6 72 RX6 yX6_stepsToBreak cX6_stepsToBreak 4 (some .int) 2 := ⟨tb_4 179 rfl rfl, insX6_stepsToBreak, selX6_stepsToBreak, iniX6, cdX6_stepsToBreak, rfl, by decide, by decide, by decide +kernel⟩
theorem mlX6_76 : Cond.methodLink RX6 76 Lib.Math.min.name ∈ gws := tb_4 183 rfl rfl
theorem lnX9_171 : LV RX9 171 RX0 yX0_stepsAnHour cX0_stepsAnHour 3 (some .int) 2 := ⟨tb_4 184 rfl rfl, insX0_stepsAnHour, selX0_stepsAnHour, iniX0, cdX0_stepsAnHour, rfl, by decide, by decide, by decide +kernel⟩
theorem lnX0_60 : LV RX0 60 RX0 yX0_armsLessWeeds cX0_armsLessWeeds 4 (some .int) 1 := ⟨tb_4 188 rfl rfl, insX0_armsLessWeeds, selX0_armsLessWeeds, iniX0, cdX0_armsLessWeeds, rfl, by decide, by decide, by decide +kernel⟩
theorem mlX0_64 : Cond.methodLink RX0 64 Lib.Math.max.name ∈ gws := tb_4 192 rfl rfl
theorem mlX9_174 : Cond.methodLink RX9 174 Lib.Math.min.name ∈ gws := tb_4 193 rfl rfl
theorem lnX9_179 : LV RX9 179 RX6 yX6_moveOn cX6_moveOn 5 none 2 := ⟨tb_4 194 rfl rfl, insX6_moveOn, selX6_moveOn, iniX6, cdX6_moveOn, rfl, by decide, by decide, by decide +kernel⟩
theorem lnX6_82 : LV RX6 82 RX6 yX6_placeOf cX6_placeOf 4 (some .int) 2 := ⟨tb_4 198 rfl rfl, insX6_placeOf, selX6_placeOf, iniX6, cdX6_placeOf, rfl, by decide, by decide, by decide +kernel⟩
theorem lnX6_85 : LV RX6 85 RX6 yX6_visit cX6_visit 5 none 3 := ⟨tb_4 202 rfl rfl, insX6_visit, selX6_visit, iniX6, cdX6_visit, rfl, by decide, by decide, by decide +kernel⟩
theorem lnX6_107 : LV RX6 107 RX6 yX6_ownerAt cX6_ownerAt 2 (some .int) 1 := ⟨tb_4 206 rfl rfl, insX6_ownerAt, selX6_ownerAt, iniX6, cdX6_ownerAt, rfl, by decide, by decide, by decide +kernel⟩
theorem lnX6_111 : LV RX6 111 RX6 yX6_drip cX6_drip 5 none 4 := ⟨tb_4 210 rfl rfl, insX6_drip, selX6_drip, iniX6, cdX6_drip, rfl, by decide, by decide, by decide +kernel⟩
theorem mlX6_95 : Cond.methodLink RX6 95 Lib.Math.max.name ∈ gws := tb_4 214 rfl rfl
theorem lnX9_154 : LV RX9 154 RX9 yX9_passMidnight cX9_passMidnight 2 none 0 := ⟨tb_4 215 rfl rfl, insX9_passMidnight, selX9_passMidnight, iniX9, cdX9_passMidnight, rfl, by decide, by decide, by decide +kernel⟩
theorem lnX9_192 : LV RX9 192 RX9 yX9_shareTrough cX9_shareTrough 7 none 0 := ⟨tb_4 219 rfl rfl, insX9_shareTrough, selX9_shareTrough, iniX9, cdX9_shareTrough, rfl, by decide, by decide, by decide +kernel⟩
theorem lnX9_143 : LV RX9 143 RX1 yX1_weigh cX1_weigh 8 (some .int) 3 := ⟨tb_4 223 rfl rfl, insX1_weigh, selX1_weigh, iniX1, cdX1_weigh, rfl, by decide, by decide, by decide +kernel⟩
theorem lnX1_45 : LV RX1 45 RX1 yX1_push cX1_push 2 none 1 := ⟨tb_4 227 rfl rfl, insX1_push, selX1_push, iniX1, cdX1_push, rfl, by decide, by decide, by decide +kernel⟩
theorem lnX1_49 : LV RX1 49 RX1 yX1_pop cX1_pop 1 (some .int) 0 := ⟨tb_4 232 rfl rfl, insX1_pop, selX1_pop, iniX1, cdX1_pop, rfl, by decide, by decide, by decide +kernel⟩
theorem lnX1_53 : LS9 RX1 53 yX1_hold cX1_hold 1 (some .int) 1 := ⟨tb_4 236 rfl rfl, staX1_hold, iniX1, cdX1_hold, by decide, by decide, by decide +kernel⟩
theorem mlX1_65 : Cond.methodLink RX1 65 Lib.Math.min.name ∈ gws := tb_4 239 rfl rfl
theorem mlX1_71 : Cond.methodLink RX1 71 Lib.Math.max.name ∈ gws := tb_5 0 rfl rfl
theorem lnX1_57 : LS9 RX1 57 yX1_valueOf cX1_valueOf 4 (some .int) 4 := ⟨tb_5 1 rfl rfl, staX1_valueOf, iniX1, cdX1_valueOf, by decide, by decide, by decide +kernel⟩
theorem lnX1_94 : LV RX1 94 RX3 yX3_debtOf cX3_debtOf 4 (some .int) 1 := ⟨tb_5 4 rfl rfl, insX3_debtOf, selX3_debtOf, iniX3, cdX3_debtOf, rfl, by decide, by decide, by decide +kernel⟩
theorem lnX1_61 : LS9 RX1 61 yX1_join cX1_join 3 (some .int) 3 := ⟨tb_5 8 rfl rfl, staX1_join, iniX1, cdX1_join, by decide, by decide, by decide +kernel⟩
theorem lnX9_210 : LV RX9 210 RX9 yX9_shareRest cX9_shareRest 5 none 1 := ⟨tb_5 11 rfl rfl, insX9_shareRest, selX9_shareRest, iniX9, cdX9_shareRest, rfl, by decide, by decide, by decide +kernel⟩
theorem lnX9_198 : LV RX9 198 RX9 yX9_drink cX9_drink 4 none 1 := ⟨tb_5 15 rfl rfl, insX9_drink, selX9_drink, iniX9, cdX9_drink, rfl, by decide, by decide, by decide +kernel⟩
theorem lnX9_201 : LV RX9 201 RX3 yX3_forgetToday cX3_forgetToday 1 none 0 := ⟨tb_5 19 rfl rfl, insX3_forgetToday, selX3_forgetToday, iniX3, cdX3_forgetToday, rfl, by decide, by decide, by decide +kernel⟩
theorem lnL_82 : LV RL 82 RX11 yX11_of cX11_of 4 (some .int) 2 := ⟨tb_5 20 rfl rfl, insX11_of, selX11_of, iniX11, cdX11_of, rfl, by decide, by decide, by decide +kernel⟩
theorem lnX11_213 : LV RX11 213 RX9 yX9_weightOf cX9_weightOf 2 (some .int) 1 := ⟨tb_5 24 rfl rfl, insX9_weightOf, selX9_weightOf, iniX9, cdX9_weightOf, rfl, by decide, by decide, by decide +kernel⟩
theorem lnX11_216 : LV RX11 216 RX3 yX3_debtOf cX3_debtOf 4 (some .int) 1 := ⟨tb_5 28 rfl rfl, insX3_debtOf, selX3_debtOf, iniX3, cdX3_debtOf, rfl, by decide, by decide, by decide +kernel⟩
theorem lnX11_219 : LV RX11 219 RX3 yX3_creditOf cX3_creditOf 4 (some .int) 1 := ⟨tb_5 29 rfl rfl, insX3_creditOf, selX3_creditOf, iniX3, cdX3_creditOf, rfl, by decide, by decide, by decide +kernel⟩
theorem lnL_87 : LV RL 87 RX11 yX11_pail cX11_pail 4 (some .int) 2 := ⟨tb_5 33 rfl rfl, insX11_pail, selX11_pail, iniX11, cdX11_pail, rfl, by decide, by decide, by decide +kernel⟩
theorem lnX11_222 : LV RX11 222 RX6 yX6_hasBucket cX6_hasBucket 2 (some .boolean) 1 := ⟨tb_5 37 rfl rfl, insX6_hasBucket, selX6_hasBucket, iniX6, cdX6_hasBucket, rfl, by decide, by decide, by decide +kernel⟩
theorem lnX11_237 : LV RX11 237 RX6 yX6_placeOf cX6_placeOf 4 (some .int) 2 := ⟨tb_5 38 rfl rfl, insX6_placeOf, selX6_placeOf, iniX6, cdX6_placeOf, rfl, by decide, by decide, by decide +kernel⟩
theorem lnL_91 : LV RL 91 RX11 yX11_part cX11_part 4 (some .int) 2 := ⟨tb_5 39 rfl rfl, insX11_part, selX11_part, iniX11, cdX11_part, rfl, by decide, by decide, by decide +kernel⟩
theorem lnL_95 : LV RL 95 RX11 yX11_owes cX11_owes 3 (some .int) 2 := ⟨tb_5 43 rfl rfl, insX11_owes, selX11_owes, iniX11, cdX11_owes, rfl, by decide, by decide, by decide +kernel⟩
theorem lnL_99 : LV RL 99 RX11 yX11_deals cX11_deals 1 (some .int) 0 := ⟨tb_5 47 rfl rfl, insX11_deals, selX11_deals, iniX11, cdX11_deals, rfl, by decide, by decide, by decide +kernel⟩
theorem lnX11_253 : LV RX11 253 RX2 yX2_fewestDeals cX2_fewestDeals 6 (some .int) 2 := ⟨tb_5 51 rfl rfl, insX2_fewestDeals, selX2_fewestDeals, iniX2, cdX2_fewestDeals, rfl, by decide, by decide, by decide +kernel⟩
theorem mlX2_21 : Cond.methodLink RX2 21 Lib.Math.min.name ∈ gws := tb_5 55 rfl rfl
theorem mlX2_27 : Cond.methodLink RX2 27 Lib.Math.max.name ∈ gws := tb_5 56 rfl rfl
theorem lnX2_30 : LV RX2 30 RX3 yX3_debtOf cX3_debtOf 4 (some .int) 1 := ⟨tb_5 57 rfl rfl, insX3_debtOf, selX3_debtOf, iniX3, cdX3_debtOf, rfl, by decide, by decide, by decide +kernel⟩
theorem lnX2_36 : LV RX2 36 RX3 yX3_creditOf cX3_creditOf 4 (some .int) 1 := ⟨tb_5 58 rfl rfl, insX3_creditOf, selX3_creditOf, iniX3, cdX3_creditOf, rfl, by decide, by decide, by decide +kernel⟩
theorem lnX2_39 : LV RX2 39 RX2 yX2_weighSet cX2_weighSet 6 none 2 := ⟨tb_5 59 rfl rfl, insX2_weighSet, selX2_weighSet, iniX2, cdX2_weighSet, rfl, by decide, by decide, by decide +kernel⟩
theorem lnL_103 : LV RL 103 RX11 yX11_best cX11_best 2 (some .int) 1 := ⟨tb_5 63 rfl rfl, insX11_best, selX11_best, iniX11, cdX11_best, rfl, by decide, by decide, by decide +kernel⟩
theorem lnX11_257 : LV RX11 257 RX10 yX10_canAnswer cX10_canAnswer 3 (some .boolean) 2 := ⟨tb_5 67 rfl rfl, insX10_canAnswer, selX10_canAnswer, iniX10, cdX10_canAnswer, rfl, by decide, by decide, by decide +kernel⟩
theorem lnX11_260 : LV RX11 260 RX10 yX10_seekMostWater cX10_seekMostWater 7 none 1 := ⟨tb_5 72 rfl rfl, insX10_seekMostWater, selX10_seekMostWater, iniX10, cdX10_seekMostWater, rfl, by decide, by decide, by decide +kernel⟩
theorem mlX10_56 : Cond.methodLink RX10 56 Lib.Math.min.name ∈ gws := tb_5 76 rfl rfl
theorem lnX10_62 : LV RX10 62 RX0 yX0_stepsAnHour cX0_stepsAnHour 3 (some .int) 2 := ⟨tb_5 77 rfl rfl, insX0_stepsAnHour, selX0_stepsAnHour, iniX0, cdX0_stepsAnHour, rfl, by decide, by decide, by decide +kernel⟩
theorem mlX10_64 : Cond.methodLink RX10 64 Lib.Math.max.name ∈ gws := tb_5 78 rfl rfl
theorem lnX10_67 : LV RX10 67 RX10 yX10_walk cX10_walk 4 none 2 := ⟨tb_5 79 rfl rfl, insX10_walk, selX10_walk, iniX10, cdX10_walk, rfl, by decide, by decide, by decide +kernel⟩
theorem lnX10_92 : LV RX10 92 RX3 yX3_copyFrom cX3_copyFrom 2 none 1 := ⟨tb_5 83 rfl rfl, insX3_copyFrom, selX3_copyFrom, iniX3, cdX3_copyFrom, rfl, by decide, by decide, by decide +kernel⟩
theorem lnX10_103 : LV RX10 103 RX6 yX6_stepsItHolds cX6_stepsItHolds 4 (some .int) 1 := ⟨tb_5 84 rfl rfl, insX6_stepsItHolds, selX6_stepsItHolds, iniX6, cdX6_stepsItHolds, rfl, by decide, by decide, by decide +kernel⟩
theorem lnX10_109 : LV RX10 109 RX6 yX6_moveOn cX6_moveOn 5 none 2 := ⟨tb_5 85 rfl rfl, insX6_moveOn, selX6_moveOn, iniX6, cdX6_moveOn, rfl, by decide, by decide, by decide +kernel⟩
theorem lnX10_71 : LS9 RX10 71 yJ7_fill_53178 cJ7_fill_53178 4 none 2 := ⟨tb_5 86 rfl rfl, staJ7_fill_53178, iniJ7, cdJ7_fill_53178, by decide, by decide, by decide +kernel⟩
theorem lnX10_77 : LV RX10 77 RX10 yX10_waterOfWay cX10_waterOfWay 3 (some .int) 0 := ⟨tb_5 87 rfl rfl, insX10_waterOfWay, selX10_waterOfWay, iniX10, cdX10_waterOfWay, rfl, by decide, by decide, by decide +kernel⟩
theorem lnX10_81 : LV RX10 81 RX10 yX10_take cX10_take 2 none 1 := ⟨tb_5 91 rfl rfl, insX10_take, selX10_take, iniX10, cdX10_take, rfl, by decide, by decide, by decide +kernel⟩
theorem mlX10_39 : Cond.methodLink RX10 39 arraycopyName ∈ gws := tb_5 95 rfl rfl
theorem lnX10_85 : LV RX10 85 RX10 yX10_nextWay cX10_nextWay 3 (some .boolean) 1 := ⟨tb_5 96 rfl rfl, insX10_nextWay, selX10_nextWay, iniX10, cdX10_nextWay, rfl, by decide, by decide, by decide +kernel⟩
theorem lnX11_264 : LV RX11 264 RX10 yX10_answer cX10_answer 2 (some .int) 1 := ⟨tb_5 100 rfl rfl, insX10_answer, selX10_answer, iniX10, cdX10_answer, rfl, by decide, by decide, by decide +kernel⟩
theorem lnL_107 : LV RL 107 RX11 yX11_peace cX11_peace 2 (some .int) 1 := ⟨tb_5 104 rfl rfl, insX11_peace, selX11_peace, iniX11, cdX11_peace, rfl, by decide, by decide, by decide +kernel⟩
theorem lnX11_267 : LV RX11 267 RX10 yX10_seekPeace cX10_seekPeace 6 none 1 := ⟨tb_5 108 rfl rfl, insX10_seekPeace, selX10_seekPeace, iniX10, cdX10_seekPeace, rfl, by decide, by decide, by decide +kernel⟩
theorem lnX10_113 : LV RX10 113 RX10 yX10_hasEvery cX10_hasEvery 4 (some .boolean) 1 := ⟨tb_5 112 rfl rfl, insX10_hasEvery, selX10_hasEvery, iniX10, cdX10_hasEvery, rfl, by decide, by decide, by decide +kernel⟩
theorem lnX10_116 : LV RX10 116 RX10 yX10_meetingsOfWay cX10_meetingsOfWay 5 (some .int) 1 := ⟨tb_5 116 rfl rfl, insX10_meetingsOfWay, selX10_meetingsOfWay, iniX10, cdX10_meetingsOfWay, rfl, by decide, by decide, by decide +kernel⟩
theorem lnX10_120 : LV RX10 120 RX0 yX0_areFoes cX0_areFoes 3 (some .boolean) 2 := ⟨tb_5 120 rfl rfl, insX0_areFoes, selX0_areFoes, iniX0, cdX0_areFoes, rfl, by decide, by decide, by decide +kernel⟩
theorem lnL_111 : LV RL 111 RX11 yX11_log cX11_log 3 (some .boolean) 2 := ⟨tb_5 124 rfl rfl, insX11_log, selX11_log, iniX11, cdX11_log, rfl, by decide, by decide, by decide +kernel⟩
theorem lnX11_271 : LV RX11 271 RX0 yX0_noteLog cX0_noteLog 3 (some .boolean) 2 := ⟨tb_5 128 rfl rfl, insX0_noteLog, selX0_noteLog, iniX0, cdX0_noteLog, rfl, by decide, by decide, by decide +kernel⟩
theorem mlX0_70 : Cond.methodLink RX0 70 Lib.Math.min.name ∈ gws := tb_5 132 rfl rfl
theorem lnL_115 : LV RL 115 RX11 yX11_slow cX11_slow 6 (some .int) 2 := ⟨tb_5 133 rfl rfl, insX11_slow, selX11_slow, iniX11, cdX11_slow, rfl, by decide, by decide, by decide +kernel⟩
theorem lnX11_274 : LV RX11 274 RX0 yX0_leastSlow cX0_leastSlow 2 (some .int) 1 := ⟨tb_5 137 rfl rfl, insX0_leastSlow, selX0_leastSlow, iniX0, cdX0_leastSlow, rfl, by decide, by decide, by decide +kernel⟩
theorem lnX11_277 : LV RX11 277 RX0 yX0_mostSlow cX0_mostSlow 2 (some .int) 1 := ⟨tb_5 141 rfl rfl, insX0_mostSlow, selX0_mostSlow, iniX0, cdX0_mostSlow, rfl, by decide, by decide, by decide +kernel⟩
theorem lnL_119 : LV RL 119 RX11 yX11_breaks cX11_breaks 2 (some .int) 1 := ⟨tb_5 145 rfl rfl, insX11_breaks, selX11_breaks, iniX11, cdX11_breaks, rfl, by decide, by decide, by decide +kernel⟩
theorem lnX11_280 : LV RX11 280 RX6 yX6_firstToBreak cX6_firstToBreak 7 (some .int) 2 := ⟨tb_5 149 rfl rfl, insX6_firstToBreak, selX6_firstToBreak, iniX6, cdX6_firstToBreak, rfl, by decide, by decide, by decide +kernel⟩
theorem lnL_123 : LV RL 123 RX11 yX11_lasting cX11_lasting 3 (some .int) 2 := ⟨tb_5 153 rfl rfl, insX11_lasting, selX11_lasting, iniX11, cdX11_lasting, rfl, by decide, by decide, by decide +kernel⟩
theorem lnX11_283 : LV RX11 283 RX6 yX6_priceOfBroken cX6_priceOfBroken 5 (some .int) 2 := ⟨tb_5 157 rfl rfl, insX6_priceOfBroken, selX6_priceOfBroken, iniX6, cdX6_priceOfBroken, rfl, by decide, by decide, by decide +kernel⟩
theorem lnX11_286 : LV RX11 286 RX6 yX6_setOfBroken cX6_setOfBroken 5 (some .int) 2 := ⟨tb_5 161 rfl rfl, insX6_setOfBroken, selX6_setOfBroken, iniX6, cdX6_setOfBroken, rfl, by decide, by decide, by decide +kernel⟩
theorem lnL_127 : LV RL 127 RX11 yX11_undo cX11_undo 1 (some .boolean) 0 := ⟨tb_5 165 rfl rfl, insX11_undo, selX11_undo, iniX11, cdX11_undo, rfl, by decide, by decide, by decide +kernel⟩
theorem lnX11_289 : LV RX11 289 RX4 yX4_bringBack cX4_bringBack 2 (some .boolean) 1 := ⟨tb_5 169 rfl rfl, insX4_bringBack, selX4_bringBack, iniX4, cdX4_bringBack, rfl, by decide, by decide, by decide +kernel⟩
theorem lnL_132 : LV RL 132 RX11 yX11_image cX11_image 2 (some .boolean) 1 := ⟨tb_5 173 rfl rfl, insX11_image, selX11_image, iniX11, cdX11_image, rfl, by decide, by decide, by decide +kernel⟩
theorem lnX11_293 : LV RX11 293 RX9 yX9_copyFrom cX9_copyFrom 2 none 1 := ⟨tb_5 177 rfl rfl, insX9_copyFrom, selX9_copyFrom, iniX9, cdX9_copyFrom, rfl, by decide, by decide, by decide +kernel⟩
theorem lnX9_73 : LV RX9 73 RX3 yX3_copyFrom cX3_copyFrom 2 none 1 := ⟨tb_5 181 rfl rfl, insX3_copyFrom, selX3_copyFrom, iniX3, cdX3_copyFrom, rfl, by decide, by decide, by decide +kernel⟩
theorem lnX9_77 : LV RX9 77 RX6 yX6_copyFrom cX6_copyFrom 2 none 1 := ⟨tb_5 182 rfl rfl, insX6_copyFrom, selX6_copyFrom, iniX6, cdX6_copyFrom, rfl, by decide, by decide, by decide +kernel⟩
theorem mlX6_46 : Cond.methodLink RX6 46 arraycopyName ∈ gws := tb_5 186 rfl rfl
theorem lnX9_80 : LV RX9 80 RX0 yX0_copyFrom cX0_copyFrom 3 none 1 := ⟨tb_5 187 rfl rfl, insX0_copyFrom, selX0_copyFrom, iniX0, cdX0_copyFrom, rfl, by decide, by decide, by decide +kernel⟩
theorem mlX0_39 : Cond.methodLink RX0 39 arraycopyName ∈ gws := tb_5 191 rfl rfl
theorem lnX9_83 : LV RX9 83 RX7 yX7_copyFrom cX7_copyFrom 2 none 1 := ⟨tb_5 192 rfl rfl, insX7_copyFrom, selX7_copyFrom, iniX7, cdX7_copyFrom, rfl, by decide, by decide, by decide +kernel⟩
theorem mlX7_34 : Cond.methodLink RX7 34 arraycopyName ∈ gws := tb_5 196 rfl rfl
theorem lnX9_86 : LV RX9 86 RX1 yX1_copyFrom cX1_copyFrom 2 none 1 := ⟨tb_5 197 rfl rfl, insX1_copyFrom, selX1_copyFrom, iniX1, cdX1_copyFrom, rfl, by decide, by decide, by decide +kernel⟩
theorem lnL_137 : LV RL 137 RX11 yX11_look cX11_look 3 (some .int) 1 := ⟨tb_5 201 rfl rfl, insX11_look, selX11_look, iniX11, cdX11_look, rfl, by decide, by decide, by decide +kernel⟩
theorem lnX11_299 : LV RX11 299 RX6 yX6_ownerAt cX6_ownerAt 2 (some .int) 1 := ⟨tb_5 205 rfl rfl, insX6_ownerAt, selX6_ownerAt, iniX6, cdX6_ownerAt, rfl, by decide, by decide, by decide +kernel⟩
theorem lnX11_320 : LV RX11 320 RX6 yX6_isBroken cX6_isBroken 2 (some .boolean) 1 := ⟨tb_5 206 rfl rfl, insX6_isBroken, selX6_isBroken, iniX6, cdX6_isBroken, rfl, by decide, by decide, by decide +kernel⟩
theorem lnX6_65 : LV RX6 65 RX6 yX6_stepsItHolds cX6_stepsItHolds 4 (some .int) 1 := ⟨tb_5 210 rfl rfl, insX6_stepsItHolds, selX6_stepsItHolds, iniX6, cdX6_stepsItHolds, rfl, by decide, by decide, by decide +kernel⟩
theorem lnX11_329 : LV RX11 329 RX3 yX3_allDrops cX3_allDrops 3 (some .int) 0 := ⟨tb_5 211 rfl rfl, insX3_allDrops, selX3_allDrops, iniX3, cdX3_allDrops, rfl, by decide, by decide, by decide +kernel⟩
theorem mlL_12 : Cond.methodLink RL 12 yX12_init ∈ gws := tb_5 214 rfl rfl
theorem mlX12_1 : Cond.methodLink RX12 1 objectInit ∈ gws := tb_5 217 rfl rfl
theorem lnL_131 : LV RL 131 RX12 yX12_undo cX12_undo 1 (some .boolean) 0 := ⟨tb_6 166 rfl rfl, insX12_undo, selX12_undo, iniX12, cdX12_undo, rfl, by decide, by decide, by decide +kernel⟩
theorem lnX12_130 : LV RX12 130 RX12 yX12_takesRow cX12_takesRow 3 none 1 := ⟨tb_6 170 rfl rfl, insX12_takesRow, selX12_takesRow, iniX12, cdX12_takesRow, rfl, by decide, by decide, by decide +kernel⟩
theorem lnL_17 : LV RL 17 RX12 yX12_state cX12_state 3 (some .int) 1 := ⟨tb_6 174 rfl rfl, insX12_state, selX12_state, iniX12, cdX12_state, rfl, by decide, by decide, by decide +kernel⟩
theorem lnL_22 : LV RL 22 RX12 yX12_notches cX12_notches 4 (some .boolean) 1 := ⟨tb_6 178 rfl rfl, insX12_notches, selX12_notches, iniX12, cdX12_notches, rfl, by decide, by decide, by decide +kernel⟩
theorem lnX12_138 : LV RX12 138 RX12 yX12_isIn cX12_isIn 4 (some .boolean) 3 := ⟨tb_6 182 rfl rfl, insX12_isIn, selX12_isIn, iniX12, cdX12_isIn, rfl, by decide, by decide, by decide +kernel⟩
theorem lnL_27 : LV RL 27 RX12 yX12_bucket cX12_bucket 5 (some .int) 3 := ⟨tb_6 186 rfl rfl, insX12_bucket, selX12_bucket, iniX12, cdX12_bucket, rfl, by decide, by decide, by decide +kernel⟩
theorem lnL_32 : LV RL 32 RX12 yX12_farm cX12_farm 5 (some .int) 4 := ⟨tb_6 190 rfl rfl, insX12_farm, selX12_farm, iniX12, cdX12_farm, rfl, by decide, by decide, by decide +kernel⟩
theorem lnL_37 : LV RL 37 RX12 yX12_tell cX12_tell 4 (some .boolean) 3 := ⟨tb_6 194 rfl rfl, insX12_tell, selX12_tell, iniX12, cdX12_tell, rfl, by decide, by decide, by decide +kernel⟩
theorem lnX12_173 : LV RX12 173 RX12 yX12_canTell cX12_canTell 4 (some .boolean) 3 := ⟨tb_6 198 rfl rfl, insX12_canTell, selX12_canTell, iniX12, cdX12_canTell, rfl, by decide, by decide, by decide +kernel⟩
theorem lnX12_163 : LV RX12 163 RX12 yX12_isFarm cX12_isFarm 2 (some .boolean) 1 := ⟨tb_6 202 rfl rfl, insX12_isFarm, selX12_isFarm, iniX12, cdX12_isFarm, rfl, by decide, by decide, by decide +kernel⟩
theorem lnX12_168 : LV RX12 168 RX12 yX12_allDrops cX12_allDrops 3 (some .int) 0 := ⟨tb_6 207 rfl rfl, insX12_allDrops, selX12_allDrops, iniX12, cdX12_allDrops, rfl, by decide, by decide, by decide +kernel⟩
theorem lnL_42 : LV RL 42 RX12 yX12_turn cX12_turn 3 (some .boolean) 2 := ⟨tb_6 212 rfl rfl, insX12_turn, selX12_turn, iniX12, cdX12_turn, rfl, by decide, by decide, by decide +kernel⟩
theorem lnL_46 : LV RL 46 RX12 yX12_absent cX12_absent 5 (some .boolean) 3 := ⟨tb_6 216 rfl rfl, insX12_absent, selX12_absent, iniX12, cdX12_absent, rfl, by decide, by decide, by decide +kernel⟩
theorem lnL_50 : LV RL 50 RX12 yX12_splice cX12_splice 4 (some .int) 3 := ⟨tb_6 220 rfl rfl, insX12_splice, selX12_splice, iniX12, cdX12_splice, rfl, by decide, by decide, by decide +kernel⟩
theorem lnL_54 : LV RL 54 RX12 yX12_mend cX12_mend 3 (some .boolean) 2 := ⟨tb_6 225 rfl rfl, insX12_mend, selX12_mend, iniX12, cdX12_mend, rfl, by decide, by decide, by decide +kernel⟩
theorem lnL_59 : LV RL 59 RX12 yX12_foes cX12_foes 4 (some .boolean) 3 := ⟨tb_6 229 rfl rfl, insX12_foes, selX12_foes, iniX12, cdX12_foes, rfl, by decide, by decide, by decide +kernel⟩
theorem lnL_64 : LV RL 64 RX12 yX12_feed cX12_feed 6 (some .int) 5 := ⟨tb_6 233 rfl rfl, insX12_feed, selX12_feed, iniX12, cdX12_feed, rfl, by decide, by decide, by decide +kernel⟩
theorem lnX12_180 : LV RX12 180 RX12 yX12_types cX12_types 3 none 1 := ⟨tb_6 237 rfl rfl, insX12_types, selX12_types, iniX12, cdX12_types, rfl, by decide, by decide, by decide +kernel⟩
theorem lnL_68 : LV RL 68 RX12 yX12_end cX12_end 2 (some .boolean) 1 := ⟨tb_7 1 rfl rfl, insX12_end, selX12_end, iniX12, cdX12_end, rfl, by decide, by decide, by decide +kernel⟩
theorem lnL_73 : LV RL 73 RX12 yX12_text cX12_text 3 (some .int) 0 := ⟨tb_7 5 rfl rfl, insX12_text, selX12_text, iniX12, cdX12_text, rfl, by decide, by decide, by decide +kernel⟩
theorem lnX12_228 : LV RX12 228 RX12 yX12_reads cX12_reads 2 none 0 := ⟨tb_7 9 rfl rfl, insX12_reads, selX12_reads, iniX12, cdX12_reads, rfl, by decide, by decide, by decide +kernel⟩
theorem lnX12_186 : LV RX12 186 RX12 yX12_raw cX12_raw 2 (some .int) 1 := ⟨tb_7 13 rfl rfl, insX12_raw, selX12_raw, iniX12, cdX12_raw, rfl, by decide, by decide, by decide +kernel⟩
theorem lnX12_199 : LV RX12 199 RX12 yX12_isLetter cX12_isLetter 2 (some .boolean) 1 := ⟨tb_7 17 rfl rfl, insX12_isLetter, selX12_isLetter, iniX12, cdX12_isLetter, rfl, by decide, by decide, by decide +kernel⟩
theorem lnX12_202 : LV RX12 202 RX12 yX12_wordAt cX12_wordAt 6 (some .int) 2 := ⟨tb_7 21 rfl rfl, insX12_wordAt, selX12_wordAt, iniX12, cdX12_wordAt, rfl, by decide, by decide, by decide +kernel⟩
theorem lnX12_206 : LV RX12 206 RX12 yX12_isDigit cX12_isDigit 2 (some .boolean) 1 := ⟨tb_7 25 rfl rfl, insX12_isDigit, selX12_isDigit, iniX12, cdX12_isDigit, rfl, by decide, by decide, by decide +kernel⟩
theorem lnX12_209 : LV RX12 209 RX12 yX12_isMarkSign cX12_isMarkSign 2 (some .boolean) 1 := ⟨tb_7 29 rfl rfl, insX12_isMarkSign, selX12_isMarkSign, iniX12, cdX12_isMarkSign, rfl, by decide, by decide, by decide +kernel⟩
theorem lnX12_267 : LV RX12 267 RX12 yX12_readText cX12_readText 3 (some .int) 0 := ⟨tb_7 33 rfl rfl, insX12_readText, selX12_readText, iniX12, cdX12_readText, rfl, by decide, by decide, by decide +kernel⟩
theorem lnX12_249 : LV RX12 249 RX12 yX12_isWord cX12_isWord 2 (some .boolean) 1 := ⟨tb_7 37 rfl rfl, insX12_isWord, selX12_isWord, iniX12, cdX12_isWord, rfl, by decide, by decide, by decide +kernel⟩
theorem lnX12_221 : LV RX12 221 RX12 yX12_errs cX12_errs 2 (some .int) 1 := ⟨tb_7 41 rfl rfl, insX12_errs, selX12_errs, iniX12, cdX12_errs, rfl, by decide, by decide, by decide +kernel⟩
theorem lnX12_240 : LV RX12 240 RX12 yX12_readSum cX12_readSum 2 (some .int) 0 := ⟨tb_7 45 rfl rfl, insX12_readSum, selX12_readSum, iniX12, cdX12_readSum, rfl, by decide, by decide, by decide +kernel⟩
theorem lnX12_237 : LV RX12 237 RX12 yX12_readProduct cX12_readProduct 2 (some .int) 0 := ⟨tb_7 49 rfl rfl, insX12_readProduct, selX12_readProduct, iniX12, cdX12_readProduct, rfl, by decide, by decide, by decide +kernel⟩
theorem lnX12_231 : LV RX12 231 RX12 yX12_readUnit cX12_readUnit 2 (some .int) 0 := ⟨tb_7 53 rfl rfl, insX12_readUnit, selX12_readUnit, iniX12, cdX12_readUnit, rfl, by decide, by decide, by decide +kernel⟩
theorem lnX12_224 : LV RX12 224 RX12 yX12_emits cX12_emits 3 none 2 := ⟨tb_7 57 rfl rfl, insX12_emits, selX12_emits, iniX12, cdX12_emits, rfl, by decide, by decide, by decide +kernel⟩
theorem lnX12_234 : LV RX12 234 RX12 yX12_isSign cX12_isSign 2 (some .boolean) 1 := ⟨tb_7 61 rfl rfl, insX12_isSign, selX12_isSign, iniX12, cdX12_isSign, rfl, by decide, by decide, by decide +kernel⟩
theorem lnX12_261 : LV RX12 261 RX12 yX12_readAny cX12_readAny 4 (some .int) 0 := ⟨tb_7 65 rfl rfl, insX12_readAny, selX12_readAny, iniX12, cdX12_readAny, rfl, by decide, by decide, by decide +kernel⟩
theorem lnX12_252 : LV RX12 252 RX12 yX12_waits cX12_waits 2 none 1 := ⟨tb_7 69 rfl rfl, insX12_waits, selX12_waits, iniX12, cdX12_waits, rfl, by decide, by decide, by decide +kernel⟩
theorem lnX12_255 : LV RX12 255 RX12 yX12_readCompared cX12_readCompared 2 (some .int) 0 := ⟨tb_7 73 rfl rfl, insX12_readCompared, selX12_readCompared, iniX12, cdX12_readCompared, rfl, by decide, by decide, by decide +kernel⟩
theorem lnX12_258 : LV RX12 258 RX12 yX12_settles cX12_settles 2 none 1 := ⟨tb_7 77 rfl rfl, insX12_settles, selX12_settles, iniX12, cdX12_settles, rfl, by decide, by decide, by decide +kernel⟩
theorem lnL_77 : LV RL 77 RX12 yX12_fault cX12_fault 2 (some .int) 1 := ⟨tb_7 81 rfl rfl, insX12_fault, selX12_fault, iniX12, cdX12_fault, rfl, by decide, by decide, by decide +kernel⟩
theorem lnL_81 : LV RL 81 RX12 yX12_hours cX12_hours 4 (some .int) 1 := ⟨tb_7 85 rfl rfl, insX12_hours, selX12_hours, iniX12, cdX12_hours, rfl, by decide, by decide, by decide +kernel⟩
theorem lnX12_323 : LV RX12 323 RX12 yX12_keepsAhead cX12_keepsAhead 2 none 0 := ⟨tb_7 89 rfl rfl, insX12_keepsAhead, selX12_keepsAhead, iniX12, cdX12_keepsAhead, rfl, by decide, by decide, by decide +kernel⟩
theorem lnX12_126 : LV RX12 126 RX12 yX12_keepsRow cX12_keepsRow 3 none 1 := ⟨tb_7 93 rfl rfl, insX12_keepsRow, selX12_keepsRow, iniX12, cdX12_keepsRow, rfl, by decide, by decide, by decide +kernel⟩
theorem lnX12_326 : LV RX12 326 RX12 yX12_goesBy cX12_goesBy 6 (some .int) 0 := ⟨tb_7 97 rfl rfl, insX12_goesBy, selX12_goesBy, iniX12, cdX12_goesBy, rfl, by decide, by decide, by decide +kernel⟩
theorem lnX12_307 : LV RX12 307 RX12 yX12_draw cX12_draw 2 (some .int) 1 := ⟨tb_7 101 rfl rfl, insX12_draw, selX12_draw, iniX12, cdX12_draw, rfl, by decide, by decide, by decide +kernel⟩
theorem lnX12_292 : LV RX12 292 RX12 yX12_isBroken cX12_isBroken 2 (some .boolean) 0 := ⟨tb_7 107 rfl rfl, insX12_isBroken, selX12_isBroken, iniX12, cdX12_isBroken, rfl, by decide, by decide, by decide +kernel⟩
theorem lnX12_310 : LV RX12 310 RX12 yX12_pullerFor cX12_pullerFor 3 (some .int) 1 := ⟨tb_7 111 rfl rfl, insX12_pullerFor, selX12_pullerFor, iniX12, cdX12_pullerFor, rfl, by decide, by decide, by decide +kernel⟩
theorem lnX12_313 : LV RX12 313 RX12 yX12_stepsOf cX12_stepsOf 5 (some .int) 2 := ⟨tb_7 115 rfl rfl, insX12_stepsOf, selX12_stepsOf, iniX12, cdX12_stepsOf, rfl, by decide, by decide, by decide +kernel⟩
theorem lnX12_317 : LV RX12 317 RX12 yX12_pulls cX12_pulls 3 (some .int) 1 := ⟨tb_7 119 rfl rfl, insX12_pulls, selX12_pulls, iniX12, cdX12_pulls, rfl, by decide, by decide, by decide +kernel⟩
theorem lnX12_296 : LV RX12 296 RX12 yX12_step cX12_step 2 none 0 := ⟨tb_7 123 rfl rfl, insX12_step, selX12_step, iniX12, cdX12_step, rfl, by decide, by decide, by decide +kernel⟩
theorem lnX12_289 : LV RX12 289 RX12 yX12_goesOn cX12_goesOn 4 none 1 := ⟨tb_7 127 rfl rfl, insX12_goesOn, selX12_goesOn, iniX12, cdX12_goesOn, rfl, by decide, by decide, by decide +kernel⟩
theorem lnX12_283 : LV RX12 283 RX12 yX12_placeOf cX12_placeOf 2 (some .int) 1 := ⟨tb_7 131 rfl rfl, insX12_placeOf, selX12_placeOf, iniX12, cdX12_placeOf, rfl, by decide, by decide, by decide +kernel⟩
theorem lnX12_286 : LV RX12 286 RX12 yX12_drips cX12_drips 5 none 2 := ⟨tb_7 135 rfl rfl, insX12_drips, selX12_drips, iniX12, cdX12_drips, rfl, by decide, by decide, by decide +kernel⟩
theorem lnX12_320 : LV RX12 320 RX12 yX12_midnight cX12_midnight 3 none 0 := ⟨tb_7 139 rfl rfl, insX12_midnight, selX12_midnight, iniX12, cdX12_midnight, rfl, by decide, by decide, by decide +kernel⟩
theorem lnX12_304 : LV RX12 304 RX12 yX12_shares cX12_shares 7 none 0 := ⟨tb_7 143 rfl rfl, insX12_shares, selX12_shares, iniX12, cdX12_shares, rfl, by decide, by decide, by decide +kernel⟩
theorem lnX12_299 : LV RX12 299 RX12 yX12_weightOf cX12_weightOf 4 (some .int) 1 := ⟨tb_7 147 rfl rfl, insX12_weightOf, selX12_weightOf, iniX12, cdX12_weightOf, rfl, by decide, by decide, by decide +kernel⟩
theorem lnX12_277 : LV RX12 277 RX12 yX12_owesOf cX12_owesOf 4 (some .int) 1 := ⟨tb_7 151 rfl rfl, insX12_owesOf, selX12_owesOf, iniX12, cdX12_owesOf, rfl, by decide, by decide, by decide +kernel⟩
theorem lnX12_280 : LV RX12 280 RX12 yX12_isSo cX12_isSo 2 (some .boolean) 1 := ⟨tb_7 155 rfl rfl, insX12_isSo, selX12_isSo, iniX12, cdX12_isSo, rfl, by decide, by decide, by decide +kernel⟩
theorem lnX12_274 : LV RX12 274 RX12 yX12_runs cX12_runs 5 (some .int) 2 := ⟨tb_7 159 rfl rfl, insX12_runs, selX12_runs, iniX12, cdX12_runs, rfl, by decide, by decide, by decide +kernel⟩
theorem lnX12_270 : LV RX12 270 RX12 yX12_twoOf cX12_twoOf 4 (some .int) 3 := ⟨tb_7 163 rfl rfl, insX12_twoOf, selX12_twoOf, iniX12, cdX12_twoOf, rfl, by decide, by decide, by decide +kernel⟩
theorem lnL_86 : LV RL 86 RX12 yX12_of cX12_of 3 (some .int) 2 := ⟨tb_7 168 rfl rfl, insX12_of, selX12_of, iniX12, cdX12_of, rfl, by decide, by decide, by decide +kernel⟩
theorem lnX12_329 : LV RX12 329 RX12 yX12_owedTo cX12_owedTo 4 (some .int) 1 := ⟨tb_7 172 rfl rfl, insX12_owedTo, selX12_owedTo, iniX12, cdX12_owedTo, rfl, by decide, by decide, by decide +kernel⟩
theorem lnL_90 : LV RL 90 RX12 yX12_pail cX12_pail 3 (some .int) 2 := ⟨tb_7 176 rfl rfl, insX12_pail, selX12_pail, iniX12, cdX12_pail, rfl, by decide, by decide, by decide +kernel⟩
theorem lnL_94 : LV RL 94 RX12 yX12_part cX12_part 3 (some .int) 2 := ⟨tb_7 180 rfl rfl, insX12_part, selX12_part, iniX12, cdX12_part, rfl, by decide, by decide, by decide +kernel⟩
theorem lnL_98 : LV RL 98 RX12 yX12_owes cX12_owes 3 (some .int) 2 := ⟨tb_7 184 rfl rfl, insX12_owes, selX12_owes, iniX12, cdX12_owes, rfl, by decide, by decide, by decide +kernel⟩
theorem lnL_102 : LV RL 102 RX12 yX12_deals cX12_deals 4 (some .int) 0 := ⟨tb_7 188 rfl rfl, insX12_deals, selX12_deals, iniX12, cdX12_deals, rfl, by decide, by decide, by decide +kernel⟩
theorem lnX12_332 : LV RX12 332 RX12 yX12_mostGroups cX12_mostGroups 6 (some .int) 1 := ⟨tb_7 192 rfl rfl, insX12_mostGroups, selX12_mostGroups, iniX12, cdX12_mostGroups, rfl, by decide, by decide, by decide +kernel⟩
theorem lnX12_335 : LV RX12 335 RX12 yX12_ones cX12_ones 4 (some .int) 1 := ⟨tb_7 196 rfl rfl, insX12_ones, selX12_ones, iniX12, cdX12_ones, rfl, by decide, by decide, by decide +kernel⟩
theorem lnL_106 : LV RL 106 RX12 yX12_best cX12_best 2 (some .int) 1 := ⟨tb_7 200 rfl rfl, insX12_best, selX12_best, iniX12, cdX12_best, rfl, by decide, by decide, by decide +kernel⟩
theorem lnX12_350 : LV RX12 350 RX12 yX12_canAsk cX12_canAsk 2 (some .boolean) 1 := ⟨tb_7 204 rfl rfl, insX12_canAsk, selX12_canAsk, iniX12, cdX12_canAsk, rfl, by decide, by decide, by decide +kernel⟩
theorem lnX12_353 : LV RX12 353 RX12 yX12_findsBest cX12_findsBest 3 none 0 := ⟨tb_7 208 rfl rfl, insX12_findsBest, selX12_findsBest, iniX12, cdX12_findsBest, rfl, by decide, by decide, by decide +kernel⟩
theorem lnX12_344 : LV RX12 344 RX12 yX12_ways cX12_ways 1 (some .int) 0 := ⟨tb_7 212 rfl rfl, insX12_ways, selX12_ways, iniX12, cdX12_ways, rfl, by decide, by decide, by decide +kernel⟩
theorem lnX12_347 : LV RX12 347 RX12 yX12_farmOf cX12_farmOf 5 (some .int) 2 := ⟨tb_7 216 rfl rfl, insX12_farmOf, selX12_farmOf, iniX12, cdX12_farmOf, rfl, by decide, by decide, by decide +kernel⟩
theorem lnL_110 : LV RL 110 RX12 yX12_peace cX12_peace 6 (some .int) 1 := ⟨tb_7 220 rfl rfl, insX12_peace, selX12_peace, iniX12, cdX12_peace, rfl, by decide, by decide, by decide +kernel⟩
theorem lnX12_356 : LV RX12 356 RX12 yX12_meetings cX12_meetings 6 (some .int) 1 := ⟨tb_7 224 rfl rfl, insX12_meetings, selX12_meetings, iniX12, cdX12_meetings, rfl, by decide, by decide, by decide +kernel⟩
theorem lnL_114 : LV RL 114 RX12 yX12_log cX12_log 3 (some .boolean) 2 := ⟨tb_7 228 rfl rfl, insX12_log, selX12_log, iniX12, cdX12_log, rfl, by decide, by decide, by decide +kernel⟩
theorem lnL_118 : LV RL 118 RX12 yX12_slow cX12_slow 8 (some .int) 2 := ⟨tb_7 232 rfl rfl, insX12_slow, selX12_slow, iniX12, cdX12_slow, rfl, by decide, by decide, by decide +kernel⟩
theorem lnL_122 : LV RL 122 RX12 yX12_breaks cX12_breaks 4 (some .int) 1 := ⟨tb_7 236 rfl rfl, insX12_breaks, selX12_breaks, iniX12, cdX12_breaks, rfl, by decide, by decide, by decide +kernel⟩
theorem lnX12_359 : LV RX12 359 RX12 yX12_lasts cX12_lasts 2 (some .int) 1 := ⟨tb_8 0 rfl rfl, insX12_lasts, selX12_lasts, iniX12, cdX12_lasts, rfl, by decide, by decide, by decide +kernel⟩
theorem lnL_126 : LV RL 126 RX12 yX12_lasting cX12_lasting 6 (some .int) 2 := ⟨tb_8 4 rfl rfl, insX12_lasting, selX12_lasting, iniX12, cdX12_lasting, rfl, by decide, by decide, by decide +kernel⟩
theorem lnL_136 : LV RL 136 RX12 yX12_image cX12_image 3 (some .boolean) 1 := ⟨tb_8 8 rfl rfl, insX12_image, selX12_image, iniX12, cdX12_image, rfl, by decide, by decide, by decide +kernel⟩
theorem lnX12_369 : LV RX12 369 RX12 yX12_kept cX12_kept 2 (some .int) 1 := ⟨tb_8 12 rfl rfl, insX12_kept, selX12_kept, iniX12, cdX12_kept, rfl, by decide, by decide, by decide +kernel⟩
theorem lnX12_375 : LV RX12 375 RX12 yX12_keepsOthers cX12_keepsOthers 2 none 0 := ⟨tb_8 16 rfl rfl, insX12_keepsOthers, selX12_keepsOthers, iniX12, cdX12_keepsOthers, rfl, by decide, by decide, by decide +kernel⟩
theorem lnX12_378 : LV RX12 378 RX12 yX12_keepsLaw cX12_keepsLaw 2 none 0 := ⟨tb_8 20 rfl rfl, insX12_keepsLaw, selX12_keepsLaw, iniX12, cdX12_keepsLaw, rfl, by decide, by decide, by decide +kernel⟩
theorem lnL_140 : LV RL 140 RX12 yX12_look cX12_look 2 (some .int) 1 := ⟨tb_8 24 rfl rfl, insX12_look, selX12_look, iniX12, cdX12_look, rfl, by decide, by decide, by decide +kernel⟩
theorem mnX9_11 : Cond.methodLinkNest RX9 11 yX3_init "RopeToALake" ∈ nestW := tn_1 38 rfl rfl
theorem mnX9_20 : Cond.methodLinkNest RX9 20 yX6_init "RopeToALake" ∈ nestW := tn_1 134 rfl rfl
theorem mnX9_27 : Cond.methodLinkNest RX9 27 yX0_init "RopeToALake" ∈ nestW := tn_1 178 rfl rfl
theorem mnX9_34 : Cond.methodLinkNest RX9 34 yX7_init "RopeToALake" ∈ nestW := tn_1 211 rfl rfl
theorem mnX9_41 : Cond.methodLinkNest RX9 41 yX1_init "RopeToALake" ∈ nestW := tn_1 235 rfl rfl
theorem mnX4_15 : Cond.methodLinkNest RX4 15 yX3_init "RopeToALake" ∈ nestW := tn_2 96 rfl rfl
theorem mnX11_32 : Cond.methodLinkNest RX11 32 yX5_init "RopeToALake" ∈ nestW := tn_2 110 rfl rfl
theorem mnX5_11 : Cond.methodLinkNest RX5 11 yX8_init "RopeToALake" ∈ nestW := tn_2 116 rfl rfl
theorem mnX11_39 : Cond.methodLinkNest RX11 39 yX10_init "RopeToALake" ∈ nestW := tn_2 176 rfl rfl
theorem mnX10_26 : Cond.methodLinkNest RX10 26 yX3_init "RopeToALake" ∈ nestW := tn_2 181 rfl rfl
theorem mnX11_46 : Cond.methodLinkNest RX11 46 yX2_init "RopeToALake" ∈ nestW := tn_2 203 rfl rfl
theorem lnX6_52 : LN RX6 52 yX11_isWithin "RopeToALake" cX11_isWithin 3 (some .boolean) 3 := ⟨tn_3 27 rfl rfl, staX11_isWithin, iniX11, cdX11_isWithin, by decide, by decide, by decide +kernel⟩
theorem lnX0_45 : LN RX0 45 yX11_isWithin "RopeToALake" cX11_isWithin 3 (some .boolean) 3 := ⟨tn_3 51 rfl rfl, staX11_isWithin, iniX11, cdX11_isWithin, by decide, by decide, by decide +kernel⟩
theorem lnX9_113 : LN RX9 113 yX11_isWithin "RopeToALake" cX11_isWithin 3 (some .boolean) 3 := ⟨tn_3 78 rfl rfl, staX11_isWithin, iniX11, cdX11_isWithin, by decide, by decide, by decide +kernel⟩
theorem lnX8_29 : LN RX8 29 yX11_isWithin "RopeToALake" cX11_isWithin 3 (some .boolean) 3 := ⟨tn_3 187 rfl rfl, staX11_isWithin, iniX11, cdX11_isWithin, by decide, by decide, by decide +kernel⟩
theorem lnX5_84 : LN RX5 84 yX11_isWithin "RopeToALake" cX11_isWithin 3 (some .boolean) 3 := ⟨tn_4 93 rfl rfl, staX11_isWithin, iniX11, cdX11_isWithin, by decide, by decide, by decide +kernel⟩
theorem lnX4_23 : LN RX4 23 yX11_isWithin "RopeToALake" cX11_isWithin 3 (some .boolean) 3 := ⟨tn_4 145 rfl rfl, staX11_isWithin, iniX11, cdX11_isWithin, by decide, by decide, by decide +kernel⟩
theorem lnX1_39 : LN RX1 39 yX11_isWithin "RopeToALake" cX11_isWithin 3 (some .boolean) 3 := ⟨tn_4 231 rfl rfl, staX11_isWithin, iniX11, cdX11_isWithin, by decide, by decide, by decide +kernel⟩
theorem lnX10_31 : LN RX10 31 yX11_isWithin "RopeToALake" cX11_isWithin 3 (some .boolean) 3 := ⟨tn_5 71 rfl rfl, staX11_isWithin, iniX11, cdX11_isWithin, by decide, by decide, by decide +kernel⟩
theorem kcX9_128 : Cond.constant RX9 128 (9999999) ∈ gws := tb_3 92 rfl rfl
theorem kcX9_136 : Cond.constant RX9 136 (999999999) ∈ gws := tb_3 97 rfl rfl
theorem kcX11_127 : Cond.constant RX11 127 (99999) ∈ gws := tb_3 131 rfl rfl
theorem kcJ2_227 : Cond.constant RJ2 227 (65536) ∈ gws := tb_4 47 rfl rfl
theorem kcJ11_110 : Cond.constant RJ11 110 (55232) ∈ gws := tb_4 72 rfl rfl
theorem kcJ11_76 : Cond.constant RJ11 76 (56320) ∈ gws := tb_4 76 rfl rfl
theorem kcX3_76 : Cond.constant RX3 76 (1664525) ∈ gws := tb_4 164 rfl rfl
theorem kcX3_77 : Cond.constant RX3 77 (1013904223) ∈ gws := tb_4 165 rfl rfl
theorem kcX6_71 : Cond.constant RX6 71 (2147483647) ∈ gws := tb_4 178 rfl rfl
theorem kcX12_167 : Cond.constant RX12 167 (9999999) ∈ gws := tb_6 206 rfl rfl
theorem kcX12_172 : Cond.constant RX12 172 (999999999) ∈ gws := tb_6 211 rfl rfl
theorem kcX12_176 : Cond.constant RX12 176 (99999) ∈ gws := tb_6 224 rfl rfl
theorem kcX12_133 : Cond.constant RX12 133 (1664525) ∈ gws := tb_7 105 rfl rfl
theorem kcX12_134 : Cond.constant RX12 134 (1013904223) ∈ gws := tb_7 106 rfl rfl
theorem kcX12_302 : Cond.constantLong RX12 302 (-1) ∈ gws := tb_7 167 rfl rfl
theorem klL_7 : Cond.classLink RL 7 "RopeToALake" ∈ gws := tb_1 22 rfl rfl
theorem klX11_9 : Cond.classLink RX11 9 "RopeToALake$Valley" ∈ gws := tb_1 30 rfl rfl
theorem klX9_9 : Cond.classLink RX9 9 "RopeToALake$Moving" ∈ gws := tb_1 36 rfl rfl
theorem klX9_18 : Cond.classLink RX9 18 "RopeToALake$Rope" ∈ gws := tb_1 132 rfl rfl
theorem klX9_25 : Cond.classLink RX9 25 "RopeToALake$Folk" ∈ gws := tb_1 176 rfl rfl
theorem klX0_11 : Cond.classLink RX0 11 "[[I" ∈ gws := tb_1 182 rfl rfl
theorem klX9_32 : Cond.classLink RX9 32 "RopeToALake$Roster" ∈ gws := tb_1 209 rfl rfl
theorem klX9_39 : Cond.classLink RX9 39 "RopeToALake$Law" ∈ gws := tb_1 233 rfl rfl
theorem klX11_23 : Cond.classLink RX11 23 "RopeToALake$Past" ∈ gws := tb_2 88 rfl rfl
theorem klX4_9 : Cond.classLink RX4 9 "RopeToALake$Moving" ∈ gws := tb_2 94 rfl rfl
theorem klX11_30 : Cond.classLink RX11 30 "RopeToALake$Reader" ∈ gws := tb_2 108 rfl rfl
theorem klX5_9 : Cond.classLink RX5 9 "RopeToALake$Tape" ∈ gws := tb_2 114 rfl rfl
theorem klX11_37 : Cond.classLink RX11 37 "RopeToALake$Watches" ∈ gws := tb_2 174 rfl rfl
theorem klX10_24 : Cond.classLink RX10 24 "RopeToALake$Moving" ∈ gws := tb_2 180 rfl rfl
theorem klX11_44 : Cond.classLink RX11 44 "RopeToALake$Ledger" ∈ gws := tb_2 201 rfl rfl
theorem klL_10 : Cond.classLink RL 10 "RopeToALakeModel" ∈ gws := tb_5 212 rfl rfl
theorem sta_max : Cond.static Lib.Math.max.name ∈ gws := tb_4 36 rfl rfl
theorem cd_max : Cond.code Lib.Math.max.name Lib.Math.max.code 2 (some .int) ∈ gws := tb_4 37 rfl rfl
theorem sta_min : Cond.static Lib.Math.min.name ∈ gws := tb_3 185 rfl rfl
theorem cd_min : Cond.code Lib.Math.min.name Lib.Math.min.code 2 (some .int) ∈ gws := tb_3 186 rfl rfl
theorem ini_math : Cond.initialized "java/lang/Math" ∈ gws := tb_1 15 rfl rfl
theorem ini_sys : Cond.initialized "java/lang/System" ∈ gws := tb_1 21 rfl rfl
theorem sta_acopy : Cond.static arraycopyName ∈ gws := tb_4 126 rfl rfl
theorem nat_acopy : Cond.native arraycopyName ∈ gws := tb_4 127 rfl rfl
theorem ins_obj : Cond.instanceMethod objectInit ∈ gws := tb_1 28 rfl rfl
theorem cd_obj : Cond.code objectInit ⟨#[0xb1]⟩ 1 none ∈ gws := tb_1 29 rfl rfl
theorem mkX11 : Cond.instantiable RX11 7 ∈ gws := tb_1 23 rfl rfl
theorem mkX9 : Cond.instantiable RX9 9 ∈ gws := tb_1 31 rfl rfl
theorem mkX3 : Cond.instantiable RX3 16 ∈ gws := tb_1 37 rfl rfl
theorem ac_I : Cond.arrayClass .int ∈ gws := tb_1 131 rfl rfl
theorem mkX6 : Cond.instantiable RX6 9 ∈ gws := tb_1 133 rfl rfl
theorem mkX0 : Cond.instantiable RX0 6 ∈ gws := tb_1 177 rfl rfl
theorem ao_II : Cond.arrayOver (.array .int) ∈ lw_tbl := tl_1 183 rfl
theorem mkX7 : Cond.instantiable RX7 5 ∈ gws := tb_1 210 rfl rfl
theorem mkX1 : Cond.instantiable RX1 5 ∈ gws := tb_1 234 rfl rfl
theorem mkX4 : Cond.instantiable RX4 3 ∈ gws := tb_2 89 rfl rfl
theorem ao_M : Cond.arrayOver (.object "RopeToALake$Moving") ∈ lw_tbl := tl_2 95 rfl
theorem mkX5 : Cond.instantiable RX5 8 ∈ gws := tb_2 109 rfl rfl
theorem mkX8 : Cond.instantiable RX8 6 ∈ gws := tb_2 115 rfl rfl
theorem mkX10 : Cond.instantiable RX10 6 ∈ gws := tb_2 175 rfl rfl
theorem mkX2 : Cond.instantiable RX2 3 ∈ gws := tb_2 202 rfl rfl
theorem ac_B : Cond.arrayClass .byte ∈ gws := tb_4 128 rfl rfl
theorem mkX12 : Cond.instantiable RX12 62 ∈ gws := tb_5 213 rfl rfl
theorem ac_J : Cond.arrayClass .long ∈ gws := tb_6 165 rfl rfl
