set_option maxHeartbeats 400000 in
set_option maxRecDepth 100000 in
theorem law_case_0 {G : Cx} {L : Nat} {f : Nat → Int32} {n : Int32} {cs sl : Nat} {ad : Nat → Nat} {A B : Mx} {i x1 x2 x3 x4 x5 : Int32} (K : Ok G cL_law 4 RL ret 1312) (hX : Scr G L f) (hL : L < 2 ^ 31) (hn : Int32.ofNat L = n) (g1 : 0 ≤ i + 1 ∧ i + 1 < n) (g2 : 0 ≤ i + 2 ∧ i + 2 < n) (g3 : 0 ≤ i + 3 ∧ i + 3 < n) (g4 : 0 ≤ i + 4 ∧ i + 4 < n) (g5 : 0 ≤ i + 5 ∧ i + 5 < n) (e1 : f (i + 1).toNatClampNeg = x1) (e2 : f (i + 2).toNatClampNeg = x2) (e3 : f (i + 3).toNatClampNeg = x3) (e4 : f (i + 4).toNatClampNeg = x4) (e5 : f (i + 5).toNatClampNeg = x5) (hcs : cs ≤ xmc G) (hsl : sl ≤ xms G) (hI : Iv A B) (kE : ∀ A' B', Iv A' B' → AW G 4 (ad, shLaw) cs sl (jn 182 A' B') 1093 [(0, .ref 1001), (1, .ref 0), (2, .ref 182), (3, .int i)] []) : AW G 4 (ad, shLaw) cs sl (jn 182 A B) 164 [(0, .ref 1001), (1, .ref 0), (2, .ref 182), (3, .int i)] [] := by
  have hI0 := hI
  obtain ⟨hTX, ⟨hTM, h23, hWL, hWd, hWI⟩, hRl, hRt⟩ := hI0
  refine aw_aload_n K dL_law_164 1 rfl rfl ?_
  refine aw_aload_n K dL_law_165 0 rfl rfl ?_
  refine aw_iload_n K dL_law_166 3 rfl rfl ?_
  refine aw_iconst (v := 1) K dL_law_167 (by decide) ?_
  refine aw_iadd K dL_law_168 ?_
  refine aw_sld K hX hL hn dL_law_169 g1.1 g1.2 ?_
  refine aw_topr (y := x1) e1 ?_
  refine aw_cX (As := [.int x1]) (rest := []) K lnL_13 dL_law_170 (t_X11_state x1 A hTX) rfl rfl rfl (Nat.le_of_ble_eq_true rfl) (by decide) (by decide) hcs hsl (fun r_1 N_2 h_3 => ?_)
  refine aw_pop K dL_law_173 rfl ?_
  refine aw_aload_n K dL_law_174 2 rfl rfl ?_
  refine aw_aload_n K dL_law_175 0 rfl rfl ?_
  refine aw_iload_n K dL_law_176 3 rfl rfl ?_
  refine aw_iconst (v := 1) K dL_law_177 (by decide) ?_
  refine aw_iadd K dL_law_178 ?_
  refine aw_sld K hX hL hn dL_law_179 g1.1 g1.2 ?_
  refine aw_topr (y := x1) e1 ?_
  refine aw_cM (As := [.int x1]) (rest := []) K lnL_17 dL_law_180 (t_X12_state x1 B hTM) rfl rfl rfl (Nat.le_of_ble_eq_true rfl) (by decide) (by decide) hcs hsl (fun r_4 N_5 h_6 => ?_)
  refine aw_pop K dL_law_183 rfl ?_
  refine aw_goto (tgt := 1093) K dL_law_184 (by decide) ?_
  exact kE _ _ (⟨h_3.1, im_M hI.2.1 h_6.1 h_6.2.1, rl_X_M hI.2.2.1 hTX h_3.2.1 h_6.2.1, rt_X_M hI.2.2.2 h_3.2.1 h_6.2.1⟩)

set_option maxHeartbeats 400000 in
set_option maxRecDepth 100000 in
theorem law_case_1 {G : Cx} {L : Nat} {f : Nat → Int32} {n : Int32} {cs sl : Nat} {ad : Nat → Nat} {A B : Mx} {i x1 x2 x3 x4 x5 : Int32} (K : Ok G cL_law 4 RL ret 1312) (hX : Scr G L f) (hL : L < 2 ^ 31) (hn : Int32.ofNat L = n) (g1 : 0 ≤ i + 1 ∧ i + 1 < n) (g2 : 0 ≤ i + 2 ∧ i + 2 < n) (g3 : 0 ≤ i + 3 ∧ i + 3 < n) (g4 : 0 ≤ i + 4 ∧ i + 4 < n) (g5 : 0 ≤ i + 5 ∧ i + 5 < n) (e1 : f (i + 1).toNatClampNeg = x1) (e2 : f (i + 2).toNatClampNeg = x2) (e3 : f (i + 3).toNatClampNeg = x3) (e4 : f (i + 4).toNatClampNeg = x4) (e5 : f (i + 5).toNatClampNeg = x5) (hcs : cs ≤ xmc G) (hsl : sl ≤ xms G) (hI : Iv A B) (kE : ∀ A' B', Iv A' B' → AW G 4 (ad, shLaw) cs sl (jn 182 A' B') 1093 [(0, .ref 1001), (1, .ref 0), (2, .ref 182), (3, .int i)] []) : AW G 4 (ad, shLaw) cs sl (jn 182 A B) 187 [(0, .ref 1001), (1, .ref 0), (2, .ref 182), (3, .int i)] [] := by
  have hI0 := hI
  obtain ⟨hTX, ⟨hTM, h23, hWL, hWd, hWI⟩, hRl, hRt⟩ := hI0
  refine aw_aload_n K dL_law_187 1 rfl rfl ?_
  refine aw_aload_n K dL_law_188 0 rfl rfl ?_
  refine aw_iload_n K dL_law_189 3 rfl rfl ?_
  refine aw_iconst (v := 1) K dL_law_190 (by decide) ?_
  refine aw_iadd K dL_law_191 ?_
  refine aw_sld K hX hL hn dL_law_192 g1.1 g1.2 ?_
  refine aw_topr (y := x1) e1 ?_
  refine aw_cX (As := [.int x1]) (rest := []) K lnL_18 dL_law_193 (t_X11_notches x1 A hTX) rfl rfl rfl (Nat.le_of_ble_eq_true rfl) (by decide) (by decide) hcs hsl (fun r_1 N_2 h_3 => ?_)
  refine aw_pop K dL_law_196 rfl ?_
  refine aw_aload_n K dL_law_197 2 rfl rfl ?_
  refine aw_aload_n K dL_law_198 0 rfl rfl ?_
  refine aw_iload_n K dL_law_199 3 rfl rfl ?_
  refine aw_iconst (v := 1) K dL_law_200 (by decide) ?_
  refine aw_iadd K dL_law_201 ?_
  refine aw_sld K hX hL hn dL_law_202 g1.1 g1.2 ?_
  refine aw_topr (y := x1) e1 ?_
  refine aw_cM (As := [.int x1]) (rest := []) K lnL_22 dL_law_203 (t_X12_notches x1 B hTM h23) rfl rfl rfl (Nat.le_of_ble_eq_true rfl) (by decide) (by decide) hcs hsl (fun r_4 N_5 h_6 => ?_)
  refine aw_pop K dL_law_206 rfl ?_
  refine aw_goto (tgt := 1093) K dL_law_207 (by decide) ?_
  exact kE _ _ (⟨h_3.1, im_Z hI.2.1 h_6.1 h_6.2.1 (bp_01 h_6.2.2.1) h_6.2.2.2.1 h_6.2.2.2.2, rl_notches hI.2.2.1 hTX h_3.2.1 h_6.2.1 (nt_r h_3.2.2.1 h_6.2.2.1) h_3.2.2.2.1 h_3.2.2.2.2 h_6.2.2.2.1 h_6.2.2.2.2 (bp_01 h_3.2.2.1), rt_Xn_Z hI.2.2.2 h_3.2.1 h_6.2.1⟩)

set_option maxHeartbeats 400000 in
set_option maxRecDepth 100000 in
theorem law_case_2 {G : Cx} {L : Nat} {f : Nat → Int32} {n : Int32} {cs sl : Nat} {ad : Nat → Nat} {A B : Mx} {i x1 x2 x3 x4 x5 : Int32} (K : Ok G cL_law 4 RL ret 1312) (hX : Scr G L f) (hL : L < 2 ^ 31) (hn : Int32.ofNat L = n) (g1 : 0 ≤ i + 1 ∧ i + 1 < n) (g2 : 0 ≤ i + 2 ∧ i + 2 < n) (g3 : 0 ≤ i + 3 ∧ i + 3 < n) (g4 : 0 ≤ i + 4 ∧ i + 4 < n) (g5 : 0 ≤ i + 5 ∧ i + 5 < n) (e1 : f (i + 1).toNatClampNeg = x1) (e2 : f (i + 2).toNatClampNeg = x2) (e3 : f (i + 3).toNatClampNeg = x3) (e4 : f (i + 4).toNatClampNeg = x4) (e5 : f (i + 5).toNatClampNeg = x5) (hcs : cs ≤ xmc G) (hsl : sl ≤ xms G) (hI : Iv A B) (kE : ∀ A' B', Iv A' B' → AW G 4 (ad, shLaw) cs sl (jn 182 A' B') 1093 [(0, .ref 1001), (1, .ref 0), (2, .ref 182), (3, .int i)] []) : AW G 4 (ad, shLaw) cs sl (jn 182 A B) 210 [(0, .ref 1001), (1, .ref 0), (2, .ref 182), (3, .int i)] [] := by
  have hI0 := hI
  obtain ⟨hTX, ⟨hTM, h23, hWL, hWd, hWI⟩, hRl, hRt⟩ := hI0
  refine aw_aload_n K dL_law_210 1 rfl rfl ?_
  refine aw_aload_n K dL_law_211 0 rfl rfl ?_
  refine aw_iload_n K dL_law_212 3 rfl rfl ?_
  refine aw_iconst (v := 1) K dL_law_213 (by decide) ?_
  refine aw_iadd K dL_law_214 ?_
  refine aw_sld K hX hL hn dL_law_215 g1.1 g1.2 ?_
  refine aw_topr (y := x1) e1 ?_
  refine aw_aload_n K dL_law_216 0 rfl rfl ?_
  refine aw_iload_n K dL_law_217 3 rfl rfl ?_
  refine aw_iconst (v := 2) K dL_law_218 (by decide) ?_
  refine aw_iadd K dL_law_219 ?_
  refine aw_sld K hX hL hn dL_law_220 g2.1 g2.2 ?_
  refine aw_topr (y := x2) e2 ?_
  refine aw_aload_n K dL_law_221 0 rfl rfl ?_
  refine aw_iload_n K dL_law_222 3 rfl rfl ?_
  refine aw_iconst (v := 3) K dL_law_223 (by decide) ?_
  refine aw_iadd K dL_law_224 ?_
  refine aw_sld K hX hL hn dL_law_225 g3.1 g3.2 ?_
  refine aw_topr (y := x3) e3 ?_
  refine aw_cX (As := [.int x1, .int x2, .int x3]) (rest := []) K lnL_23 dL_law_226 (t_X11_bucket x1 x2 x3 A hTX) rfl rfl rfl (Nat.le_of_ble_eq_true rfl) (by decide) (by decide) hcs hsl (fun r_1 N_2 h_3 => ?_)
  refine aw_pop K dL_law_229 rfl ?_
  refine aw_aload_n K dL_law_230 2 rfl rfl ?_
  refine aw_aload_n K dL_law_231 0 rfl rfl ?_
  refine aw_iload_n K dL_law_232 3 rfl rfl ?_
  refine aw_iconst (v := 1) K dL_law_233 (by decide) ?_
  refine aw_iadd K dL_law_234 ?_
  refine aw_sld K hX hL hn dL_law_235 g1.1 g1.2 ?_
  refine aw_topr (y := x1) e1 ?_
  refine aw_aload_n K dL_law_236 0 rfl rfl ?_
  refine aw_iload_n K dL_law_237 3 rfl rfl ?_
  refine aw_iconst (v := 2) K dL_law_238 (by decide) ?_
  refine aw_iadd K dL_law_239 ?_
  refine aw_sld K hX hL hn dL_law_240 g2.1 g2.2 ?_
  refine aw_topr (y := x2) e2 ?_
  refine aw_aload_n K dL_law_241 0 rfl rfl ?_
  refine aw_iload_n K dL_law_242 3 rfl rfl ?_
  refine aw_iconst (v := 3) K dL_law_243 (by decide) ?_
  refine aw_iadd K dL_law_244 ?_
  refine aw_sld K hX hL hn dL_law_245 g3.1 g3.2 ?_
  refine aw_topr (y := x3) e3 ?_
  refine aw_cM (As := [.int x1, .int x2, .int x3]) (rest := []) K lnL_27 dL_law_246 (t_X12_bucket x1 x2 x3 B hTM) rfl rfl rfl (Nat.le_of_ble_eq_true rfl) (by decide) (by decide) hcs hsl (fun r_4 N_5 h_6 => ?_)
  refine aw_pop K dL_law_249 rfl ?_
  refine aw_goto (tgt := 1093) K dL_law_250 (by decide) ?_
  exact kE _ _ (⟨h_3.1, im_Mb hI.2.1 h_6.1 h_6.2.1, (rl_bucket hI.2.2.1 hTX h_3.2.1 h_6.2.1 h_3.2.2 h_6.2.2).2, rt_Xb_Mb hI.2.2.2 h_3.2.1 h_6.2.1⟩)

set_option maxHeartbeats 400000 in
set_option maxRecDepth 100000 in
theorem law_case_3 {G : Cx} {L : Nat} {f : Nat → Int32} {n : Int32} {cs sl : Nat} {ad : Nat → Nat} {A B : Mx} {i x1 x2 x3 x4 x5 : Int32} (K : Ok G cL_law 4 RL ret 1312) (hX : Scr G L f) (hL : L < 2 ^ 31) (hn : Int32.ofNat L = n) (g1 : 0 ≤ i + 1 ∧ i + 1 < n) (g2 : 0 ≤ i + 2 ∧ i + 2 < n) (g3 : 0 ≤ i + 3 ∧ i + 3 < n) (g4 : 0 ≤ i + 4 ∧ i + 4 < n) (g5 : 0 ≤ i + 5 ∧ i + 5 < n) (e1 : f (i + 1).toNatClampNeg = x1) (e2 : f (i + 2).toNatClampNeg = x2) (e3 : f (i + 3).toNatClampNeg = x3) (e4 : f (i + 4).toNatClampNeg = x4) (e5 : f (i + 5).toNatClampNeg = x5) (hcs : cs ≤ xmc G) (hsl : sl ≤ xms G) (hI : Iv A B) (kE : ∀ A' B', Iv A' B' → AW G 4 (ad, shLaw) cs sl (jn 182 A' B') 1093 [(0, .ref 1001), (1, .ref 0), (2, .ref 182), (3, .int i)] []) : AW G 4 (ad, shLaw) cs sl (jn 182 A B) 253 [(0, .ref 1001), (1, .ref 0), (2, .ref 182), (3, .int i)] [] := by
  have hI0 := hI
  obtain ⟨hTX, ⟨hTM, h23, hWL, hWd, hWI⟩, hRl, hRt⟩ := hI0
  refine aw_aload_n K dL_law_253 1 rfl rfl ?_
  refine aw_aload_n K dL_law_254 0 rfl rfl ?_
  refine aw_iload_n K dL_law_255 3 rfl rfl ?_
  refine aw_iconst (v := 1) K dL_law_256 (by decide) ?_
  refine aw_iadd K dL_law_257 ?_
  refine aw_sld K hX hL hn dL_law_258 g1.1 g1.2 ?_
  refine aw_topr (y := x1) e1 ?_
  refine aw_aload_n K dL_law_259 0 rfl rfl ?_
  refine aw_iload_n K dL_law_260 3 rfl rfl ?_
  refine aw_iconst (v := 2) K dL_law_261 (by decide) ?_
  refine aw_iadd K dL_law_262 ?_
  refine aw_sld K hX hL hn dL_law_263 g2.1 g2.2 ?_
  refine aw_topr (y := x2) e2 ?_
  refine aw_aload_n K dL_law_264 0 rfl rfl ?_
  refine aw_iload_n K dL_law_265 3 rfl rfl ?_
  refine aw_iconst (v := 3) K dL_law_266 (by decide) ?_
  refine aw_iadd K dL_law_267 ?_
  refine aw_sld K hX hL hn dL_law_268 g3.1 g3.2 ?_
  refine aw_topr (y := x3) e3 ?_
  refine aw_aload_n K dL_law_269 0 rfl rfl ?_
  refine aw_iload_n K dL_law_270 3 rfl rfl ?_
  refine aw_iconst (v := 4) K dL_law_271 (by decide) ?_
  refine aw_iadd K dL_law_272 ?_
  refine aw_sld K hX hL hn dL_law_273 g4.1 g4.2 ?_
  refine aw_topr (y := x4) e4 ?_
  refine aw_cX (As := [.int x1, .int x2, .int x3, .int x4]) (rest := []) K lnL_28 dL_law_274 (t_X11_farm x1 x2 x3 x4 A hTX) rfl rfl rfl (Nat.le_of_ble_eq_true rfl) (by decide) (by decide) hcs hsl (fun r_1 N_2 h_3 => ?_)
  refine aw_pop K dL_law_277 rfl ?_
  refine aw_aload_n K dL_law_278 2 rfl rfl ?_
  refine aw_aload_n K dL_law_279 0 rfl rfl ?_
  refine aw_iload_n K dL_law_280 3 rfl rfl ?_
  refine aw_iconst (v := 1) K dL_law_281 (by decide) ?_
  refine aw_iadd K dL_law_282 ?_
  refine aw_sld K hX hL hn dL_law_283 g1.1 g1.2 ?_
  refine aw_topr (y := x1) e1 ?_
  refine aw_aload_n K dL_law_284 0 rfl rfl ?_
  refine aw_iload_n K dL_law_285 3 rfl rfl ?_
  refine aw_iconst (v := 2) K dL_law_286 (by decide) ?_
  refine aw_iadd K dL_law_287 ?_
  refine aw_sld K hX hL hn dL_law_288 g2.1 g2.2 ?_
  refine aw_topr (y := x2) e2 ?_
  refine aw_aload_n K dL_law_289 0 rfl rfl ?_
  refine aw_iload_n K dL_law_290 3 rfl rfl ?_
  refine aw_iconst (v := 3) K dL_law_291 (by decide) ?_
  refine aw_iadd K dL_law_292 ?_
  refine aw_sld K hX hL hn dL_law_293 g3.1 g3.2 ?_
  refine aw_topr (y := x3) e3 ?_
  refine aw_aload_n K dL_law_294 0 rfl rfl ?_
  refine aw_iload_n K dL_law_295 3 rfl rfl ?_
  refine aw_iconst (v := 4) K dL_law_296 (by decide) ?_
  refine aw_iadd K dL_law_297 ?_
  refine aw_sld K hX hL hn dL_law_298 g4.1 g4.2 ?_
  refine aw_topr (y := x4) e4 ?_
  refine aw_cM (As := [.int x1, .int x2, .int x3, .int x4]) (rest := []) K lnL_32 dL_law_299 (t_X12_farm x1 x2 x3 x4 B hTM) rfl rfl rfl (Nat.le_of_ble_eq_true rfl) (by decide) (by decide) hcs hsl (fun r_4 N_5 h_6 => ?_)
  refine aw_pop K dL_law_302 rfl ?_
  refine aw_goto (tgt := 1093) K dL_law_303 (by decide) ?_
  exact kE _ _ (⟨h_3.1, im_F hI.2.1 h_6.1 h_6.2.1, (rl_farm hI.2.2.1 hTX h_3.2.1 h_6.2.1 h_3.2.2 h_6.2.2).2, rt_Xf_F hI.2.2.2 h_3.2.1 h_6.2.1⟩)

set_option maxHeartbeats 400000 in
set_option maxRecDepth 100000 in
theorem law_case_4 {G : Cx} {L : Nat} {f : Nat → Int32} {n : Int32} {cs sl : Nat} {ad : Nat → Nat} {A B : Mx} {i x1 x2 x3 x4 x5 : Int32} (K : Ok G cL_law 4 RL ret 1312) (hX : Scr G L f) (hL : L < 2 ^ 31) (hn : Int32.ofNat L = n) (g1 : 0 ≤ i + 1 ∧ i + 1 < n) (g2 : 0 ≤ i + 2 ∧ i + 2 < n) (g3 : 0 ≤ i + 3 ∧ i + 3 < n) (g4 : 0 ≤ i + 4 ∧ i + 4 < n) (g5 : 0 ≤ i + 5 ∧ i + 5 < n) (e1 : f (i + 1).toNatClampNeg = x1) (e2 : f (i + 2).toNatClampNeg = x2) (e3 : f (i + 3).toNatClampNeg = x3) (e4 : f (i + 4).toNatClampNeg = x4) (e5 : f (i + 5).toNatClampNeg = x5) (hcs : cs ≤ xmc G) (hsl : sl ≤ xms G) (hI : Iv A B) (kE : ∀ A' B', Iv A' B' → AW G 4 (ad, shLaw) cs sl (jn 182 A' B') 1093 [(0, .ref 1001), (1, .ref 0), (2, .ref 182), (3, .int i)] []) : AW G 4 (ad, shLaw) cs sl (jn 182 A B) 306 [(0, .ref 1001), (1, .ref 0), (2, .ref 182), (3, .int i)] [] := by
  have hI0 := hI
  obtain ⟨hTX, ⟨hTM, h23, hWL, hWd, hWI⟩, hRl, hRt⟩ := hI0
  refine aw_aload_n K dL_law_306 1 rfl rfl ?_
  refine aw_aload_n K dL_law_307 0 rfl rfl ?_
  refine aw_iload_n K dL_law_308 3 rfl rfl ?_
  refine aw_iconst (v := 1) K dL_law_309 (by decide) ?_
  refine aw_iadd K dL_law_310 ?_
  refine aw_sld K hX hL hn dL_law_311 g1.1 g1.2 ?_
  refine aw_topr (y := x1) e1 ?_
  refine aw_aload_n K dL_law_312 0 rfl rfl ?_
  refine aw_iload_n K dL_law_313 3 rfl rfl ?_
  refine aw_iconst (v := 2) K dL_law_314 (by decide) ?_
  refine aw_iadd K dL_law_315 ?_
  refine aw_sld K hX hL hn dL_law_316 g2.1 g2.2 ?_
  refine aw_topr (y := x2) e2 ?_
  refine aw_aload_n K dL_law_317 0 rfl rfl ?_
  refine aw_iload_n K dL_law_318 3 rfl rfl ?_
  refine aw_iconst (v := 3) K dL_law_319 (by decide) ?_
  refine aw_iadd K dL_law_320 ?_
  refine aw_sld K hX hL hn dL_law_321 g3.1 g3.2 ?_
  refine aw_topr (y := x3) e3 ?_
  refine aw_cX (As := [.int x1, .int x2, .int x3]) (rest := []) K lnL_33 dL_law_322 (t_X11_tell x1 x2 x3 A hTX) rfl rfl rfl (Nat.le_of_ble_eq_true rfl) (by decide) (by decide) hcs hsl (fun r_1 N_2 h_3 => ?_)
  refine aw_pop K dL_law_325 rfl ?_
  refine aw_aload_n K dL_law_326 2 rfl rfl ?_
  refine aw_aload_n K dL_law_327 0 rfl rfl ?_
  refine aw_iload_n K dL_law_328 3 rfl rfl ?_
  refine aw_iconst (v := 1) K dL_law_329 (by decide) ?_
  refine aw_iadd K dL_law_330 ?_
  refine aw_sld K hX hL hn dL_law_331 g1.1 g1.2 ?_
  refine aw_topr (y := x1) e1 ?_
  refine aw_aload_n K dL_law_332 0 rfl rfl ?_
  refine aw_iload_n K dL_law_333 3 rfl rfl ?_
  refine aw_iconst (v := 2) K dL_law_334 (by decide) ?_
  refine aw_iadd K dL_law_335 ?_
  refine aw_sld K hX hL hn dL_law_336 g2.1 g2.2 ?_
  refine aw_topr (y := x2) e2 ?_
  refine aw_aload_n K dL_law_337 0 rfl rfl ?_
  refine aw_iload_n K dL_law_338 3 rfl rfl ?_
  refine aw_iconst (v := 3) K dL_law_339 (by decide) ?_
  refine aw_iadd K dL_law_340 ?_
  refine aw_sld K hX hL hn dL_law_341 g3.1 g3.2 ?_
  refine aw_topr (y := x3) e3 ?_
  refine aw_cM (As := [.int x1, .int x2, .int x3]) (rest := []) K lnL_37 dL_law_342 (t_X12_tell x1 x2 x3 B hTM) rfl rfl rfl (Nat.le_of_ble_eq_true rfl) (by decide) (by decide) hcs hsl (fun r_4 N_5 h_6 => ?_)
  refine aw_pop K dL_law_345 rfl ?_
  refine aw_goto (tgt := 1093) K dL_law_346 (by decide) ?_
  exact kE _ _ (⟨h_3.1, im_Ml hI.2.1 h_6.1 h_6.2.1, rl_Xl_Ml hI.2.2.1 hTX h_3.2.1 h_6.2.1, rt_Xl_Ml hI.2.2.2 h_3.2.1 h_6.2.1⟩)

set_option maxHeartbeats 400000 in
set_option maxRecDepth 100000 in
theorem law_case_5 {G : Cx} {L : Nat} {f : Nat → Int32} {n : Int32} {cs sl : Nat} {ad : Nat → Nat} {A B : Mx} {i x1 x2 x3 x4 x5 : Int32} (K : Ok G cL_law 4 RL ret 1312) (hX : Scr G L f) (hL : L < 2 ^ 31) (hn : Int32.ofNat L = n) (g1 : 0 ≤ i + 1 ∧ i + 1 < n) (g2 : 0 ≤ i + 2 ∧ i + 2 < n) (g3 : 0 ≤ i + 3 ∧ i + 3 < n) (g4 : 0 ≤ i + 4 ∧ i + 4 < n) (g5 : 0 ≤ i + 5 ∧ i + 5 < n) (e1 : f (i + 1).toNatClampNeg = x1) (e2 : f (i + 2).toNatClampNeg = x2) (e3 : f (i + 3).toNatClampNeg = x3) (e4 : f (i + 4).toNatClampNeg = x4) (e5 : f (i + 5).toNatClampNeg = x5) (hcs : cs ≤ xmc G) (hsl : sl ≤ xms G) (hI : Iv A B) (kE : ∀ A' B', Iv A' B' → AW G 4 (ad, shLaw) cs sl (jn 182 A' B') 1093 [(0, .ref 1001), (1, .ref 0), (2, .ref 182), (3, .int i)] []) : AW G 4 (ad, shLaw) cs sl (jn 182 A B) 349 [(0, .ref 1001), (1, .ref 0), (2, .ref 182), (3, .int i)] [] := by
  have hI0 := hI
  obtain ⟨hTX, ⟨hTM, h23, hWL, hWd, hWI⟩, hRl, hRt⟩ := hI0
  refine aw_aload_n K dL_law_349 1 rfl rfl ?_
  refine aw_aload_n K dL_law_350 0 rfl rfl ?_
  refine aw_iload_n K dL_law_351 3 rfl rfl ?_
  refine aw_iconst (v := 1) K dL_law_352 (by decide) ?_
  refine aw_iadd K dL_law_353 ?_
  refine aw_sld K hX hL hn dL_law_354 g1.1 g1.2 ?_
  refine aw_topr (y := x1) e1 ?_
  refine aw_aload_n K dL_law_355 0 rfl rfl ?_
  refine aw_iload_n K dL_law_356 3 rfl rfl ?_
  refine aw_iconst (v := 2) K dL_law_357 (by decide) ?_
  refine aw_iadd K dL_law_358 ?_
  refine aw_sld K hX hL hn dL_law_359 g2.1 g2.2 ?_
  refine aw_topr (y := x2) e2 ?_
  refine aw_cX (As := [.int x1, .int x2]) (rest := []) K lnL_38 dL_law_360 (t_X11_turn x1 x2 A hTX) rfl rfl rfl (Nat.le_of_ble_eq_true rfl) (by decide) (by decide) hcs hsl (fun r_1 N_2 h_3 => ?_)
  refine aw_pop K dL_law_363 rfl ?_
  refine aw_aload_n K dL_law_364 2 rfl rfl ?_
  refine aw_aload_n K dL_law_365 0 rfl rfl ?_
  refine aw_iload_n K dL_law_366 3 rfl rfl ?_
  refine aw_iconst (v := 1) K dL_law_367 (by decide) ?_
  refine aw_iadd K dL_law_368 ?_
  refine aw_sld K hX hL hn dL_law_369 g1.1 g1.2 ?_
  refine aw_topr (y := x1) e1 ?_
  refine aw_aload_n K dL_law_370 0 rfl rfl ?_
  refine aw_iload_n K dL_law_371 3 rfl rfl ?_
  refine aw_iconst (v := 2) K dL_law_372 (by decide) ?_
  refine aw_iadd K dL_law_373 ?_
  refine aw_sld K hX hL hn dL_law_374 g2.1 g2.2 ?_
  refine aw_topr (y := x2) e2 ?_
  refine aw_cM (As := [.int x1, .int x2]) (rest := []) K lnL_42 dL_law_375 (t_X12_turn x1 x2 B hTM) rfl rfl rfl (Nat.le_of_ble_eq_true rfl) (by decide) (by decide) hcs hsl (fun r_4 N_5 h_6 => ?_)
  refine aw_pop K dL_law_378 rfl ?_
  refine aw_goto (tgt := 1093) K dL_law_379 (by decide) ?_
  exact kE _ _ (⟨h_3.1, im_M hI.2.1 h_6.1 h_6.2.1, rl_X_M hI.2.2.1 hTX h_3.2.1 h_6.2.1, rt_X_M hI.2.2.2 h_3.2.1 h_6.2.1⟩)

set_option maxHeartbeats 400000 in
set_option maxRecDepth 100000 in
theorem law_case_6 {G : Cx} {L : Nat} {f : Nat → Int32} {n : Int32} {cs sl : Nat} {ad : Nat → Nat} {A B : Mx} {i x1 x2 x3 x4 x5 : Int32} (K : Ok G cL_law 4 RL ret 1312) (hX : Scr G L f) (hL : L < 2 ^ 31) (hn : Int32.ofNat L = n) (g1 : 0 ≤ i + 1 ∧ i + 1 < n) (g2 : 0 ≤ i + 2 ∧ i + 2 < n) (g3 : 0 ≤ i + 3 ∧ i + 3 < n) (g4 : 0 ≤ i + 4 ∧ i + 4 < n) (g5 : 0 ≤ i + 5 ∧ i + 5 < n) (e1 : f (i + 1).toNatClampNeg = x1) (e2 : f (i + 2).toNatClampNeg = x2) (e3 : f (i + 3).toNatClampNeg = x3) (e4 : f (i + 4).toNatClampNeg = x4) (e5 : f (i + 5).toNatClampNeg = x5) (hcs : cs ≤ xmc G) (hsl : sl ≤ xms G) (hI : Iv A B) (kE : ∀ A' B', Iv A' B' → AW G 4 (ad, shLaw) cs sl (jn 182 A' B') 1093 [(0, .ref 1001), (1, .ref 0), (2, .ref 182), (3, .int i)] []) : AW G 4 (ad, shLaw) cs sl (jn 182 A B) 382 [(0, .ref 1001), (1, .ref 0), (2, .ref 182), (3, .int i)] [] := by
  have hI0 := hI
  obtain ⟨hTX, ⟨hTM, h23, hWL, hWd, hWI⟩, hRl, hRt⟩ := hI0
  refine aw_aload_n K dL_law_382 1 rfl rfl ?_
  refine aw_aload_n K dL_law_383 0 rfl rfl ?_
  refine aw_iload_n K dL_law_384 3 rfl rfl ?_
  refine aw_iconst (v := 1) K dL_law_385 (by decide) ?_
  refine aw_iadd K dL_law_386 ?_
  refine aw_sld K hX hL hn dL_law_387 g1.1 g1.2 ?_
  refine aw_topr (y := x1) e1 ?_
  refine aw_aload_n K dL_law_388 0 rfl rfl ?_
  refine aw_iload_n K dL_law_389 3 rfl rfl ?_
  refine aw_iconst (v := 2) K dL_law_390 (by decide) ?_
  refine aw_iadd K dL_law_391 ?_
  refine aw_sld K hX hL hn dL_law_392 g2.1 g2.2 ?_
  refine aw_topr (y := x2) e2 ?_
  refine aw_aload_n K dL_law_393 0 rfl rfl ?_
  refine aw_iload_n K dL_law_394 3 rfl rfl ?_
  refine aw_iconst (v := 3) K dL_law_395 (by decide) ?_
  refine aw_iadd K dL_law_396 ?_
  refine aw_sld K hX hL hn dL_law_397 g3.1 g3.2 ?_
  refine aw_topr (y := x3) e3 ?_
  refine aw_cX (As := [.int x1, .int x2, .int x3]) (rest := []) K lnL_43 dL_law_398 (t_X11_absent x1 x2 x3 A hTX) rfl rfl rfl (Nat.le_of_ble_eq_true rfl) (by decide) (by decide) hcs hsl (fun r_1 N_2 h_3 => ?_)
  refine aw_pop K dL_law_401 rfl ?_
  refine aw_aload_n K dL_law_402 2 rfl rfl ?_
  refine aw_aload_n K dL_law_403 0 rfl rfl ?_
  refine aw_iload_n K dL_law_404 3 rfl rfl ?_
  refine aw_iconst (v := 1) K dL_law_405 (by decide) ?_
  refine aw_iadd K dL_law_406 ?_
  refine aw_sld K hX hL hn dL_law_407 g1.1 g1.2 ?_
  refine aw_topr (y := x1) e1 ?_
  refine aw_aload_n K dL_law_408 0 rfl rfl ?_
  refine aw_iload_n K dL_law_409 3 rfl rfl ?_
  refine aw_iconst (v := 2) K dL_law_410 (by decide) ?_
  refine aw_iadd K dL_law_411 ?_
  refine aw_sld K hX hL hn dL_law_412 g2.1 g2.2 ?_
  refine aw_topr (y := x2) e2 ?_
  refine aw_aload_n K dL_law_413 0 rfl rfl ?_
  refine aw_iload_n K dL_law_414 3 rfl rfl ?_
  refine aw_iconst (v := 3) K dL_law_415 (by decide) ?_
  refine aw_iadd K dL_law_416 ?_
  refine aw_sld K hX hL hn dL_law_417 g3.1 g3.2 ?_
  refine aw_topr (y := x3) e3 ?_
  refine aw_cM (As := [.int x1, .int x2, .int x3]) (rest := []) K lnL_46 dL_law_418 (t_X12_absent x1 x2 x3 B hTM) rfl rfl rfl (Nat.le_of_ble_eq_true rfl) (by decide) (by decide) hcs hsl (fun r_4 N_5 h_6 => ?_)
  refine aw_pop K dL_law_421 rfl ?_
  refine aw_goto (tgt := 1093) K dL_law_422 (by decide) ?_
  exact kE _ _ (⟨h_3.1, im_Ma hI.2.1 h_6.1 h_6.2.1, (rl_absent hI.2.2.1 hTX h_3.2.1 h_6.2.1 h_3.2.2 h_6.2.2).2, rt_Xa_Ma hI.2.2.2 h_3.2.1 h_6.2.1⟩)

set_option maxHeartbeats 400000 in
set_option maxRecDepth 100000 in
theorem law_case_7 {G : Cx} {L : Nat} {f : Nat → Int32} {n : Int32} {cs sl : Nat} {ad : Nat → Nat} {A B : Mx} {i x1 x2 x3 x4 x5 : Int32} (K : Ok G cL_law 4 RL ret 1312) (hX : Scr G L f) (hL : L < 2 ^ 31) (hn : Int32.ofNat L = n) (g1 : 0 ≤ i + 1 ∧ i + 1 < n) (g2 : 0 ≤ i + 2 ∧ i + 2 < n) (g3 : 0 ≤ i + 3 ∧ i + 3 < n) (g4 : 0 ≤ i + 4 ∧ i + 4 < n) (g5 : 0 ≤ i + 5 ∧ i + 5 < n) (e1 : f (i + 1).toNatClampNeg = x1) (e2 : f (i + 2).toNatClampNeg = x2) (e3 : f (i + 3).toNatClampNeg = x3) (e4 : f (i + 4).toNatClampNeg = x4) (e5 : f (i + 5).toNatClampNeg = x5) (hcs : cs ≤ xmc G) (hsl : sl ≤ xms G) (hI : Iv A B) (kE : ∀ A' B', Iv A' B' → AW G 4 (ad, shLaw) cs sl (jn 182 A' B') 1093 [(0, .ref 1001), (1, .ref 0), (2, .ref 182), (3, .int i)] []) : AW G 4 (ad, shLaw) cs sl (jn 182 A B) 425 [(0, .ref 1001), (1, .ref 0), (2, .ref 182), (3, .int i)] [] := by
  have hI0 := hI
  obtain ⟨hTX, ⟨hTM, h23, hWL, hWd, hWI⟩, hRl, hRt⟩ := hI0
  refine aw_aload_n K dL_law_425 1 rfl rfl ?_
  refine aw_aload_n K dL_law_426 0 rfl rfl ?_
  refine aw_iload_n K dL_law_427 3 rfl rfl ?_
  refine aw_iconst (v := 1) K dL_law_428 (by decide) ?_
  refine aw_iadd K dL_law_429 ?_
  refine aw_sld K hX hL hn dL_law_430 g1.1 g1.2 ?_
  refine aw_topr (y := x1) e1 ?_
  refine aw_aload_n K dL_law_431 0 rfl rfl ?_
  refine aw_iload_n K dL_law_432 3 rfl rfl ?_
  refine aw_iconst (v := 2) K dL_law_433 (by decide) ?_
  refine aw_iadd K dL_law_434 ?_
  refine aw_sld K hX hL hn dL_law_435 g2.1 g2.2 ?_
  refine aw_topr (y := x2) e2 ?_
  refine aw_aload_n K dL_law_436 0 rfl rfl ?_
  refine aw_iload_n K dL_law_437 3 rfl rfl ?_
  refine aw_iconst (v := 3) K dL_law_438 (by decide) ?_
  refine aw_iadd K dL_law_439 ?_
  refine aw_sld K hX hL hn dL_law_440 g3.1 g3.2 ?_
  refine aw_topr (y := x3) e3 ?_
  refine aw_cX (As := [.int x1, .int x2, .int x3]) (rest := []) K lnL_47 dL_law_441 (t_X11_splice x1 x2 x3 A hTX) rfl rfl rfl (Nat.le_of_ble_eq_true rfl) (by decide) (by decide) hcs hsl (fun r_1 N_2 h_3 => ?_)
  refine aw_pop K dL_law_444 rfl ?_
  refine aw_aload_n K dL_law_445 2 rfl rfl ?_
  refine aw_aload_n K dL_law_446 0 rfl rfl ?_
  refine aw_iload_n K dL_law_447 3 rfl rfl ?_
  refine aw_iconst (v := 1) K dL_law_448 (by decide) ?_
  refine aw_iadd K dL_law_449 ?_
  refine aw_sld K hX hL hn dL_law_450 g1.1 g1.2 ?_
  refine aw_topr (y := x1) e1 ?_
  refine aw_aload_n K dL_law_451 0 rfl rfl ?_
  refine aw_iload_n K dL_law_452 3 rfl rfl ?_
  refine aw_iconst (v := 2) K dL_law_453 (by decide) ?_
  refine aw_iadd K dL_law_454 ?_
  refine aw_sld K hX hL hn dL_law_455 g2.1 g2.2 ?_
  refine aw_topr (y := x2) e2 ?_
  refine aw_aload_n K dL_law_456 0 rfl rfl ?_
  refine aw_iload_n K dL_law_457 3 rfl rfl ?_
  refine aw_iconst (v := 3) K dL_law_458 (by decide) ?_
  refine aw_iadd K dL_law_459 ?_
  refine aw_sld K hX hL hn dL_law_460 g3.1 g3.2 ?_
  refine aw_topr (y := x3) e3 ?_
  refine aw_cM (As := [.int x1, .int x2, .int x3]) (rest := []) K lnL_50 dL_law_461 (t_X12_splice x1 x2 x3 B hTM) rfl rfl rfl (Nat.le_of_ble_eq_true rfl) (by decide) (by decide) hcs hsl (fun r_4 N_5 h_6 => ?_)
  refine aw_pop K dL_law_464 rfl ?_
  refine aw_goto (tgt := 1093) K dL_law_465 (by decide) ?_
  exact kE _ _ (⟨h_3.1, im_Ms hI.2.1 h_6.1 h_6.2.1, (rl_splice hI.2.2.1 hTX h_3.2.1 h_6.2.1 h_3.2.2 h_6.2.2).2, rt_Xs_Ms hI.2.2.2 h_3.2.1 h_6.2.1⟩)

set_option maxHeartbeats 400000 in
set_option maxRecDepth 100000 in
theorem law_case_8 {G : Cx} {L : Nat} {f : Nat → Int32} {n : Int32} {cs sl : Nat} {ad : Nat → Nat} {A B : Mx} {i x1 x2 x3 x4 x5 : Int32} (K : Ok G cL_law 4 RL ret 1312) (hX : Scr G L f) (hL : L < 2 ^ 31) (hn : Int32.ofNat L = n) (g1 : 0 ≤ i + 1 ∧ i + 1 < n) (g2 : 0 ≤ i + 2 ∧ i + 2 < n) (g3 : 0 ≤ i + 3 ∧ i + 3 < n) (g4 : 0 ≤ i + 4 ∧ i + 4 < n) (g5 : 0 ≤ i + 5 ∧ i + 5 < n) (e1 : f (i + 1).toNatClampNeg = x1) (e2 : f (i + 2).toNatClampNeg = x2) (e3 : f (i + 3).toNatClampNeg = x3) (e4 : f (i + 4).toNatClampNeg = x4) (e5 : f (i + 5).toNatClampNeg = x5) (hcs : cs ≤ xmc G) (hsl : sl ≤ xms G) (hI : Iv A B) (kE : ∀ A' B', Iv A' B' → AW G 4 (ad, shLaw) cs sl (jn 182 A' B') 1093 [(0, .ref 1001), (1, .ref 0), (2, .ref 182), (3, .int i)] []) : AW G 4 (ad, shLaw) cs sl (jn 182 A B) 468 [(0, .ref 1001), (1, .ref 0), (2, .ref 182), (3, .int i)] [] := by
  have hI0 := hI
  obtain ⟨hTX, ⟨hTM, h23, hWL, hWd, hWI⟩, hRl, hRt⟩ := hI0
  refine aw_aload_n K dL_law_468 1 rfl rfl ?_
  refine aw_aload_n K dL_law_469 0 rfl rfl ?_
  refine aw_iload_n K dL_law_470 3 rfl rfl ?_
  refine aw_iconst (v := 1) K dL_law_471 (by decide) ?_
  refine aw_iadd K dL_law_472 ?_
  refine aw_sld K hX hL hn dL_law_473 g1.1 g1.2 ?_
  refine aw_topr (y := x1) e1 ?_
  refine aw_aload_n K dL_law_474 0 rfl rfl ?_
  refine aw_iload_n K dL_law_475 3 rfl rfl ?_
  refine aw_iconst (v := 2) K dL_law_476 (by decide) ?_
  refine aw_iadd K dL_law_477 ?_
  refine aw_sld K hX hL hn dL_law_478 g2.1 g2.2 ?_
  refine aw_topr (y := x2) e2 ?_
  refine aw_cX (As := [.int x1, .int x2]) (rest := []) K lnL_51 dL_law_479 (t_X11_mend x1 x2 A hTX) rfl rfl rfl (Nat.le_of_ble_eq_true rfl) (by decide) (by decide) hcs hsl (fun r_1 N_2 h_3 => ?_)
  refine aw_pop K dL_law_482 rfl ?_
  refine aw_aload_n K dL_law_483 2 rfl rfl ?_
  refine aw_aload_n K dL_law_484 0 rfl rfl ?_
  refine aw_iload_n K dL_law_485 3 rfl rfl ?_
  refine aw_iconst (v := 1) K dL_law_486 (by decide) ?_
  refine aw_iadd K dL_law_487 ?_
  refine aw_sld K hX hL hn dL_law_488 g1.1 g1.2 ?_
  refine aw_topr (y := x1) e1 ?_
  refine aw_aload_n K dL_law_489 0 rfl rfl ?_
  refine aw_iload_n K dL_law_490 3 rfl rfl ?_
  refine aw_iconst (v := 2) K dL_law_491 (by decide) ?_
  refine aw_iadd K dL_law_492 ?_
  refine aw_sld K hX hL hn dL_law_493 g2.1 g2.2 ?_
  refine aw_topr (y := x2) e2 ?_
  refine aw_cM (As := [.int x1, .int x2]) (rest := []) K lnL_54 dL_law_494 (t_X12_mend x1 x2 B hTM) rfl rfl rfl (Nat.le_of_ble_eq_true rfl) (by decide) (by decide) hcs hsl (fun r_4 N_5 h_6 => ?_)
  refine aw_pop K dL_law_497 rfl ?_
  refine aw_goto (tgt := 1093) K dL_law_498 (by decide) ?_
  exact kE _ _ (⟨h_3.1, im_M hI.2.1 h_6.1 h_6.2.1, rl_X_M hI.2.2.1 hTX h_3.2.1 h_6.2.1, rt_X_M hI.2.2.2 h_3.2.1 h_6.2.1⟩)

set_option maxHeartbeats 400000 in
set_option maxRecDepth 100000 in
theorem law_case_9 {G : Cx} {L : Nat} {f : Nat → Int32} {n : Int32} {cs sl : Nat} {ad : Nat → Nat} {A B : Mx} {i x1 x2 x3 x4 x5 : Int32} (K : Ok G cL_law 4 RL ret 1312) (hX : Scr G L f) (hL : L < 2 ^ 31) (hn : Int32.ofNat L = n) (g1 : 0 ≤ i + 1 ∧ i + 1 < n) (g2 : 0 ≤ i + 2 ∧ i + 2 < n) (g3 : 0 ≤ i + 3 ∧ i + 3 < n) (g4 : 0 ≤ i + 4 ∧ i + 4 < n) (g5 : 0 ≤ i + 5 ∧ i + 5 < n) (e1 : f (i + 1).toNatClampNeg = x1) (e2 : f (i + 2).toNatClampNeg = x2) (e3 : f (i + 3).toNatClampNeg = x3) (e4 : f (i + 4).toNatClampNeg = x4) (e5 : f (i + 5).toNatClampNeg = x5) (hcs : cs ≤ xmc G) (hsl : sl ≤ xms G) (hI : Iv A B) (kE : ∀ A' B', Iv A' B' → AW G 4 (ad, shLaw) cs sl (jn 182 A' B') 1093 [(0, .ref 1001), (1, .ref 0), (2, .ref 182), (3, .int i)] []) : AW G 4 (ad, shLaw) cs sl (jn 182 A B) 501 [(0, .ref 1001), (1, .ref 0), (2, .ref 182), (3, .int i)] [] := by
  have hI0 := hI
  obtain ⟨hTX, ⟨hTM, h23, hWL, hWd, hWI⟩, hRl, hRt⟩ := hI0
  refine aw_aload_n K dL_law_501 1 rfl rfl ?_
  refine aw_aload_n K dL_law_502 0 rfl rfl ?_
  refine aw_iload_n K dL_law_503 3 rfl rfl ?_
  refine aw_iconst (v := 1) K dL_law_504 (by decide) ?_
  refine aw_iadd K dL_law_505 ?_
  refine aw_sld K hX hL hn dL_law_506 g1.1 g1.2 ?_
  refine aw_topr (y := x1) e1 ?_
  refine aw_aload_n K dL_law_507 0 rfl rfl ?_
  refine aw_iload_n K dL_law_508 3 rfl rfl ?_
  refine aw_iconst (v := 2) K dL_law_509 (by decide) ?_
  refine aw_iadd K dL_law_510 ?_
  refine aw_sld K hX hL hn dL_law_511 g2.1 g2.2 ?_
  refine aw_topr (y := x2) e2 ?_
  refine aw_aload_n K dL_law_512 0 rfl rfl ?_
  refine aw_iload_n K dL_law_513 3 rfl rfl ?_
  refine aw_iconst (v := 3) K dL_law_514 (by decide) ?_
  refine aw_iadd K dL_law_515 ?_
  refine aw_sld K hX hL hn dL_law_516 g3.1 g3.2 ?_
  refine aw_topr (y := x3) e3 ?_
  refine aw_if_eq (tgt := 524) K dL_law_517 (by decide) (fun c_1 => ?_) (fun c_1 => ?_)
  · refine aw_iconst (v := 0) K dL_law_524 (by decide) ?_
    refine aw_cX (As := [.int x1, .int x2, .int 0]) (rest := []) K lnL_55 dL_law_525 (t_X11_foes x1 x2 0 A hTX (by decide)) rfl rfl rfl (Nat.le_of_ble_eq_true rfl) (by decide) (by decide) hcs hsl (fun r_2 N_3 h_4 => ?_)
    refine aw_pop K dL_law_528 rfl ?_
    refine aw_aload_n K dL_law_529 2 rfl rfl ?_
    refine aw_aload_n K dL_law_530 0 rfl rfl ?_
    refine aw_iload_n K dL_law_531 3 rfl rfl ?_
    refine aw_iconst (v := 1) K dL_law_532 (by decide) ?_
    refine aw_iadd K dL_law_533 ?_
    refine aw_sld K hX hL hn dL_law_534 g1.1 g1.2 ?_
    refine aw_topr (y := x1) e1 ?_
    refine aw_aload_n K dL_law_535 0 rfl rfl ?_
    refine aw_iload_n K dL_law_536 3 rfl rfl ?_
    refine aw_iconst (v := 2) K dL_law_537 (by decide) ?_
    refine aw_iadd K dL_law_538 ?_
    refine aw_sld K hX hL hn dL_law_539 g2.1 g2.2 ?_
    refine aw_topr (y := x2) e2 ?_
    refine aw_aload_n K dL_law_540 0 rfl rfl ?_
    refine aw_iload_n K dL_law_541 3 rfl rfl ?_
    refine aw_iconst (v := 3) K dL_law_542 (by decide) ?_
    refine aw_iadd K dL_law_543 ?_
    refine aw_sld K hX hL hn dL_law_544 g3.1 g3.2 ?_
    refine aw_topr (y := x3) e3 ?_
    refine aw_if_eq (tgt := 552) K dL_law_545 (by decide) (fun c_5 => ?_) (fun c_5 => ?_)
    · refine aw_iconst (v := 0) K dL_law_552 (by decide) ?_
      refine aw_cM (As := [.int x1, .int x2, .int 0]) (rest := []) K lnL_59 dL_law_553 (t_X12_foes x1 x2 0 B hTM (by decide)) rfl rfl rfl (Nat.le_of_ble_eq_true rfl) (by decide) (by decide) hcs hsl (fun r_6 N_7 h_8 => ?_)
      refine aw_pop K dL_law_556 rfl ?_
      refine aw_goto (tgt := 1093) K dL_law_557 (by decide) ?_
      exact kE _ _ (⟨h_4.1, im_Mo hI.2.1 h_8.1 h_8.2.1, rl_Xo_Mo hI.2.2.1 hTX h_4.2.1 h_8.2.1, rt_Xo_Mo hI.2.2.2 h_4.2.1 h_8.2.1⟩)
    · exact absurd c_1 c_5
  · refine aw_iconst (v := 1) K dL_law_520 (by decide) ?_
    refine aw_goto (tgt := 525) K dL_law_521 (by decide) ?_
    refine aw_cX (As := [.int x1, .int x2, .int 1]) (rest := []) K lnL_55 dL_law_525 (t_X11_foes x1 x2 1 A hTX (by decide)) rfl rfl rfl (Nat.le_of_ble_eq_true rfl) (by decide) (by decide) hcs hsl (fun r_9 N_10 h_11 => ?_)
    refine aw_pop K dL_law_528 rfl ?_
    refine aw_aload_n K dL_law_529 2 rfl rfl ?_
    refine aw_aload_n K dL_law_530 0 rfl rfl ?_
    refine aw_iload_n K dL_law_531 3 rfl rfl ?_
    refine aw_iconst (v := 1) K dL_law_532 (by decide) ?_
    refine aw_iadd K dL_law_533 ?_
    refine aw_sld K hX hL hn dL_law_534 g1.1 g1.2 ?_
    refine aw_topr (y := x1) e1 ?_
    refine aw_aload_n K dL_law_535 0 rfl rfl ?_
    refine aw_iload_n K dL_law_536 3 rfl rfl ?_
    refine aw_iconst (v := 2) K dL_law_537 (by decide) ?_
    refine aw_iadd K dL_law_538 ?_
    refine aw_sld K hX hL hn dL_law_539 g2.1 g2.2 ?_
    refine aw_topr (y := x2) e2 ?_
    refine aw_aload_n K dL_law_540 0 rfl rfl ?_
    refine aw_iload_n K dL_law_541 3 rfl rfl ?_
    refine aw_iconst (v := 3) K dL_law_542 (by decide) ?_
    refine aw_iadd K dL_law_543 ?_
    refine aw_sld K hX hL hn dL_law_544 g3.1 g3.2 ?_
    refine aw_topr (y := x3) e3 ?_
    refine aw_if_eq (tgt := 552) K dL_law_545 (by decide) (fun c_12 => ?_) (fun c_12 => ?_)
    · exact absurd c_12 c_1
    · refine aw_iconst (v := 1) K dL_law_548 (by decide) ?_
      refine aw_goto (tgt := 553) K dL_law_549 (by decide) ?_
      refine aw_cM (As := [.int x1, .int x2, .int 1]) (rest := []) K lnL_59 dL_law_553 (t_X12_foes x1 x2 1 B hTM (by decide)) rfl rfl rfl (Nat.le_of_ble_eq_true rfl) (by decide) (by decide) hcs hsl (fun r_13 N_14 h_15 => ?_)
      refine aw_pop K dL_law_556 rfl ?_
      refine aw_goto (tgt := 1093) K dL_law_557 (by decide) ?_
      exact kE _ _ (⟨h_11.1, im_Mo hI.2.1 h_15.1 h_15.2.1, rl_Xo_Mo hI.2.2.1 hTX h_11.2.1 h_15.2.1, rt_Xo_Mo hI.2.2.2 h_11.2.1 h_15.2.1⟩)

set_option maxHeartbeats 400000 in
set_option maxRecDepth 100000 in
theorem law_case_10 {G : Cx} {L : Nat} {f : Nat → Int32} {n : Int32} {cs sl : Nat} {ad : Nat → Nat} {A B : Mx} {i x1 x2 x3 x4 x5 : Int32} (K : Ok G cL_law 4 RL ret 1312) (hX : Scr G L f) (hL : L < 2 ^ 31) (hn : Int32.ofNat L = n) (g1 : 0 ≤ i + 1 ∧ i + 1 < n) (g2 : 0 ≤ i + 2 ∧ i + 2 < n) (g3 : 0 ≤ i + 3 ∧ i + 3 < n) (g4 : 0 ≤ i + 4 ∧ i + 4 < n) (g5 : 0 ≤ i + 5 ∧ i + 5 < n) (e1 : f (i + 1).toNatClampNeg = x1) (e2 : f (i + 2).toNatClampNeg = x2) (e3 : f (i + 3).toNatClampNeg = x3) (e4 : f (i + 4).toNatClampNeg = x4) (e5 : f (i + 5).toNatClampNeg = x5) (hcs : cs ≤ xmc G) (hsl : sl ≤ xms G) (hI : Iv A B) (kE : ∀ A' B', Iv A' B' → AW G 4 (ad, shLaw) cs sl (jn 182 A' B') 1093 [(0, .ref 1001), (1, .ref 0), (2, .ref 182), (3, .int i)] []) : AW G 4 (ad, shLaw) cs sl (jn 182 A B) 560 [(0, .ref 1001), (1, .ref 0), (2, .ref 182), (3, .int i)] [] := by
  have hI0 := hI
  obtain ⟨hTX, ⟨hTM, h23, hWL, hWd, hWI⟩, hRl, hRt⟩ := hI0
  refine aw_aload_n K dL_law_560 1 rfl rfl ?_
  refine aw_aload_n K dL_law_561 0 rfl rfl ?_
  refine aw_iload_n K dL_law_562 3 rfl rfl ?_
  refine aw_iconst (v := 1) K dL_law_563 (by decide) ?_
  refine aw_iadd K dL_law_564 ?_
  refine aw_sld K hX hL hn dL_law_565 g1.1 g1.2 ?_
  refine aw_topr (y := x1) e1 ?_
  refine aw_aload_n K dL_law_566 0 rfl rfl ?_
  refine aw_iload_n K dL_law_567 3 rfl rfl ?_
  refine aw_iconst (v := 2) K dL_law_568 (by decide) ?_
  refine aw_iadd K dL_law_569 ?_
  refine aw_sld K hX hL hn dL_law_570 g2.1 g2.2 ?_
  refine aw_topr (y := x2) e2 ?_
  refine aw_aload_n K dL_law_571 0 rfl rfl ?_
  refine aw_iload_n K dL_law_572 3 rfl rfl ?_
  refine aw_iconst (v := 3) K dL_law_573 (by decide) ?_
  refine aw_iadd K dL_law_574 ?_
  refine aw_sld K hX hL hn dL_law_575 g3.1 g3.2 ?_
  refine aw_topr (y := x3) e3 ?_
  refine aw_aload_n K dL_law_576 0 rfl rfl ?_
  refine aw_iload_n K dL_law_577 3 rfl rfl ?_
  refine aw_iconst (v := 4) K dL_law_578 (by decide) ?_
  refine aw_iadd K dL_law_579 ?_
  refine aw_sld K hX hL hn dL_law_580 g4.1 g4.2 ?_
  refine aw_topr (y := x4) e4 ?_
  refine aw_aload_n K dL_law_581 0 rfl rfl ?_
  refine aw_iload_n K dL_law_582 3 rfl rfl ?_
  refine aw_iconst (v := 5) K dL_law_583 (by decide) ?_
  refine aw_iadd K dL_law_584 ?_
  refine aw_sld K hX hL hn dL_law_585 g5.1 g5.2 ?_
  refine aw_topr (y := x5) e5 ?_
  refine aw_cX (As := [.int x1, .int x2, .int x3, .int x4, .int x5]) (rest := []) K lnL_60 dL_law_586 (t_X11_feed x1 x2 x3 x4 x5 A hTX) rfl rfl rfl (Nat.le_of_ble_eq_true rfl) (by decide) (by decide) hcs hsl (fun r_1 N_2 h_3 => ?_)
  refine aw_pop K dL_law_589 rfl ?_
  refine aw_aload_n K dL_law_590 2 rfl rfl ?_
  refine aw_aload_n K dL_law_591 0 rfl rfl ?_
  refine aw_iload_n K dL_law_592 3 rfl rfl ?_
  refine aw_iconst (v := 1) K dL_law_593 (by decide) ?_
  refine aw_iadd K dL_law_594 ?_
  refine aw_sld K hX hL hn dL_law_595 g1.1 g1.2 ?_
  refine aw_topr (y := x1) e1 ?_
  refine aw_aload_n K dL_law_596 0 rfl rfl ?_
  refine aw_iload_n K dL_law_597 3 rfl rfl ?_
  refine aw_iconst (v := 2) K dL_law_598 (by decide) ?_
  refine aw_iadd K dL_law_599 ?_
  refine aw_sld K hX hL hn dL_law_600 g2.1 g2.2 ?_
  refine aw_topr (y := x2) e2 ?_
  refine aw_aload_n K dL_law_601 0 rfl rfl ?_
  refine aw_iload_n K dL_law_602 3 rfl rfl ?_
  refine aw_iconst (v := 3) K dL_law_603 (by decide) ?_
  refine aw_iadd K dL_law_604 ?_
  refine aw_sld K hX hL hn dL_law_605 g3.1 g3.2 ?_
  refine aw_topr (y := x3) e3 ?_
  refine aw_aload_n K dL_law_606 0 rfl rfl ?_
  refine aw_iload_n K dL_law_607 3 rfl rfl ?_
  refine aw_iconst (v := 4) K dL_law_608 (by decide) ?_
  refine aw_iadd K dL_law_609 ?_
  refine aw_sld K hX hL hn dL_law_610 g4.1 g4.2 ?_
  refine aw_topr (y := x4) e4 ?_
  refine aw_aload_n K dL_law_611 0 rfl rfl ?_
  refine aw_iload_n K dL_law_612 3 rfl rfl ?_
  refine aw_iconst (v := 5) K dL_law_613 (by decide) ?_
  refine aw_iadd K dL_law_614 ?_
  refine aw_sld K hX hL hn dL_law_615 g5.1 g5.2 ?_
  refine aw_topr (y := x5) e5 ?_
  refine aw_cM (As := [.int x1, .int x2, .int x3, .int x4, .int x5]) (rest := []) K lnL_64 dL_law_616 (t_X12_feed x1 x2 x3 x4 x5 B hTM) rfl rfl rfl (Nat.le_of_ble_eq_true rfl) (by decide) (by decide) hcs hsl (fun r_4 N_5 h_6 => ?_)
  refine aw_pop K dL_law_619 rfl ?_
  refine aw_goto (tgt := 1093) K dL_law_620 (by decide) ?_
  exact kE _ _ (⟨h_3.1, im_T hI.2.1 h_6.1 h_6.2.1, (rl_feed hI.2.2.1 hTX h_3.2.1 h_6.2.1 h_3.2.2.1 h_6.2.2.1).2, rt_feed hI.2.2.2 hTX hI.2.2.1.1.2.2.2.2.2.2.2 h_3.2.1 h_6.2.1 h_3.2.2 h_6.2.2⟩)

set_option maxHeartbeats 400000 in
set_option maxRecDepth 100000 in
theorem law_case_11 {G : Cx} {L : Nat} {f : Nat → Int32} {n : Int32} {cs sl : Nat} {ad : Nat → Nat} {A B : Mx} {i x1 x2 x3 x4 x5 : Int32} (K : Ok G cL_law 4 RL ret 1312) (hX : Scr G L f) (hL : L < 2 ^ 31) (hn : Int32.ofNat L = n) (g1 : 0 ≤ i + 1 ∧ i + 1 < n) (g2 : 0 ≤ i + 2 ∧ i + 2 < n) (g3 : 0 ≤ i + 3 ∧ i + 3 < n) (g4 : 0 ≤ i + 4 ∧ i + 4 < n) (g5 : 0 ≤ i + 5 ∧ i + 5 < n) (e1 : f (i + 1).toNatClampNeg = x1) (e2 : f (i + 2).toNatClampNeg = x2) (e3 : f (i + 3).toNatClampNeg = x3) (e4 : f (i + 4).toNatClampNeg = x4) (e5 : f (i + 5).toNatClampNeg = x5) (hcs : cs ≤ xmc G) (hsl : sl ≤ xms G) (hI : Iv A B) (kE : ∀ A' B', Iv A' B' → AW G 4 (ad, shLaw) cs sl (jn 182 A' B') 1093 [(0, .ref 1001), (1, .ref 0), (2, .ref 182), (3, .int i)] []) : AW G 4 (ad, shLaw) cs sl (jn 182 A B) 623 [(0, .ref 1001), (1, .ref 0), (2, .ref 182), (3, .int i)] [] := by
  have hI0 := hI
  obtain ⟨hTX, ⟨hTM, h23, hWL, hWd, hWI⟩, hRl, hRt⟩ := hI0
  refine aw_aload_n K dL_law_623 1 rfl rfl ?_
  refine aw_aload_n K dL_law_624 0 rfl rfl ?_
  refine aw_iload_n K dL_law_625 3 rfl rfl ?_
  refine aw_iconst (v := 1) K dL_law_626 (by decide) ?_
  refine aw_iadd K dL_law_627 ?_
  refine aw_sld K hX hL hn dL_law_628 g1.1 g1.2 ?_
  refine aw_topr (y := x1) e1 ?_
  refine aw_cX (As := [.int x1]) (rest := []) K lnL_65 dL_law_629 (t_X11_end x1 A hTX) rfl rfl rfl (Nat.le_of_ble_eq_true rfl) (by decide) (by decide) hcs hsl (fun r_1 N_2 h_3 => ?_)
  refine aw_pop K dL_law_632 rfl ?_
  refine aw_aload_n K dL_law_633 2 rfl rfl ?_
  refine aw_aload_n K dL_law_634 0 rfl rfl ?_
  refine aw_iload_n K dL_law_635 3 rfl rfl ?_
  refine aw_iconst (v := 1) K dL_law_636 (by decide) ?_
  refine aw_iadd K dL_law_637 ?_
  refine aw_sld K hX hL hn dL_law_638 g1.1 g1.2 ?_
  refine aw_topr (y := x1) e1 ?_
  refine aw_cM (As := [.int x1]) (rest := []) K lnL_68 dL_law_639 (t_X12_end x1 B hTM) rfl rfl rfl (Nat.le_of_ble_eq_true rfl) (by decide) (by decide) hcs hsl (fun r_4 N_5 h_6 => ?_)
  refine aw_pop K dL_law_642 rfl ?_
  refine aw_goto (tgt := 1093) K dL_law_643 (by decide) ?_
  exact kE _ _ (⟨h_3.1, im_Mt hI.2.1 h_6.1 h_6.2.1, (rl_end hI.2.2.1 hTX h_3.2.1 h_6.2.1 h_3.2.2 h_6.2.2).2, rt_end hI.2.2.2 hTX h_3.2.1 h_6.2.1 h_3.2.2⟩)

set_option maxHeartbeats 400000 in
set_option maxRecDepth 100000 in
theorem law_case_12 {G : Cx} {L : Nat} {f : Nat → Int32} {n : Int32} {cs sl : Nat} {ad : Nat → Nat} {A B : Mx} {i x1 x2 x3 x4 x5 : Int32} (K : Ok G cL_law 4 RL ret 1312) (hX : Scr G L f) (hL : L < 2 ^ 31) (hn : Int32.ofNat L = n) (g1 : 0 ≤ i + 1 ∧ i + 1 < n) (g2 : 0 ≤ i + 2 ∧ i + 2 < n) (g3 : 0 ≤ i + 3 ∧ i + 3 < n) (g4 : 0 ≤ i + 4 ∧ i + 4 < n) (g5 : 0 ≤ i + 5 ∧ i + 5 < n) (e1 : f (i + 1).toNatClampNeg = x1) (e2 : f (i + 2).toNatClampNeg = x2) (e3 : f (i + 3).toNatClampNeg = x3) (e4 : f (i + 4).toNatClampNeg = x4) (e5 : f (i + 5).toNatClampNeg = x5) (hcs : cs ≤ xmc G) (hsl : sl ≤ xms G) (hI : Iv A B) (kE : ∀ A' B', Iv A' B' → AW G 4 (ad, shLaw) cs sl (jn 182 A' B') 1093 [(0, .ref 1001), (1, .ref 0), (2, .ref 182), (3, .int i)] []) : AW G 4 (ad, shLaw) cs sl (jn 182 A B) 646 [(0, .ref 1001), (1, .ref 0), (2, .ref 182), (3, .int i)] [] := by
  have hI0 := hI
  obtain ⟨hTX, ⟨hTM, h23, hWL, hWd, hWI⟩, hRl, hRt⟩ := hI0
  refine aw_aload_n K dL_law_646 1 rfl rfl ?_
  refine aw_cX (As := []) (rest := []) K lnL_69 dL_law_647 (t_X11_text A hTX) rfl rfl rfl (Nat.le_of_ble_eq_true rfl) (by decide) (by decide) hcs hsl (fun r_1 N_2 h_3 => ?_)
  refine aw_pop K dL_law_650 rfl ?_
  refine aw_aload_n K dL_law_651 2 rfl rfl ?_
  refine aw_cM (As := []) (rest := []) K lnL_73 dL_law_652 (t_X12_text B hTM hWd hWL) rfl rfl rfl (Nat.le_of_ble_eq_true rfl) (by decide) (by decide) hcs hsl (fun r_4 N_5 h_6 => ?_)
  refine aw_pop K dL_law_655 rfl ?_
  refine aw_goto (tgt := 1093) K dL_law_656 (by decide) ?_
  exact kE _ _ (⟨h_3.1, im_Y hI.2.1 h_6.1 h_6.2.1 h_6.2.2.1, rl_text hI.2.2.1 hTX h_3.2.1 h_6.2.1 (tx_p h_3.2.2), (rt_text hI.2.2.2 hTX hI.2.2.1.1.2.2.2.2.2.2.2 h_3.2.2 h_6.2.2.2).2⟩)

set_option maxHeartbeats 400000 in
set_option maxRecDepth 100000 in
theorem law_case_13 {G : Cx} {L : Nat} {f : Nat → Int32} {n : Int32} {cs sl : Nat} {ad : Nat → Nat} {A B : Mx} {i x1 x2 x3 x4 x5 : Int32} (K : Ok G cL_law 4 RL ret 1312) (hX : Scr G L f) (hL : L < 2 ^ 31) (hn : Int32.ofNat L = n) (g1 : 0 ≤ i + 1 ∧ i + 1 < n) (g2 : 0 ≤ i + 2 ∧ i + 2 < n) (g3 : 0 ≤ i + 3 ∧ i + 3 < n) (g4 : 0 ≤ i + 4 ∧ i + 4 < n) (g5 : 0 ≤ i + 5 ∧ i + 5 < n) (e1 : f (i + 1).toNatClampNeg = x1) (e2 : f (i + 2).toNatClampNeg = x2) (e3 : f (i + 3).toNatClampNeg = x3) (e4 : f (i + 4).toNatClampNeg = x4) (e5 : f (i + 5).toNatClampNeg = x5) (hcs : cs ≤ xmc G) (hsl : sl ≤ xms G) (hI : Iv A B) (kE : ∀ A' B', Iv A' B' → AW G 4 (ad, shLaw) cs sl (jn 182 A' B') 1093 [(0, .ref 1001), (1, .ref 0), (2, .ref 182), (3, .int i)] []) : AW G 4 (ad, shLaw) cs sl (jn 182 A B) 659 [(0, .ref 1001), (1, .ref 0), (2, .ref 182), (3, .int i)] [] := by
  have hI0 := hI
  obtain ⟨hTX, ⟨hTM, h23, hWL, hWd, hWI⟩, hRl, hRt⟩ := hI0
  refine aw_aload_n K dL_law_659 1 rfl rfl ?_
  refine aw_aload_n K dL_law_660 0 rfl rfl ?_
  refine aw_iload_n K dL_law_661 3 rfl rfl ?_
  refine aw_iconst (v := 1) K dL_law_662 (by decide) ?_
  refine aw_iadd K dL_law_663 ?_
  refine aw_sld K hX hL hn dL_law_664 g1.1 g1.2 ?_
  refine aw_topr (y := x1) e1 ?_
  refine aw_cX (As := [.int x1]) (rest := []) K lnL_74 dL_law_665 (t_X11_fault x1 A hTX) rfl rfl rfl (Nat.le_of_ble_eq_true rfl) (by decide) (by decide) hcs hsl (fun r_1 N_2 h_3 => ?_)
  obtain ⟨eM, h_3⟩ := h_3
  subst eM
  refine aw_aload_n K dL_law_668 2 rfl rfl ?_
  refine aw_aload_n K dL_law_669 0 rfl rfl ?_
  refine aw_iload_n K dL_law_670 3 rfl rfl ?_
  refine aw_iconst (v := 1) K dL_law_671 (by decide) ?_
  refine aw_iadd K dL_law_672 ?_
  refine aw_sld K hX hL hn dL_law_673 g1.1 g1.2 ?_
  refine aw_topr (y := x1) e1 ?_
  refine aw_cM (As := [.int x1]) (rest := [.int r_1]) K lnL_77 dL_law_674 (t_X12_fault x1 B hTM) rfl rfl rfl (Nat.le_of_ble_eq_true rfl) (by decide) (by decide) hcs hsl (fun r_4 N_5 h_6 => ?_)
  refine aw_icmp_eq (tgt := 1093) K dL_law_677 (by decide) (fun _ => kE _ _ (⟨hTX, im_M hI.2.1 h_6.1 h_6.2.1, rl_X_M hI.2.2.1 hTX Sx.rf h_6.2.1, rt_X_M hI.2.2.2 Sx.rf h_6.2.1⟩)) (fun c_7 => False.elim ?_)
  clear K hX hcs hsl kE G
  exact c_7 (ft_r hI.2.2.2 h_3 h_6.2.2)

set_option maxHeartbeats 400000 in
set_option maxRecDepth 100000 in
theorem law_case_14 {G : Cx} {L : Nat} {f : Nat → Int32} {n : Int32} {cs sl : Nat} {ad : Nat → Nat} {A B : Mx} {i x1 x2 x3 x4 x5 : Int32} (K : Ok G cL_law 4 RL ret 1312) (hX : Scr G L f) (hL : L < 2 ^ 31) (hn : Int32.ofNat L = n) (g1 : 0 ≤ i + 1 ∧ i + 1 < n) (g2 : 0 ≤ i + 2 ∧ i + 2 < n) (g3 : 0 ≤ i + 3 ∧ i + 3 < n) (g4 : 0 ≤ i + 4 ∧ i + 4 < n) (g5 : 0 ≤ i + 5 ∧ i + 5 < n) (e1 : f (i + 1).toNatClampNeg = x1) (e2 : f (i + 2).toNatClampNeg = x2) (e3 : f (i + 3).toNatClampNeg = x3) (e4 : f (i + 4).toNatClampNeg = x4) (e5 : f (i + 5).toNatClampNeg = x5) (hcs : cs ≤ xmc G) (hsl : sl ≤ xms G) (hI : Iv A B) (kE : ∀ A' B', Iv A' B' → AW G 4 (ad, shLaw) cs sl (jn 182 A' B') 1093 [(0, .ref 1001), (1, .ref 0), (2, .ref 182), (3, .int i)] []) : AW G 4 (ad, shLaw) cs sl (jn 182 A B) 682 [(0, .ref 1001), (1, .ref 0), (2, .ref 182), (3, .int i)] [] := by
  have hI0 := hI
  obtain ⟨hTX, ⟨hTM, h23, hWL, hWd, hWI⟩, hRl, hRt⟩ := hI0
  refine aw_aload_n K dL_law_682 1 rfl rfl ?_
  refine aw_aload_n K dL_law_683 0 rfl rfl ?_
  refine aw_iload_n K dL_law_684 3 rfl rfl ?_
  refine aw_iconst (v := 1) K dL_law_685 (by decide) ?_
  refine aw_iadd K dL_law_686 ?_
  refine aw_sld K hX hL hn dL_law_687 g1.1 g1.2 ?_
  refine aw_topr (y := x1) e1 ?_
  refine aw_cX (As := [.int x1]) (rest := []) K lnL_78 dL_law_688 (t_X11_hours x1 A hTX) rfl rfl rfl (Nat.le_of_ble_eq_true rfl) (by decide) (by decide) hcs hsl (fun r_1 N_2 h_3 => ?_)
  refine aw_pop K dL_law_691 rfl ?_
  refine aw_aload_n K dL_law_692 2 rfl rfl ?_
  refine aw_aload_n K dL_law_693 0 rfl rfl ?_
  refine aw_iload_n K dL_law_694 3 rfl rfl ?_
  refine aw_iconst (v := 1) K dL_law_695 (by decide) ?_
  refine aw_iadd K dL_law_696 ?_
  refine aw_sld K hX hL hn dL_law_697 g1.1 g1.2 ?_
  refine aw_topr (y := x1) e1 ?_
  refine aw_cM (As := [.int x1]) (rest := []) K lnL_81 dL_law_698 (t_X12_hours x1 B hTM hWL h23) rfl rfl rfl (Nat.le_of_ble_eq_true rfl) (by decide) (by decide) hcs hsl (fun r_4 N_5 h_6 => ?_)
  refine aw_pop K dL_law_701 rfl ?_
  refine aw_goto (tgt := 1093) K dL_law_702 (by decide) ?_
  exact kE _ _ (⟨h_3.1, im_N hI.2.1 h_6.1 h_6.2.1 h_6.2.2, rl_X_N hI.2.2.1 hTX h_3.2.1 h_6.2.1, rt_X_N hI.2.2.2 h_3.2.1 h_6.2.1⟩)

set_option maxHeartbeats 400000 in
set_option maxRecDepth 100000 in
theorem law_case_15 {G : Cx} {L : Nat} {f : Nat → Int32} {n : Int32} {cs sl : Nat} {ad : Nat → Nat} {A B : Mx} {i x1 x2 x3 x4 x5 : Int32} (K : Ok G cL_law 4 RL ret 1312) (hX : Scr G L f) (hL : L < 2 ^ 31) (hn : Int32.ofNat L = n) (g1 : 0 ≤ i + 1 ∧ i + 1 < n) (g2 : 0 ≤ i + 2 ∧ i + 2 < n) (g3 : 0 ≤ i + 3 ∧ i + 3 < n) (g4 : 0 ≤ i + 4 ∧ i + 4 < n) (g5 : 0 ≤ i + 5 ∧ i + 5 < n) (e1 : f (i + 1).toNatClampNeg = x1) (e2 : f (i + 2).toNatClampNeg = x2) (e3 : f (i + 3).toNatClampNeg = x3) (e4 : f (i + 4).toNatClampNeg = x4) (e5 : f (i + 5).toNatClampNeg = x5) (hcs : cs ≤ xmc G) (hsl : sl ≤ xms G) (hI : Iv A B) (kE : ∀ A' B', Iv A' B' → AW G 4 (ad, shLaw) cs sl (jn 182 A' B') 1093 [(0, .ref 1001), (1, .ref 0), (2, .ref 182), (3, .int i)] []) : AW G 4 (ad, shLaw) cs sl (jn 182 A B) 705 [(0, .ref 1001), (1, .ref 0), (2, .ref 182), (3, .int i)] [] := by
  have hI0 := hI
  obtain ⟨hTX, ⟨hTM, h23, hWL, hWd, hWI⟩, hRl, hRt⟩ := hI0
  refine aw_aload_n K dL_law_705 1 rfl rfl ?_
  refine aw_aload_n K dL_law_706 0 rfl rfl ?_
  refine aw_iload_n K dL_law_707 3 rfl rfl ?_
  refine aw_iconst (v := 1) K dL_law_708 (by decide) ?_
  refine aw_iadd K dL_law_709 ?_
  refine aw_sld K hX hL hn dL_law_710 g1.1 g1.2 ?_
  refine aw_topr (y := x1) e1 ?_
  refine aw_aload_n K dL_law_711 0 rfl rfl ?_
  refine aw_iload_n K dL_law_712 3 rfl rfl ?_
  refine aw_iconst (v := 2) K dL_law_713 (by decide) ?_
  refine aw_iadd K dL_law_714 ?_
  refine aw_sld K hX hL hn dL_law_715 g2.1 g2.2 ?_
  refine aw_topr (y := x2) e2 ?_
  refine aw_cX (As := [.int x1, .int x2]) (rest := []) K lnL_82 dL_law_716 (t_X11_of x1 x2 A hTX) rfl rfl rfl (Nat.le_of_ble_eq_true rfl) (by decide) (by decide) hcs hsl (fun r_1 N_2 h_3 => ?_)
  refine aw_pop K dL_law_719 rfl ?_
  refine aw_aload_n K dL_law_720 2 rfl rfl ?_
  refine aw_aload_n K dL_law_721 0 rfl rfl ?_
  refine aw_iload_n K dL_law_722 3 rfl rfl ?_
  refine aw_iconst (v := 1) K dL_law_723 (by decide) ?_
  refine aw_iadd K dL_law_724 ?_
  refine aw_sld K hX hL hn dL_law_725 g1.1 g1.2 ?_
  refine aw_topr (y := x1) e1 ?_
  refine aw_aload_n K dL_law_726 0 rfl rfl ?_
  refine aw_iload_n K dL_law_727 3 rfl rfl ?_
  refine aw_iconst (v := 2) K dL_law_728 (by decide) ?_
  refine aw_iadd K dL_law_729 ?_
  refine aw_sld K hX hL hn dL_law_730 g2.1 g2.2 ?_
  refine aw_topr (y := x2) e2 ?_
  refine aw_cM (As := [.int x1, .int x2]) (rest := []) K lnL_86 dL_law_731 (t_X12_of x1 x2 B hTM hWL) rfl rfl rfl (Nat.le_of_ble_eq_true rfl) (by decide) (by decide) hcs hsl (fun r_4 N_5 h_6 => ?_)
  refine aw_pop K dL_law_734 rfl ?_
  refine aw_goto (tgt := 1093) K dL_law_735 (by decide) ?_
  exact kE _ _ (⟨h_3.1, im_M hI.2.1 h_6.1 h_6.2.1, rl_X_M hI.2.2.1 hTX h_3.2.1 h_6.2.1, rt_X_M hI.2.2.2 h_3.2.1 h_6.2.1⟩)

set_option maxHeartbeats 400000 in
set_option maxRecDepth 100000 in
theorem law_case_16 {G : Cx} {L : Nat} {f : Nat → Int32} {n : Int32} {cs sl : Nat} {ad : Nat → Nat} {A B : Mx} {i x1 x2 x3 x4 x5 : Int32} (K : Ok G cL_law 4 RL ret 1312) (hX : Scr G L f) (hL : L < 2 ^ 31) (hn : Int32.ofNat L = n) (g1 : 0 ≤ i + 1 ∧ i + 1 < n) (g2 : 0 ≤ i + 2 ∧ i + 2 < n) (g3 : 0 ≤ i + 3 ∧ i + 3 < n) (g4 : 0 ≤ i + 4 ∧ i + 4 < n) (g5 : 0 ≤ i + 5 ∧ i + 5 < n) (e1 : f (i + 1).toNatClampNeg = x1) (e2 : f (i + 2).toNatClampNeg = x2) (e3 : f (i + 3).toNatClampNeg = x3) (e4 : f (i + 4).toNatClampNeg = x4) (e5 : f (i + 5).toNatClampNeg = x5) (hcs : cs ≤ xmc G) (hsl : sl ≤ xms G) (hI : Iv A B) (kE : ∀ A' B', Iv A' B' → AW G 4 (ad, shLaw) cs sl (jn 182 A' B') 1093 [(0, .ref 1001), (1, .ref 0), (2, .ref 182), (3, .int i)] []) : AW G 4 (ad, shLaw) cs sl (jn 182 A B) 738 [(0, .ref 1001), (1, .ref 0), (2, .ref 182), (3, .int i)] [] := by
  have hI0 := hI
  obtain ⟨hTX, ⟨hTM, h23, hWL, hWd, hWI⟩, hRl, hRt⟩ := hI0
  refine aw_aload_n K dL_law_738 1 rfl rfl ?_
  refine aw_aload_n K dL_law_739 0 rfl rfl ?_
  refine aw_iload_n K dL_law_740 3 rfl rfl ?_
  refine aw_iconst (v := 1) K dL_law_741 (by decide) ?_
  refine aw_iadd K dL_law_742 ?_
  refine aw_sld K hX hL hn dL_law_743 g1.1 g1.2 ?_
  refine aw_topr (y := x1) e1 ?_
  refine aw_aload_n K dL_law_744 0 rfl rfl ?_
  refine aw_iload_n K dL_law_745 3 rfl rfl ?_
  refine aw_iconst (v := 2) K dL_law_746 (by decide) ?_
  refine aw_iadd K dL_law_747 ?_
  refine aw_sld K hX hL hn dL_law_748 g2.1 g2.2 ?_
  refine aw_topr (y := x2) e2 ?_
  refine aw_cX (As := [.int x1, .int x2]) (rest := []) K lnL_87 dL_law_749 (t_X11_pail x1 x2 A hTX) rfl rfl rfl (Nat.le_of_ble_eq_true rfl) (by decide) (by decide) hcs hsl (fun r_1 N_2 h_3 => ?_)
  obtain ⟨eM, h_3⟩ := h_3
  subst eM
  refine aw_pop K dL_law_752 rfl ?_
  refine aw_aload_n K dL_law_753 2 rfl rfl ?_
  refine aw_aload_n K dL_law_754 0 rfl rfl ?_
  refine aw_iload_n K dL_law_755 3 rfl rfl ?_
  refine aw_iconst (v := 1) K dL_law_756 (by decide) ?_
  refine aw_iadd K dL_law_757 ?_
  refine aw_sld K hX hL hn dL_law_758 g1.1 g1.2 ?_
  refine aw_topr (y := x1) e1 ?_
  refine aw_aload_n K dL_law_759 0 rfl rfl ?_
  refine aw_iload_n K dL_law_760 3 rfl rfl ?_
  refine aw_iconst (v := 2) K dL_law_761 (by decide) ?_
  refine aw_iadd K dL_law_762 ?_
  refine aw_sld K hX hL hn dL_law_763 g2.1 g2.2 ?_
  refine aw_topr (y := x2) e2 ?_
  refine aw_cM (As := [.int x1, .int x2]) (rest := []) K lnL_90 dL_law_764 (t_X12_pail x1 x2 B hTM) rfl rfl rfl (Nat.le_of_ble_eq_true rfl) (by decide) (by decide) hcs hsl (fun r_4 N_5 h_6 => ?_)
  refine aw_pop K dL_law_767 rfl ?_
  refine aw_goto (tgt := 1093) K dL_law_768 (by decide) ?_
  exact kE _ _ (⟨hTX, im_M hI.2.1 h_6.1 h_6.2.1, rl_X_M hI.2.2.1 hTX Sx.rf h_6.2.1, rt_X_M hI.2.2.2 Sx.rf h_6.2.1⟩)

set_option maxHeartbeats 400000 in
set_option maxRecDepth 100000 in
theorem law_case_17 {G : Cx} {L : Nat} {f : Nat → Int32} {n : Int32} {cs sl : Nat} {ad : Nat → Nat} {A B : Mx} {i x1 x2 x3 x4 x5 : Int32} (K : Ok G cL_law 4 RL ret 1312) (hX : Scr G L f) (hL : L < 2 ^ 31) (hn : Int32.ofNat L = n) (g1 : 0 ≤ i + 1 ∧ i + 1 < n) (g2 : 0 ≤ i + 2 ∧ i + 2 < n) (g3 : 0 ≤ i + 3 ∧ i + 3 < n) (g4 : 0 ≤ i + 4 ∧ i + 4 < n) (g5 : 0 ≤ i + 5 ∧ i + 5 < n) (e1 : f (i + 1).toNatClampNeg = x1) (e2 : f (i + 2).toNatClampNeg = x2) (e3 : f (i + 3).toNatClampNeg = x3) (e4 : f (i + 4).toNatClampNeg = x4) (e5 : f (i + 5).toNatClampNeg = x5) (hcs : cs ≤ xmc G) (hsl : sl ≤ xms G) (hI : Iv A B) (kE : ∀ A' B', Iv A' B' → AW G 4 (ad, shLaw) cs sl (jn 182 A' B') 1093 [(0, .ref 1001), (1, .ref 0), (2, .ref 182), (3, .int i)] []) : AW G 4 (ad, shLaw) cs sl (jn 182 A B) 771 [(0, .ref 1001), (1, .ref 0), (2, .ref 182), (3, .int i)] [] := by
  have hI0 := hI
  obtain ⟨hTX, ⟨hTM, h23, hWL, hWd, hWI⟩, hRl, hRt⟩ := hI0
  refine aw_aload_n K dL_law_771 1 rfl rfl ?_
  refine aw_aload_n K dL_law_772 0 rfl rfl ?_
  refine aw_iload_n K dL_law_773 3 rfl rfl ?_
  refine aw_iconst (v := 1) K dL_law_774 (by decide) ?_
  refine aw_iadd K dL_law_775 ?_
  refine aw_sld K hX hL hn dL_law_776 g1.1 g1.2 ?_
  refine aw_topr (y := x1) e1 ?_
  refine aw_aload_n K dL_law_777 0 rfl rfl ?_
  refine aw_iload_n K dL_law_778 3 rfl rfl ?_
  refine aw_iconst (v := 2) K dL_law_779 (by decide) ?_
  refine aw_iadd K dL_law_780 ?_
  refine aw_sld K hX hL hn dL_law_781 g2.1 g2.2 ?_
  refine aw_topr (y := x2) e2 ?_
  refine aw_cX (As := [.int x1, .int x2]) (rest := []) K lnL_91 dL_law_782 (t_X11_part x1 x2 A hTX) rfl rfl rfl (Nat.le_of_ble_eq_true rfl) (by decide) (by decide) hcs hsl (fun r_1 N_2 h_3 => ?_)
  obtain ⟨eM, h_3⟩ := h_3
  subst eM
  refine aw_pop K dL_law_785 rfl ?_
  refine aw_aload_n K dL_law_786 2 rfl rfl ?_
  refine aw_aload_n K dL_law_787 0 rfl rfl ?_
  refine aw_iload_n K dL_law_788 3 rfl rfl ?_
  refine aw_iconst (v := 1) K dL_law_789 (by decide) ?_
  refine aw_iadd K dL_law_790 ?_
  refine aw_sld K hX hL hn dL_law_791 g1.1 g1.2 ?_
  refine aw_topr (y := x1) e1 ?_
  refine aw_aload_n K dL_law_792 0 rfl rfl ?_
  refine aw_iload_n K dL_law_793 3 rfl rfl ?_
  refine aw_iconst (v := 2) K dL_law_794 (by decide) ?_
  refine aw_iadd K dL_law_795 ?_
  refine aw_sld K hX hL hn dL_law_796 g2.1 g2.2 ?_
  refine aw_topr (y := x2) e2 ?_
  refine aw_cM (As := [.int x1, .int x2]) (rest := []) K lnL_94 dL_law_797 (t_X12_part x1 x2 B hTM) rfl rfl rfl (Nat.le_of_ble_eq_true rfl) (by decide) (by decide) hcs hsl (fun r_4 N_5 h_6 => ?_)
  refine aw_pop K dL_law_800 rfl ?_
  refine aw_goto (tgt := 1093) K dL_law_801 (by decide) ?_
  exact kE _ _ (⟨hTX, im_M hI.2.1 h_6.1 h_6.2.1, rl_X_M hI.2.2.1 hTX Sx.rf h_6.2.1, rt_X_M hI.2.2.2 Sx.rf h_6.2.1⟩)

set_option maxHeartbeats 400000 in
set_option maxRecDepth 100000 in
theorem law_case_18 {G : Cx} {L : Nat} {f : Nat → Int32} {n : Int32} {cs sl : Nat} {ad : Nat → Nat} {A B : Mx} {i x1 x2 x3 x4 x5 : Int32} (K : Ok G cL_law 4 RL ret 1312) (hX : Scr G L f) (hL : L < 2 ^ 31) (hn : Int32.ofNat L = n) (g1 : 0 ≤ i + 1 ∧ i + 1 < n) (g2 : 0 ≤ i + 2 ∧ i + 2 < n) (g3 : 0 ≤ i + 3 ∧ i + 3 < n) (g4 : 0 ≤ i + 4 ∧ i + 4 < n) (g5 : 0 ≤ i + 5 ∧ i + 5 < n) (e1 : f (i + 1).toNatClampNeg = x1) (e2 : f (i + 2).toNatClampNeg = x2) (e3 : f (i + 3).toNatClampNeg = x3) (e4 : f (i + 4).toNatClampNeg = x4) (e5 : f (i + 5).toNatClampNeg = x5) (hcs : cs ≤ xmc G) (hsl : sl ≤ xms G) (hI : Iv A B) (kE : ∀ A' B', Iv A' B' → AW G 4 (ad, shLaw) cs sl (jn 182 A' B') 1093 [(0, .ref 1001), (1, .ref 0), (2, .ref 182), (3, .int i)] []) : AW G 4 (ad, shLaw) cs sl (jn 182 A B) 804 [(0, .ref 1001), (1, .ref 0), (2, .ref 182), (3, .int i)] [] := by
  have hI0 := hI
  obtain ⟨hTX, ⟨hTM, h23, hWL, hWd, hWI⟩, hRl, hRt⟩ := hI0
  refine aw_aload_n K dL_law_804 1 rfl rfl ?_
  refine aw_aload_n K dL_law_805 0 rfl rfl ?_
  refine aw_iload_n K dL_law_806 3 rfl rfl ?_
  refine aw_iconst (v := 1) K dL_law_807 (by decide) ?_
  refine aw_iadd K dL_law_808 ?_
  refine aw_sld K hX hL hn dL_law_809 g1.1 g1.2 ?_
  refine aw_topr (y := x1) e1 ?_
  refine aw_aload_n K dL_law_810 0 rfl rfl ?_
  refine aw_iload_n K dL_law_811 3 rfl rfl ?_
  refine aw_iconst (v := 2) K dL_law_812 (by decide) ?_
  refine aw_iadd K dL_law_813 ?_
  refine aw_sld K hX hL hn dL_law_814 g2.1 g2.2 ?_
  refine aw_topr (y := x2) e2 ?_
  refine aw_cX (As := [.int x1, .int x2]) (rest := []) K lnL_95 dL_law_815 (t_X11_owes x1 x2 A hTX) rfl rfl rfl (Nat.le_of_ble_eq_true rfl) (by decide) (by decide) hcs hsl (fun r_1 N_2 h_3 => ?_)
  obtain ⟨eM, h_3⟩ := h_3
  subst eM
  refine aw_pop K dL_law_818 rfl ?_
  refine aw_aload_n K dL_law_819 2 rfl rfl ?_
  refine aw_aload_n K dL_law_820 0 rfl rfl ?_
  refine aw_iload_n K dL_law_821 3 rfl rfl ?_
  refine aw_iconst (v := 1) K dL_law_822 (by decide) ?_
  refine aw_iadd K dL_law_823 ?_
  refine aw_sld K hX hL hn dL_law_824 g1.1 g1.2 ?_
  refine aw_topr (y := x1) e1 ?_
  refine aw_aload_n K dL_law_825 0 rfl rfl ?_
  refine aw_iload_n K dL_law_826 3 rfl rfl ?_
  refine aw_iconst (v := 2) K dL_law_827 (by decide) ?_
  refine aw_iadd K dL_law_828 ?_
  refine aw_sld K hX hL hn dL_law_829 g2.1 g2.2 ?_
  refine aw_topr (y := x2) e2 ?_
  refine aw_cM (As := [.int x1, .int x2]) (rest := []) K lnL_98 dL_law_830 (t_X12_owes x1 x2 B hTM) rfl rfl rfl (Nat.le_of_ble_eq_true rfl) (by decide) (by decide) hcs hsl (fun r_4 N_5 h_6 => ?_)
  refine aw_pop K dL_law_833 rfl ?_
  refine aw_goto (tgt := 1093) K dL_law_834 (by decide) ?_
  exact kE _ _ (⟨hTX, im_M hI.2.1 h_6.1 h_6.2.1, rl_X_M hI.2.2.1 hTX Sx.rf h_6.2.1, rt_X_M hI.2.2.2 Sx.rf h_6.2.1⟩)

set_option maxHeartbeats 400000 in
set_option maxRecDepth 100000 in
theorem law_case_19 {G : Cx} {L : Nat} {f : Nat → Int32} {n : Int32} {cs sl : Nat} {ad : Nat → Nat} {A B : Mx} {i x1 x2 x3 x4 x5 : Int32} (K : Ok G cL_law 4 RL ret 1312) (hX : Scr G L f) (hL : L < 2 ^ 31) (hn : Int32.ofNat L = n) (g1 : 0 ≤ i + 1 ∧ i + 1 < n) (g2 : 0 ≤ i + 2 ∧ i + 2 < n) (g3 : 0 ≤ i + 3 ∧ i + 3 < n) (g4 : 0 ≤ i + 4 ∧ i + 4 < n) (g5 : 0 ≤ i + 5 ∧ i + 5 < n) (e1 : f (i + 1).toNatClampNeg = x1) (e2 : f (i + 2).toNatClampNeg = x2) (e3 : f (i + 3).toNatClampNeg = x3) (e4 : f (i + 4).toNatClampNeg = x4) (e5 : f (i + 5).toNatClampNeg = x5) (hcs : cs ≤ xmc G) (hsl : sl ≤ xms G) (hI : Iv A B) (kE : ∀ A' B', Iv A' B' → AW G 4 (ad, shLaw) cs sl (jn 182 A' B') 1093 [(0, .ref 1001), (1, .ref 0), (2, .ref 182), (3, .int i)] []) : AW G 4 (ad, shLaw) cs sl (jn 182 A B) 837 [(0, .ref 1001), (1, .ref 0), (2, .ref 182), (3, .int i)] [] := by
  have hI0 := hI
  obtain ⟨hTX, ⟨hTM, h23, hWL, hWd, hWI⟩, hRl, hRt⟩ := hI0
  refine aw_aload_n K dL_law_837 1 rfl rfl ?_
  refine aw_cX (As := []) (rest := []) K lnL_99 dL_law_838 (t_X11_deals A hTX) rfl rfl rfl (Nat.le_of_ble_eq_true rfl) (by decide) (by decide) hcs hsl (fun r_1 N_2 h_3 => ?_)
  refine aw_pop K dL_law_841 rfl ?_
  refine aw_aload_n K dL_law_842 2 rfl rfl ?_
  refine aw_cM (As := []) (rest := []) K lnL_102 dL_law_843 (t_X12_deals B hTM) rfl rfl rfl (Nat.le_of_ble_eq_true rfl) (by decide) (by decide) hcs hsl (fun r_4 N_5 h_6 => ?_)
  refine aw_pop K dL_law_846 rfl ?_
  refine aw_goto (tgt := 1093) K dL_law_847 (by decide) ?_
  exact kE _ _ (⟨h_3.1, im_M hI.2.1 h_6.1 h_6.2.1, rl_X_M hI.2.2.1 hTX h_3.2.1 h_6.2.1, rt_X_M hI.2.2.2 h_3.2.1 h_6.2.1⟩)

set_option maxHeartbeats 400000 in
set_option maxRecDepth 100000 in
theorem law_case_20 {G : Cx} {L : Nat} {f : Nat → Int32} {n : Int32} {cs sl : Nat} {ad : Nat → Nat} {A B : Mx} {i x1 x2 x3 x4 x5 : Int32} (K : Ok G cL_law 4 RL ret 1312) (hX : Scr G L f) (hL : L < 2 ^ 31) (hn : Int32.ofNat L = n) (g1 : 0 ≤ i + 1 ∧ i + 1 < n) (g2 : 0 ≤ i + 2 ∧ i + 2 < n) (g3 : 0 ≤ i + 3 ∧ i + 3 < n) (g4 : 0 ≤ i + 4 ∧ i + 4 < n) (g5 : 0 ≤ i + 5 ∧ i + 5 < n) (e1 : f (i + 1).toNatClampNeg = x1) (e2 : f (i + 2).toNatClampNeg = x2) (e3 : f (i + 3).toNatClampNeg = x3) (e4 : f (i + 4).toNatClampNeg = x4) (e5 : f (i + 5).toNatClampNeg = x5) (hcs : cs ≤ xmc G) (hsl : sl ≤ xms G) (hI : Iv A B) (kE : ∀ A' B', Iv A' B' → AW G 4 (ad, shLaw) cs sl (jn 182 A' B') 1093 [(0, .ref 1001), (1, .ref 0), (2, .ref 182), (3, .int i)] []) : AW G 4 (ad, shLaw) cs sl (jn 182 A B) 850 [(0, .ref 1001), (1, .ref 0), (2, .ref 182), (3, .int i)] [] := by
  have hI0 := hI
  obtain ⟨hTX, ⟨hTM, h23, hWL, hWd, hWI⟩, hRl, hRt⟩ := hI0
  refine aw_aload_n K dL_law_850 1 rfl rfl ?_
  refine aw_aload_n K dL_law_851 0 rfl rfl ?_
  refine aw_iload_n K dL_law_852 3 rfl rfl ?_
  refine aw_iconst (v := 1) K dL_law_853 (by decide) ?_
  refine aw_iadd K dL_law_854 ?_
  refine aw_sld K hX hL hn dL_law_855 g1.1 g1.2 ?_
  refine aw_topr (y := x1) e1 ?_
  refine aw_cX (As := [.int x1]) (rest := []) K lnL_103 dL_law_856 (t_X11_best x1 A hTX) rfl rfl rfl (Nat.le_of_ble_eq_true rfl) (by decide) (by decide) hcs hsl (fun r_1 N_2 h_3 => ?_)
  refine aw_pop K dL_law_859 rfl ?_
  refine aw_aload_n K dL_law_860 2 rfl rfl ?_
  refine aw_aload_n K dL_law_861 0 rfl rfl ?_
  refine aw_iload_n K dL_law_862 3 rfl rfl ?_
  refine aw_iconst (v := 1) K dL_law_863 (by decide) ?_
  refine aw_iadd K dL_law_864 ?_
  refine aw_sld K hX hL hn dL_law_865 g1.1 g1.2 ?_
  refine aw_topr (y := x1) e1 ?_
  refine aw_cM (As := [.int x1]) (rest := []) K lnL_106 dL_law_866 (t_X12_best x1 B hTM h23) rfl rfl rfl (Nat.le_of_ble_eq_true rfl) (by decide) (by decide) hcs hsl (fun r_4 N_5 h_6 => ?_)
  refine aw_pop K dL_law_869 rfl ?_
  refine aw_goto (tgt := 1093) K dL_law_870 (by decide) ?_
  exact kE _ _ (⟨h_3.1, im_N hI.2.1 h_6.1 h_6.2.1 h_6.2.2, rl_X_N hI.2.2.1 hTX h_3.2.1 h_6.2.1, rt_X_N hI.2.2.2 h_3.2.1 h_6.2.1⟩)

set_option maxHeartbeats 400000 in
set_option maxRecDepth 100000 in
theorem law_case_21 {G : Cx} {L : Nat} {f : Nat → Int32} {n : Int32} {cs sl : Nat} {ad : Nat → Nat} {A B : Mx} {i x1 x2 x3 x4 x5 : Int32} (K : Ok G cL_law 4 RL ret 1312) (hX : Scr G L f) (hL : L < 2 ^ 31) (hn : Int32.ofNat L = n) (g1 : 0 ≤ i + 1 ∧ i + 1 < n) (g2 : 0 ≤ i + 2 ∧ i + 2 < n) (g3 : 0 ≤ i + 3 ∧ i + 3 < n) (g4 : 0 ≤ i + 4 ∧ i + 4 < n) (g5 : 0 ≤ i + 5 ∧ i + 5 < n) (e1 : f (i + 1).toNatClampNeg = x1) (e2 : f (i + 2).toNatClampNeg = x2) (e3 : f (i + 3).toNatClampNeg = x3) (e4 : f (i + 4).toNatClampNeg = x4) (e5 : f (i + 5).toNatClampNeg = x5) (hcs : cs ≤ xmc G) (hsl : sl ≤ xms G) (hI : Iv A B) (kE : ∀ A' B', Iv A' B' → AW G 4 (ad, shLaw) cs sl (jn 182 A' B') 1093 [(0, .ref 1001), (1, .ref 0), (2, .ref 182), (3, .int i)] []) : AW G 4 (ad, shLaw) cs sl (jn 182 A B) 873 [(0, .ref 1001), (1, .ref 0), (2, .ref 182), (3, .int i)] [] := by
  have hI0 := hI
  obtain ⟨hTX, ⟨hTM, h23, hWL, hWd, hWI⟩, hRl, hRt⟩ := hI0
  refine aw_aload_n K dL_law_873 1 rfl rfl ?_
  refine aw_aload_n K dL_law_874 0 rfl rfl ?_
  refine aw_iload_n K dL_law_875 3 rfl rfl ?_
  refine aw_iconst (v := 1) K dL_law_876 (by decide) ?_
  refine aw_iadd K dL_law_877 ?_
  refine aw_sld K hX hL hn dL_law_878 g1.1 g1.2 ?_
  refine aw_topr (y := x1) e1 ?_
  refine aw_cX (As := [.int x1]) (rest := []) K lnL_107 dL_law_879 (t_X11_peace x1 A hTX) rfl rfl rfl (Nat.le_of_ble_eq_true rfl) (by decide) (by decide) hcs hsl (fun r_1 N_2 h_3 => ?_)
  refine aw_pop K dL_law_882 rfl ?_
  refine aw_aload_n K dL_law_883 2 rfl rfl ?_
  refine aw_aload_n K dL_law_884 0 rfl rfl ?_
  refine aw_iload_n K dL_law_885 3 rfl rfl ?_
  refine aw_iconst (v := 1) K dL_law_886 (by decide) ?_
  refine aw_iadd K dL_law_887 ?_
  refine aw_sld K hX hL hn dL_law_888 g1.1 g1.2 ?_
  refine aw_topr (y := x1) e1 ?_
  refine aw_cM (As := [.int x1]) (rest := []) K lnL_110 dL_law_889 (t_X12_peace x1 B hTM) rfl rfl rfl (Nat.le_of_ble_eq_true rfl) (by decide) (by decide) hcs hsl (fun r_4 N_5 h_6 => ?_)
  refine aw_pop K dL_law_892 rfl ?_
  refine aw_goto (tgt := 1093) K dL_law_893 (by decide) ?_
  exact kE _ _ (⟨h_3.1, im_M hI.2.1 h_6.1 h_6.2.1, rl_X_M hI.2.2.1 hTX h_3.2.1 h_6.2.1, rt_X_M hI.2.2.2 h_3.2.1 h_6.2.1⟩)

set_option maxHeartbeats 400000 in
set_option maxRecDepth 100000 in
theorem law_case_22 {G : Cx} {L : Nat} {f : Nat → Int32} {n : Int32} {cs sl : Nat} {ad : Nat → Nat} {A B : Mx} {i x1 x2 x3 x4 x5 : Int32} (K : Ok G cL_law 4 RL ret 1312) (hX : Scr G L f) (hL : L < 2 ^ 31) (hn : Int32.ofNat L = n) (g1 : 0 ≤ i + 1 ∧ i + 1 < n) (g2 : 0 ≤ i + 2 ∧ i + 2 < n) (g3 : 0 ≤ i + 3 ∧ i + 3 < n) (g4 : 0 ≤ i + 4 ∧ i + 4 < n) (g5 : 0 ≤ i + 5 ∧ i + 5 < n) (e1 : f (i + 1).toNatClampNeg = x1) (e2 : f (i + 2).toNatClampNeg = x2) (e3 : f (i + 3).toNatClampNeg = x3) (e4 : f (i + 4).toNatClampNeg = x4) (e5 : f (i + 5).toNatClampNeg = x5) (hcs : cs ≤ xmc G) (hsl : sl ≤ xms G) (hI : Iv A B) (kE : ∀ A' B', Iv A' B' → AW G 4 (ad, shLaw) cs sl (jn 182 A' B') 1093 [(0, .ref 1001), (1, .ref 0), (2, .ref 182), (3, .int i)] []) : AW G 4 (ad, shLaw) cs sl (jn 182 A B) 896 [(0, .ref 1001), (1, .ref 0), (2, .ref 182), (3, .int i)] [] := by
  have hI0 := hI
  obtain ⟨hTX, ⟨hTM, h23, hWL, hWd, hWI⟩, hRl, hRt⟩ := hI0
  refine aw_aload_n K dL_law_896 1 rfl rfl ?_
  refine aw_aload_n K dL_law_897 0 rfl rfl ?_
  refine aw_iload_n K dL_law_898 3 rfl rfl ?_
  refine aw_iconst (v := 1) K dL_law_899 (by decide) ?_
  refine aw_iadd K dL_law_900 ?_
  refine aw_sld K hX hL hn dL_law_901 g1.1 g1.2 ?_
  refine aw_topr (y := x1) e1 ?_
  refine aw_aload_n K dL_law_902 0 rfl rfl ?_
  refine aw_iload_n K dL_law_903 3 rfl rfl ?_
  refine aw_iconst (v := 2) K dL_law_904 (by decide) ?_
  refine aw_iadd K dL_law_905 ?_
  refine aw_sld K hX hL hn dL_law_906 g2.1 g2.2 ?_
  refine aw_topr (y := x2) e2 ?_
  refine aw_cX (As := [.int x1, .int x2]) (rest := []) K lnL_111 dL_law_907 (t_X11_log x1 x2 A hTX) rfl rfl rfl (Nat.le_of_ble_eq_true rfl) (by decide) (by decide) hcs hsl (fun r_1 N_2 h_3 => ?_)
  refine aw_pop K dL_law_910 rfl ?_
  refine aw_aload_n K dL_law_911 2 rfl rfl ?_
  refine aw_aload_n K dL_law_912 0 rfl rfl ?_
  refine aw_iload_n K dL_law_913 3 rfl rfl ?_
  refine aw_iconst (v := 1) K dL_law_914 (by decide) ?_
  refine aw_iadd K dL_law_915 ?_
  refine aw_sld K hX hL hn dL_law_916 g1.1 g1.2 ?_
  refine aw_topr (y := x1) e1 ?_
  refine aw_aload_n K dL_law_917 0 rfl rfl ?_
  refine aw_iload_n K dL_law_918 3 rfl rfl ?_
  refine aw_iconst (v := 2) K dL_law_919 (by decide) ?_
  refine aw_iadd K dL_law_920 ?_
  refine aw_sld K hX hL hn dL_law_921 g2.1 g2.2 ?_
  refine aw_topr (y := x2) e2 ?_
  refine aw_cM (As := [.int x1, .int x2]) (rest := []) K lnL_114 dL_law_922 (t_X12_log x1 x2 B hTM) rfl rfl rfl (Nat.le_of_ble_eq_true rfl) (by decide) (by decide) hcs hsl (fun r_4 N_5 h_6 => ?_)
  refine aw_pop K dL_law_925 rfl ?_
  refine aw_goto (tgt := 1093) K dL_law_926 (by decide) ?_
  exact kE _ _ (⟨h_3.1, im_Mg hI.2.1 h_6.1 h_6.2.1, (rl_log hI.2.2.1 hTX h_3.2.1 h_6.2.1 h_3.2.2 h_6.2.2).2, rt_Xg_Mg hI.2.2.2 h_3.2.1 h_6.2.1⟩)

set_option maxHeartbeats 400000 in
set_option maxRecDepth 100000 in
theorem law_case_23 {G : Cx} {L : Nat} {f : Nat → Int32} {n : Int32} {cs sl : Nat} {ad : Nat → Nat} {A B : Mx} {i x1 x2 x3 x4 x5 : Int32} (K : Ok G cL_law 4 RL ret 1312) (hX : Scr G L f) (hL : L < 2 ^ 31) (hn : Int32.ofNat L = n) (g1 : 0 ≤ i + 1 ∧ i + 1 < n) (g2 : 0 ≤ i + 2 ∧ i + 2 < n) (g3 : 0 ≤ i + 3 ∧ i + 3 < n) (g4 : 0 ≤ i + 4 ∧ i + 4 < n) (g5 : 0 ≤ i + 5 ∧ i + 5 < n) (e1 : f (i + 1).toNatClampNeg = x1) (e2 : f (i + 2).toNatClampNeg = x2) (e3 : f (i + 3).toNatClampNeg = x3) (e4 : f (i + 4).toNatClampNeg = x4) (e5 : f (i + 5).toNatClampNeg = x5) (hcs : cs ≤ xmc G) (hsl : sl ≤ xms G) (hI : Iv A B) (kE : ∀ A' B', Iv A' B' → AW G 4 (ad, shLaw) cs sl (jn 182 A' B') 1093 [(0, .ref 1001), (1, .ref 0), (2, .ref 182), (3, .int i)] []) : AW G 4 (ad, shLaw) cs sl (jn 182 A B) 929 [(0, .ref 1001), (1, .ref 0), (2, .ref 182), (3, .int i)] [] := by
  have hI0 := hI
  obtain ⟨hTX, ⟨hTM, h23, hWL, hWd, hWI⟩, hRl, hRt⟩ := hI0
  refine aw_aload_n K dL_law_929 1 rfl rfl ?_
  refine aw_aload_n K dL_law_930 0 rfl rfl ?_
  refine aw_iload_n K dL_law_931 3 rfl rfl ?_
  refine aw_iconst (v := 1) K dL_law_932 (by decide) ?_
  refine aw_iadd K dL_law_933 ?_
  refine aw_sld K hX hL hn dL_law_934 g1.1 g1.2 ?_
  refine aw_topr (y := x1) e1 ?_
  refine aw_aload_n K dL_law_935 0 rfl rfl ?_
  refine aw_iload_n K dL_law_936 3 rfl rfl ?_
  refine aw_iconst (v := 2) K dL_law_937 (by decide) ?_
  refine aw_iadd K dL_law_938 ?_
  refine aw_sld K hX hL hn dL_law_939 g2.1 g2.2 ?_
  refine aw_topr (y := x2) e2 ?_
  refine aw_cX (As := [.int x1, .int x2]) (rest := []) K lnL_115 dL_law_940 (t_X11_slow x1 x2 A hTX) rfl rfl rfl (Nat.le_of_ble_eq_true rfl) (by decide) (by decide) hcs hsl (fun r_1 N_2 h_3 => ?_)
  obtain ⟨eM, h_3⟩ := h_3
  subst eM
  refine aw_pop K dL_law_943 rfl ?_
  refine aw_aload_n K dL_law_944 2 rfl rfl ?_
  refine aw_aload_n K dL_law_945 0 rfl rfl ?_
  refine aw_iload_n K dL_law_946 3 rfl rfl ?_
  refine aw_iconst (v := 1) K dL_law_947 (by decide) ?_
  refine aw_iadd K dL_law_948 ?_
  refine aw_sld K hX hL hn dL_law_949 g1.1 g1.2 ?_
  refine aw_topr (y := x1) e1 ?_
  refine aw_aload_n K dL_law_950 0 rfl rfl ?_
  refine aw_iload_n K dL_law_951 3 rfl rfl ?_
  refine aw_iconst (v := 2) K dL_law_952 (by decide) ?_
  refine aw_iadd K dL_law_953 ?_
  refine aw_sld K hX hL hn dL_law_954 g2.1 g2.2 ?_
  refine aw_topr (y := x2) e2 ?_
  refine aw_cM (As := [.int x1, .int x2]) (rest := []) K lnL_118 dL_law_955 (t_X12_slow x1 x2 B hTM) rfl rfl rfl (Nat.le_of_ble_eq_true rfl) (by decide) (by decide) hcs hsl (fun r_4 N_5 h_6 => ?_)
  refine aw_pop K dL_law_958 rfl ?_
  refine aw_goto (tgt := 1093) K dL_law_959 (by decide) ?_
  exact kE _ _ (⟨hTX, im_M hI.2.1 h_6.1 h_6.2.1, rl_X_M hI.2.2.1 hTX Sx.rf h_6.2.1, rt_X_M hI.2.2.2 Sx.rf h_6.2.1⟩)

set_option maxHeartbeats 400000 in
set_option maxRecDepth 100000 in
theorem law_case_24 {G : Cx} {L : Nat} {f : Nat → Int32} {n : Int32} {cs sl : Nat} {ad : Nat → Nat} {A B : Mx} {i x1 x2 x3 x4 x5 : Int32} (K : Ok G cL_law 4 RL ret 1312) (hX : Scr G L f) (hL : L < 2 ^ 31) (hn : Int32.ofNat L = n) (g1 : 0 ≤ i + 1 ∧ i + 1 < n) (g2 : 0 ≤ i + 2 ∧ i + 2 < n) (g3 : 0 ≤ i + 3 ∧ i + 3 < n) (g4 : 0 ≤ i + 4 ∧ i + 4 < n) (g5 : 0 ≤ i + 5 ∧ i + 5 < n) (e1 : f (i + 1).toNatClampNeg = x1) (e2 : f (i + 2).toNatClampNeg = x2) (e3 : f (i + 3).toNatClampNeg = x3) (e4 : f (i + 4).toNatClampNeg = x4) (e5 : f (i + 5).toNatClampNeg = x5) (hcs : cs ≤ xmc G) (hsl : sl ≤ xms G) (hI : Iv A B) (kE : ∀ A' B', Iv A' B' → AW G 4 (ad, shLaw) cs sl (jn 182 A' B') 1093 [(0, .ref 1001), (1, .ref 0), (2, .ref 182), (3, .int i)] []) : AW G 4 (ad, shLaw) cs sl (jn 182 A B) 962 [(0, .ref 1001), (1, .ref 0), (2, .ref 182), (3, .int i)] [] := by
  have hI0 := hI
  obtain ⟨hTX, ⟨hTM, h23, hWL, hWd, hWI⟩, hRl, hRt⟩ := hI0
  refine aw_aload_n K dL_law_962 1 rfl rfl ?_
  refine aw_aload_n K dL_law_963 0 rfl rfl ?_
  refine aw_iload_n K dL_law_964 3 rfl rfl ?_
  refine aw_iconst (v := 1) K dL_law_965 (by decide) ?_
  refine aw_iadd K dL_law_966 ?_
  refine aw_sld K hX hL hn dL_law_967 g1.1 g1.2 ?_
  refine aw_topr (y := x1) e1 ?_
  refine aw_cX (As := [.int x1]) (rest := []) K lnL_119 dL_law_968 (t_X11_breaks x1 A hTX) rfl rfl rfl (Nat.le_of_ble_eq_true rfl) (by decide) (by decide) hcs hsl (fun r_1 N_2 h_3 => ?_)
  obtain ⟨eM, h_3⟩ := h_3
  subst eM
  refine aw_pop K dL_law_971 rfl ?_
  refine aw_aload_n K dL_law_972 2 rfl rfl ?_
  refine aw_aload_n K dL_law_973 0 rfl rfl ?_
  refine aw_iload_n K dL_law_974 3 rfl rfl ?_
  refine aw_iconst (v := 1) K dL_law_975 (by decide) ?_
  refine aw_iadd K dL_law_976 ?_
  refine aw_sld K hX hL hn dL_law_977 g1.1 g1.2 ?_
  refine aw_topr (y := x1) e1 ?_
  refine aw_cM (As := [.int x1]) (rest := []) K lnL_122 dL_law_978 (t_X12_breaks x1 B hTM) rfl rfl rfl (Nat.le_of_ble_eq_true rfl) (by decide) (by decide) hcs hsl (fun r_4 N_5 h_6 => ?_)
  refine aw_pop K dL_law_981 rfl ?_
  refine aw_goto (tgt := 1093) K dL_law_982 (by decide) ?_
  exact kE _ _ (⟨hTX, im_M hI.2.1 h_6.1 h_6.2.1, rl_X_M hI.2.2.1 hTX Sx.rf h_6.2.1, rt_X_M hI.2.2.2 Sx.rf h_6.2.1⟩)

set_option maxHeartbeats 400000 in
set_option maxRecDepth 100000 in
theorem law_case_25 {G : Cx} {L : Nat} {f : Nat → Int32} {n : Int32} {cs sl : Nat} {ad : Nat → Nat} {A B : Mx} {i x1 x2 x3 x4 x5 : Int32} (K : Ok G cL_law 4 RL ret 1312) (hX : Scr G L f) (hL : L < 2 ^ 31) (hn : Int32.ofNat L = n) (g1 : 0 ≤ i + 1 ∧ i + 1 < n) (g2 : 0 ≤ i + 2 ∧ i + 2 < n) (g3 : 0 ≤ i + 3 ∧ i + 3 < n) (g4 : 0 ≤ i + 4 ∧ i + 4 < n) (g5 : 0 ≤ i + 5 ∧ i + 5 < n) (e1 : f (i + 1).toNatClampNeg = x1) (e2 : f (i + 2).toNatClampNeg = x2) (e3 : f (i + 3).toNatClampNeg = x3) (e4 : f (i + 4).toNatClampNeg = x4) (e5 : f (i + 5).toNatClampNeg = x5) (hcs : cs ≤ xmc G) (hsl : sl ≤ xms G) (hI : Iv A B) (kE : ∀ A' B', Iv A' B' → AW G 4 (ad, shLaw) cs sl (jn 182 A' B') 1093 [(0, .ref 1001), (1, .ref 0), (2, .ref 182), (3, .int i)] []) : AW G 4 (ad, shLaw) cs sl (jn 182 A B) 985 [(0, .ref 1001), (1, .ref 0), (2, .ref 182), (3, .int i)] [] := by
  have hI0 := hI
  obtain ⟨hTX, ⟨hTM, h23, hWL, hWd, hWI⟩, hRl, hRt⟩ := hI0
  refine aw_aload_n K dL_law_985 1 rfl rfl ?_
  refine aw_aload_n K dL_law_986 0 rfl rfl ?_
  refine aw_iload_n K dL_law_987 3 rfl rfl ?_
  refine aw_iconst (v := 1) K dL_law_988 (by decide) ?_
  refine aw_iadd K dL_law_989 ?_
  refine aw_sld K hX hL hn dL_law_990 g1.1 g1.2 ?_
  refine aw_topr (y := x1) e1 ?_
  refine aw_aload_n K dL_law_991 0 rfl rfl ?_
  refine aw_iload_n K dL_law_992 3 rfl rfl ?_
  refine aw_iconst (v := 2) K dL_law_993 (by decide) ?_
  refine aw_iadd K dL_law_994 ?_
  refine aw_sld K hX hL hn dL_law_995 g2.1 g2.2 ?_
  refine aw_topr (y := x2) e2 ?_
  refine aw_cX (As := [.int x1, .int x2]) (rest := []) K lnL_123 dL_law_996 (t_X11_lasting x1 x2 A hTX) rfl rfl rfl (Nat.le_of_ble_eq_true rfl) (by decide) (by decide) hcs hsl (fun r_1 N_2 h_3 => ?_)
  obtain ⟨eM, h_3⟩ := h_3
  subst eM
  refine aw_pop K dL_law_999 rfl ?_
  refine aw_aload_n K dL_law_1000 2 rfl rfl ?_
  refine aw_aload_n K dL_law_1001 0 rfl rfl ?_
  refine aw_iload_n K dL_law_1002 3 rfl rfl ?_
  refine aw_iconst (v := 1) K dL_law_1003 (by decide) ?_
  refine aw_iadd K dL_law_1004 ?_
  refine aw_sld K hX hL hn dL_law_1005 g1.1 g1.2 ?_
  refine aw_topr (y := x1) e1 ?_
  refine aw_aload_n K dL_law_1006 0 rfl rfl ?_
  refine aw_iload_n K dL_law_1007 3 rfl rfl ?_
  refine aw_iconst (v := 2) K dL_law_1008 (by decide) ?_
  refine aw_iadd K dL_law_1009 ?_
  refine aw_sld K hX hL hn dL_law_1010 g2.1 g2.2 ?_
  refine aw_topr (y := x2) e2 ?_
  refine aw_cM (As := [.int x1, .int x2]) (rest := []) K lnL_126 dL_law_1011 (t_X12_lasting x1 x2 B hTM) rfl rfl rfl (Nat.le_of_ble_eq_true rfl) (by decide) (by decide) hcs hsl (fun r_4 N_5 h_6 => ?_)
  refine aw_pop K dL_law_1014 rfl ?_
  refine aw_goto (tgt := 1093) K dL_law_1015 (by decide) ?_
  exact kE _ _ (⟨hTX, im_M hI.2.1 h_6.1 h_6.2.1, rl_X_M hI.2.2.1 hTX Sx.rf h_6.2.1, rt_X_M hI.2.2.2 Sx.rf h_6.2.1⟩)

set_option maxHeartbeats 400000 in
set_option maxRecDepth 100000 in
theorem law_case_26 {G : Cx} {L : Nat} {f : Nat → Int32} {n : Int32} {cs sl : Nat} {ad : Nat → Nat} {A B : Mx} {i x1 x2 x3 x4 x5 : Int32} (K : Ok G cL_law 4 RL ret 1312) (hX : Scr G L f) (hL : L < 2 ^ 31) (hn : Int32.ofNat L = n) (g1 : 0 ≤ i + 1 ∧ i + 1 < n) (g2 : 0 ≤ i + 2 ∧ i + 2 < n) (g3 : 0 ≤ i + 3 ∧ i + 3 < n) (g4 : 0 ≤ i + 4 ∧ i + 4 < n) (g5 : 0 ≤ i + 5 ∧ i + 5 < n) (e1 : f (i + 1).toNatClampNeg = x1) (e2 : f (i + 2).toNatClampNeg = x2) (e3 : f (i + 3).toNatClampNeg = x3) (e4 : f (i + 4).toNatClampNeg = x4) (e5 : f (i + 5).toNatClampNeg = x5) (hcs : cs ≤ xmc G) (hsl : sl ≤ xms G) (hI : Iv A B) (kE : ∀ A' B', Iv A' B' → AW G 4 (ad, shLaw) cs sl (jn 182 A' B') 1093 [(0, .ref 1001), (1, .ref 0), (2, .ref 182), (3, .int i)] []) : AW G 4 (ad, shLaw) cs sl (jn 182 A B) 1018 [(0, .ref 1001), (1, .ref 0), (2, .ref 182), (3, .int i)] [] := by
  have hI0 := hI
  obtain ⟨hTX, ⟨hTM, h23, hWL, hWd, hWI⟩, hRl, hRt⟩ := hI0
  refine aw_aload_n K dL_law_1018 1 rfl rfl ?_
  refine aw_cX (As := []) (rest := []) K lnL_127 dL_law_1019 (t_X11_undo A hTX) rfl rfl rfl (Nat.le_of_ble_eq_true rfl) (by decide) (by decide) hcs hsl (fun r_1 N_2 h_3 => ?_)
  refine aw_pop K dL_law_1022 rfl ?_
  refine aw_aload_n K dL_law_1023 2 rfl rfl ?_
  refine aw_cM (As := []) (rest := []) K lnL_131 dL_law_1024 (t_X12_undo B hTM h23) rfl rfl rfl (Nat.le_of_ble_eq_true rfl) (by decide) (by decide) hcs hsl (fun r_4 N_5 h_6 => ?_)
  refine aw_pop K dL_law_1027 rfl ?_
  refine aw_goto (tgt := 1093) K dL_law_1028 (by decide) ?_
  exact kE _ _ (⟨h_3.1, im_N hI.2.1 h_6.1 h_6.2.1 h_6.2.2.2, rl_X_N hI.2.2.1 hTX h_3.2.1 h_6.2.1, rt_X_N hI.2.2.2 h_3.2.1 h_6.2.1⟩)

set_option maxHeartbeats 400000 in
set_option maxRecDepth 100000 in
theorem law_case_27 {G : Cx} {L : Nat} {f : Nat → Int32} {n : Int32} {cs sl : Nat} {ad : Nat → Nat} {A B : Mx} {i x1 x2 x3 x4 x5 : Int32} (K : Ok G cL_law 4 RL ret 1312) (hX : Scr G L f) (hL : L < 2 ^ 31) (hn : Int32.ofNat L = n) (g1 : 0 ≤ i + 1 ∧ i + 1 < n) (g2 : 0 ≤ i + 2 ∧ i + 2 < n) (g3 : 0 ≤ i + 3 ∧ i + 3 < n) (g4 : 0 ≤ i + 4 ∧ i + 4 < n) (g5 : 0 ≤ i + 5 ∧ i + 5 < n) (e1 : f (i + 1).toNatClampNeg = x1) (e2 : f (i + 2).toNatClampNeg = x2) (e3 : f (i + 3).toNatClampNeg = x3) (e4 : f (i + 4).toNatClampNeg = x4) (e5 : f (i + 5).toNatClampNeg = x5) (hcs : cs ≤ xmc G) (hsl : sl ≤ xms G) (hI : Iv A B) (kE : ∀ A' B', Iv A' B' → AW G 4 (ad, shLaw) cs sl (jn 182 A' B') 1093 [(0, .ref 1001), (1, .ref 0), (2, .ref 182), (3, .int i)] []) : AW G 4 (ad, shLaw) cs sl (jn 182 A B) 1031 [(0, .ref 1001), (1, .ref 0), (2, .ref 182), (3, .int i)] [] := by
  have hI0 := hI
  obtain ⟨hTX, ⟨hTM, h23, hWL, hWd, hWI⟩, hRl, hRt⟩ := hI0
  refine aw_aload_n K dL_law_1031 1 rfl rfl ?_
  refine aw_aload_n K dL_law_1032 0 rfl rfl ?_
  refine aw_iload_n K dL_law_1033 3 rfl rfl ?_
  refine aw_iconst (v := 1) K dL_law_1034 (by decide) ?_
  refine aw_iadd K dL_law_1035 ?_
  refine aw_sld K hX hL hn dL_law_1036 g1.1 g1.2 ?_
  refine aw_topr (y := x1) e1 ?_
  refine aw_if_eq (tgt := 1044) K dL_law_1037 (by decide) (fun c_1 => ?_) (fun c_1 => ?_)
  · refine aw_iconst (v := 0) K dL_law_1044 (by decide) ?_
    refine aw_cX (As := [.int 0]) (rest := []) K lnL_132 dL_law_1045 (t_X11_image 0 A hTX (by decide)) rfl rfl rfl (Nat.le_of_ble_eq_true rfl) (by decide) (by decide) hcs hsl (fun r_2 N_3 h_4 => ?_)
    refine aw_pop K dL_law_1048 rfl ?_
    refine aw_aload_n K dL_law_1049 2 rfl rfl ?_
    refine aw_aload_n K dL_law_1050 0 rfl rfl ?_
    refine aw_iload_n K dL_law_1051 3 rfl rfl ?_
    refine aw_iconst (v := 1) K dL_law_1052 (by decide) ?_
    refine aw_iadd K dL_law_1053 ?_
    refine aw_sld K hX hL hn dL_law_1054 g1.1 g1.2 ?_
    refine aw_topr (y := x1) e1 ?_
    refine aw_if_eq (tgt := 1062) K dL_law_1055 (by decide) (fun c_5 => ?_) (fun c_5 => ?_)
    · refine aw_iconst (v := 0) K dL_law_1062 (by decide) ?_
      refine aw_cM (As := [.int 0]) (rest := []) K lnL_136 dL_law_1063 (t_X12_image 0 B hTM h23 hWL hWI (by decide)) rfl rfl rfl (Nat.le_of_ble_eq_true rfl) (by decide) (by decide) hcs hsl (fun r_6 N_7 h_8 => ?_)
      refine aw_pop K dL_law_1066 rfl ?_
      refine aw_goto (tgt := 1093) K dL_law_1067 (by decide) ?_
      exact kE _ _ (⟨h_4.1, im_Q hI.2.1 h_8.1 h_8.2.1 h_8.2.2.1.2, (rl_image hI.2.2.1 hTX h_4.2.1 h_8.2.1 (tX_0_2 hTX).2 (tX_0_2 hTX).1 h_4.2.2 h_8.2.2.2).2, rt_Xi_Q hI.2.2.2 h_4.2.1 h_8.2.1⟩)
    · exact absurd c_1 c_5
  · refine aw_iconst (v := 1) K dL_law_1040 (by decide) ?_
    refine aw_goto (tgt := 1045) K dL_law_1041 (by decide) ?_
    refine aw_cX (As := [.int 1]) (rest := []) K lnL_132 dL_law_1045 (t_X11_image 1 A hTX (by decide)) rfl rfl rfl (Nat.le_of_ble_eq_true rfl) (by decide) (by decide) hcs hsl (fun r_9 N_10 h_11 => ?_)
    refine aw_pop K dL_law_1048 rfl ?_
    refine aw_aload_n K dL_law_1049 2 rfl rfl ?_
    refine aw_aload_n K dL_law_1050 0 rfl rfl ?_
    refine aw_iload_n K dL_law_1051 3 rfl rfl ?_
    refine aw_iconst (v := 1) K dL_law_1052 (by decide) ?_
    refine aw_iadd K dL_law_1053 ?_
    refine aw_sld K hX hL hn dL_law_1054 g1.1 g1.2 ?_
    refine aw_topr (y := x1) e1 ?_
    refine aw_if_eq (tgt := 1062) K dL_law_1055 (by decide) (fun c_12 => ?_) (fun c_12 => ?_)
    · exact absurd c_12 c_1
    · refine aw_iconst (v := 1) K dL_law_1058 (by decide) ?_
      refine aw_goto (tgt := 1063) K dL_law_1059 (by decide) ?_
      refine aw_cM (As := [.int 1]) (rest := []) K lnL_136 dL_law_1063 (t_X12_image 1 B hTM h23 hWL hWI (by decide)) rfl rfl rfl (Nat.le_of_ble_eq_true rfl) (by decide) (by decide) hcs hsl (fun r_13 N_14 h_15 => ?_)
      refine aw_pop K dL_law_1066 rfl ?_
      refine aw_goto (tgt := 1093) K dL_law_1067 (by decide) ?_
      exact kE _ _ (⟨h_11.1, im_Q hI.2.1 h_15.1 h_15.2.1 h_15.2.2.1.2, (rl_image hI.2.2.1 hTX h_11.2.1 h_15.2.1 (tX_0_2 hTX).2 (tX_0_2 hTX).1 h_11.2.2 h_15.2.2.2).2, rt_Xi_Q hI.2.2.2 h_11.2.1 h_15.2.1⟩)

set_option maxHeartbeats 400000 in
set_option maxRecDepth 100000 in
theorem law_case_28 {G : Cx} {L : Nat} {f : Nat → Int32} {n : Int32} {cs sl : Nat} {ad : Nat → Nat} {A B : Mx} {i x1 x2 x3 x4 x5 : Int32} (K : Ok G cL_law 4 RL ret 1312) (hX : Scr G L f) (hL : L < 2 ^ 31) (hn : Int32.ofNat L = n) (g1 : 0 ≤ i + 1 ∧ i + 1 < n) (g2 : 0 ≤ i + 2 ∧ i + 2 < n) (g3 : 0 ≤ i + 3 ∧ i + 3 < n) (g4 : 0 ≤ i + 4 ∧ i + 4 < n) (g5 : 0 ≤ i + 5 ∧ i + 5 < n) (e1 : f (i + 1).toNatClampNeg = x1) (e2 : f (i + 2).toNatClampNeg = x2) (e3 : f (i + 3).toNatClampNeg = x3) (e4 : f (i + 4).toNatClampNeg = x4) (e5 : f (i + 5).toNatClampNeg = x5) (hcs : cs ≤ xmc G) (hsl : sl ≤ xms G) (hI : Iv A B) (kE : ∀ A' B', Iv A' B' → AW G 4 (ad, shLaw) cs sl (jn 182 A' B') 1093 [(0, .ref 1001), (1, .ref 0), (2, .ref 182), (3, .int i)] []) : AW G 4 (ad, shLaw) cs sl (jn 182 A B) 1070 [(0, .ref 1001), (1, .ref 0), (2, .ref 182), (3, .int i)] [] := by
  have hI0 := hI
  obtain ⟨hTX, ⟨hTM, h23, hWL, hWd, hWI⟩, hRl, hRt⟩ := hI0
  refine aw_aload_n K dL_law_1070 1 rfl rfl ?_
  refine aw_aload_n K dL_law_1071 0 rfl rfl ?_
  refine aw_iload_n K dL_law_1072 3 rfl rfl ?_
  refine aw_iconst (v := 1) K dL_law_1073 (by decide) ?_
  refine aw_iadd K dL_law_1074 ?_
  refine aw_sld K hX hL hn dL_law_1075 g1.1 g1.2 ?_
  refine aw_topr (y := x1) e1 ?_
  refine aw_cX (As := [.int x1]) (rest := []) K lnL_137 dL_law_1076 (t_X11_look x1 A hTX) rfl rfl rfl (Nat.le_of_ble_eq_true rfl) (by decide) (by decide) hcs hsl (fun r_1 N_2 h_3 => ?_)
  obtain ⟨eM, h_3⟩ := h_3
  subst eM
  refine aw_pop K dL_law_1079 rfl ?_
  refine aw_aload_n K dL_law_1080 2 rfl rfl ?_
  refine aw_aload_n K dL_law_1081 0 rfl rfl ?_
  refine aw_iload_n K dL_law_1082 3 rfl rfl ?_
  refine aw_iconst (v := 1) K dL_law_1083 (by decide) ?_
  refine aw_iadd K dL_law_1084 ?_
  refine aw_sld K hX hL hn dL_law_1085 g1.1 g1.2 ?_
  refine aw_topr (y := x1) e1 ?_
  refine aw_cM (As := [.int x1]) (rest := []) K lnL_140 dL_law_1086 (t_X12_look x1 B hTM) rfl rfl rfl (Nat.le_of_ble_eq_true rfl) (by decide) (by decide) hcs hsl (fun r_4 N_5 h_6 => ?_)
  refine aw_pop K dL_law_1089 rfl ?_
  refine aw_goto (tgt := 1093) K dL_law_1090 (by decide) ?_
  exact kE _ _ (⟨hTX, im_M hI.2.1 h_6.1 h_6.2.1, rl_X_M hI.2.2.1 hTX Sx.rf h_6.2.1, rt_X_M hI.2.2.2 Sx.rf h_6.2.1⟩)
