set_option maxHeartbeats 400000 in
set_option maxRecDepth 100000 in
theorem law_case_0 {G : Cx} {L : Nat} {f : Nat → Int32} {cs sl : Nat} {ad : Nat → Nat} {A B : Mx} {x1 x2 x3 x4 x5 : Int32} (K : Ok G cL_law 4 RL ret 1312) (hX : Scr G L f) (h6 : L = 6) (e1 : f 1 = x1) (e2 : f 2 = x2) (e3 : f 3 = x3) (e4 : f 4 = x4) (e5 : f 5 = x5) (hcs : cs ≤ xmc G) (hsl : sl ≤ xms G) (hFX : FX A) (hFM : FM B) (kE : ∀ M, AW G 4 (ad, shLaw) cs sl M 1093 [(0, .ref 1001), (1, .ref 0), (2, .ref 182), (3, .int 0)] []) : AW G 4 (ad, shLaw) cs sl (jn 182 A B) 164 [(0, .ref 1001), (1, .ref 0), (2, .ref 182), (3, .int 0)] [] := by
  refine aw_aload_n K dL_law_164 1 rfl rfl ?_
  refine aw_aload_n K dL_law_165 0 rfl rfl ?_
  refine aw_iload_n K dL_law_166 3 rfl rfl ?_
  refine aw_iconst (v := 1) K dL_law_167 (by decide) ?_
  refine aw_iadd K dL_law_168 ?_
  refine aw_topr (y := 1) (by decide) ?_
  refine aw_sldk (j := 1) (x := x1) K hX h6 dL_law_169 (by decide) (by decide) e1 ?_
  refine aw_cX (As := [.int x1]) (rest := []) K lnL_13 dL_law_170 (c_X11_state x1 A hFX) rfl rfl rfl (Nat.le_of_ble_eq_true rfl) (by decide) (by decide) hcs hsl (fun r_1 N_2 h_3 => ?_)
  refine aw_aload_n K dL_law_173 2 rfl rfl ?_
  refine aw_aload_n K dL_law_174 0 rfl rfl ?_
  refine aw_iload_n K dL_law_175 3 rfl rfl ?_
  refine aw_iconst (v := 1) K dL_law_176 (by decide) ?_
  refine aw_iadd K dL_law_177 ?_
  refine aw_topr (y := 1) (by decide) ?_
  refine aw_sldk (j := 1) (x := x1) K hX h6 dL_law_178 (by decide) (by decide) e1 ?_
  refine aw_cM (As := [.int x1]) (rest := [.int r_1]) K lnL_17 dL_law_179 (c_X12_state x1 B hFM) rfl rfl rfl (Nat.le_of_ble_eq_true rfl) (by decide) (by decide) hcs hsl (fun r_4 N_5 h_6 => ?_)
  refine aw_icmp_eq (tgt := 1093) K dL_law_182 (by decide) (fun _ => kE _) (fun c_7 => False.elim ?_)
  clear K hX hcs hsl hFX hFM kE G
  grind

set_option maxHeartbeats 400000 in
set_option maxRecDepth 100000 in
theorem law_case_1 {G : Cx} {L : Nat} {f : Nat → Int32} {cs sl : Nat} {ad : Nat → Nat} {A B : Mx} {x1 x2 x3 x4 x5 : Int32} (K : Ok G cL_law 4 RL ret 1312) (hX : Scr G L f) (h6 : L = 6) (e1 : f 1 = x1) (e2 : f 2 = x2) (e3 : f 3 = x3) (e4 : f 4 = x4) (e5 : f 5 = x5) (hcs : cs ≤ xmc G) (hsl : sl ≤ xms G) (hFX : FX A) (hFM : FM B) (kE : ∀ M, AW G 4 (ad, shLaw) cs sl M 1093 [(0, .ref 1001), (1, .ref 0), (2, .ref 182), (3, .int 0)] []) : AW G 4 (ad, shLaw) cs sl (jn 182 A B) 187 [(0, .ref 1001), (1, .ref 0), (2, .ref 182), (3, .int 0)] [] := by
  refine aw_aload_n K dL_law_187 1 rfl rfl ?_
  refine aw_aload_n K dL_law_188 0 rfl rfl ?_
  refine aw_iload_n K dL_law_189 3 rfl rfl ?_
  refine aw_iconst (v := 1) K dL_law_190 (by decide) ?_
  refine aw_iadd K dL_law_191 ?_
  refine aw_topr (y := 1) (by decide) ?_
  refine aw_sldk (j := 1) (x := x1) K hX h6 dL_law_192 (by decide) (by decide) e1 ?_
  refine aw_cX (As := [.int x1]) (rest := []) K lnL_18 dL_law_193 (c_X11_notches x1 A hFX) rfl rfl rfl (Nat.le_of_ble_eq_true rfl) (by decide) (by decide) hcs hsl (fun r_1 N_2 h_3 => ?_)
  refine aw_aload_n K dL_law_196 2 rfl rfl ?_
  refine aw_aload_n K dL_law_197 0 rfl rfl ?_
  refine aw_iload_n K dL_law_198 3 rfl rfl ?_
  refine aw_iconst (v := 1) K dL_law_199 (by decide) ?_
  refine aw_iadd K dL_law_200 ?_
  refine aw_topr (y := 1) (by decide) ?_
  refine aw_sldk (j := 1) (x := x1) K hX h6 dL_law_201 (by decide) (by decide) e1 ?_
  refine aw_cM (As := [.int x1]) (rest := [.int r_1]) K lnL_22 dL_law_202 (c_X12_notches x1 B hFM) rfl rfl rfl (Nat.le_of_ble_eq_true rfl) (by decide) (by decide) hcs hsl (fun r_4 N_5 h_6 => ?_)
  refine aw_icmp_eq (tgt := 1093) K dL_law_205 (by decide) (fun _ => kE _) (fun c_7 => False.elim ?_)
  clear K hX hcs hsl hFX hFM kE G
  have hp := fun a b => par2 (n := x1) a b
  grind

set_option maxHeartbeats 400000 in
set_option maxRecDepth 100000 in
theorem law_case_2 {G : Cx} {L : Nat} {f : Nat → Int32} {cs sl : Nat} {ad : Nat → Nat} {A B : Mx} {x1 x2 x3 x4 x5 : Int32} (K : Ok G cL_law 4 RL ret 1312) (hX : Scr G L f) (h6 : L = 6) (e1 : f 1 = x1) (e2 : f 2 = x2) (e3 : f 3 = x3) (e4 : f 4 = x4) (e5 : f 5 = x5) (hcs : cs ≤ xmc G) (hsl : sl ≤ xms G) (hFX : FX A) (hFM : FM B) (kE : ∀ M, AW G 4 (ad, shLaw) cs sl M 1093 [(0, .ref 1001), (1, .ref 0), (2, .ref 182), (3, .int 0)] []) : AW G 4 (ad, shLaw) cs sl (jn 182 A B) 210 [(0, .ref 1001), (1, .ref 0), (2, .ref 182), (3, .int 0)] [] := by
  refine aw_aload_n K dL_law_210 1 rfl rfl ?_
  refine aw_aload_n K dL_law_211 0 rfl rfl ?_
  refine aw_iload_n K dL_law_212 3 rfl rfl ?_
  refine aw_iconst (v := 1) K dL_law_213 (by decide) ?_
  refine aw_iadd K dL_law_214 ?_
  refine aw_topr (y := 1) (by decide) ?_
  refine aw_sldk (j := 1) (x := x1) K hX h6 dL_law_215 (by decide) (by decide) e1 ?_
  refine aw_aload_n K dL_law_216 0 rfl rfl ?_
  refine aw_iload_n K dL_law_217 3 rfl rfl ?_
  refine aw_iconst (v := 2) K dL_law_218 (by decide) ?_
  refine aw_iadd K dL_law_219 ?_
  refine aw_topr (y := 2) (by decide) ?_
  refine aw_sldk (j := 2) (x := x2) K hX h6 dL_law_220 (by decide) (by decide) e2 ?_
  refine aw_aload_n K dL_law_221 0 rfl rfl ?_
  refine aw_iload_n K dL_law_222 3 rfl rfl ?_
  refine aw_iconst (v := 3) K dL_law_223 (by decide) ?_
  refine aw_iadd K dL_law_224 ?_
  refine aw_topr (y := 3) (by decide) ?_
  refine aw_sldk (j := 3) (x := x3) K hX h6 dL_law_225 (by decide) (by decide) e3 ?_
  refine aw_cX (As := [.int x1, .int x2, .int x3]) (rest := []) K lnL_23 dL_law_226 (c_X11_bucket x1 x2 x3 A hFX) rfl rfl rfl (Nat.le_of_ble_eq_true rfl) (by decide) (by decide) hcs hsl (fun r_1 N_2 h_3 => ?_)
  refine aw_aload_n K dL_law_229 2 rfl rfl ?_
  refine aw_aload_n K dL_law_230 0 rfl rfl ?_
  refine aw_iload_n K dL_law_231 3 rfl rfl ?_
  refine aw_iconst (v := 1) K dL_law_232 (by decide) ?_
  refine aw_iadd K dL_law_233 ?_
  refine aw_topr (y := 1) (by decide) ?_
  refine aw_sldk (j := 1) (x := x1) K hX h6 dL_law_234 (by decide) (by decide) e1 ?_
  refine aw_aload_n K dL_law_235 0 rfl rfl ?_
  refine aw_iload_n K dL_law_236 3 rfl rfl ?_
  refine aw_iconst (v := 2) K dL_law_237 (by decide) ?_
  refine aw_iadd K dL_law_238 ?_
  refine aw_topr (y := 2) (by decide) ?_
  refine aw_sldk (j := 2) (x := x2) K hX h6 dL_law_239 (by decide) (by decide) e2 ?_
  refine aw_aload_n K dL_law_240 0 rfl rfl ?_
  refine aw_iload_n K dL_law_241 3 rfl rfl ?_
  refine aw_iconst (v := 3) K dL_law_242 (by decide) ?_
  refine aw_iadd K dL_law_243 ?_
  refine aw_topr (y := 3) (by decide) ?_
  refine aw_sldk (j := 3) (x := x3) K hX h6 dL_law_244 (by decide) (by decide) e3 ?_
  refine aw_cM (As := [.int x1, .int x2, .int x3]) (rest := [.int r_1]) K lnL_27 dL_law_245 (c_X12_bucket x1 x2 x3 B hFM) rfl rfl rfl (Nat.le_of_ble_eq_true rfl) (by decide) (by decide) hcs hsl (fun r_4 N_5 h_6 => ?_)
  refine aw_icmp_eq (tgt := 1093) K dL_law_248 (by decide) (fun _ => kE _) (fun c_7 => False.elim ?_)
  clear K hX hcs hsl hFX hFM kE G
  grind

set_option maxHeartbeats 400000 in
set_option maxRecDepth 100000 in
theorem law_case_3 {G : Cx} {L : Nat} {f : Nat → Int32} {cs sl : Nat} {ad : Nat → Nat} {A B : Mx} {x1 x2 x3 x4 x5 : Int32} (K : Ok G cL_law 4 RL ret 1312) (hX : Scr G L f) (h6 : L = 6) (e1 : f 1 = x1) (e2 : f 2 = x2) (e3 : f 3 = x3) (e4 : f 4 = x4) (e5 : f 5 = x5) (hcs : cs ≤ xmc G) (hsl : sl ≤ xms G) (hFX : FX A) (hFM : FM B) (kE : ∀ M, AW G 4 (ad, shLaw) cs sl M 1093 [(0, .ref 1001), (1, .ref 0), (2, .ref 182), (3, .int 0)] []) : AW G 4 (ad, shLaw) cs sl (jn 182 A B) 253 [(0, .ref 1001), (1, .ref 0), (2, .ref 182), (3, .int 0)] [] := by
  refine aw_aload_n K dL_law_253 1 rfl rfl ?_
  refine aw_aload_n K dL_law_254 0 rfl rfl ?_
  refine aw_iload_n K dL_law_255 3 rfl rfl ?_
  refine aw_iconst (v := 1) K dL_law_256 (by decide) ?_
  refine aw_iadd K dL_law_257 ?_
  refine aw_topr (y := 1) (by decide) ?_
  refine aw_sldk (j := 1) (x := x1) K hX h6 dL_law_258 (by decide) (by decide) e1 ?_
  refine aw_aload_n K dL_law_259 0 rfl rfl ?_
  refine aw_iload_n K dL_law_260 3 rfl rfl ?_
  refine aw_iconst (v := 2) K dL_law_261 (by decide) ?_
  refine aw_iadd K dL_law_262 ?_
  refine aw_topr (y := 2) (by decide) ?_
  refine aw_sldk (j := 2) (x := x2) K hX h6 dL_law_263 (by decide) (by decide) e2 ?_
  refine aw_aload_n K dL_law_264 0 rfl rfl ?_
  refine aw_iload_n K dL_law_265 3 rfl rfl ?_
  refine aw_iconst (v := 3) K dL_law_266 (by decide) ?_
  refine aw_iadd K dL_law_267 ?_
  refine aw_topr (y := 3) (by decide) ?_
  refine aw_sldk (j := 3) (x := x3) K hX h6 dL_law_268 (by decide) (by decide) e3 ?_
  refine aw_aload_n K dL_law_269 0 rfl rfl ?_
  refine aw_iload_n K dL_law_270 3 rfl rfl ?_
  refine aw_iconst (v := 4) K dL_law_271 (by decide) ?_
  refine aw_iadd K dL_law_272 ?_
  refine aw_topr (y := 4) (by decide) ?_
  refine aw_sldk (j := 4) (x := x4) K hX h6 dL_law_273 (by decide) (by decide) e4 ?_
  refine aw_cX (As := [.int x1, .int x2, .int x3, .int x4]) (rest := []) K lnL_28 dL_law_274 (c_X11_farm x1 x2 x3 x4 A hFX) rfl rfl rfl (Nat.le_of_ble_eq_true rfl) (by decide) (by decide) hcs hsl (fun r_1 N_2 h_3 => ?_)
  refine aw_aload_n K dL_law_277 2 rfl rfl ?_
  refine aw_aload_n K dL_law_278 0 rfl rfl ?_
  refine aw_iload_n K dL_law_279 3 rfl rfl ?_
  refine aw_iconst (v := 1) K dL_law_280 (by decide) ?_
  refine aw_iadd K dL_law_281 ?_
  refine aw_topr (y := 1) (by decide) ?_
  refine aw_sldk (j := 1) (x := x1) K hX h6 dL_law_282 (by decide) (by decide) e1 ?_
  refine aw_aload_n K dL_law_283 0 rfl rfl ?_
  refine aw_iload_n K dL_law_284 3 rfl rfl ?_
  refine aw_iconst (v := 2) K dL_law_285 (by decide) ?_
  refine aw_iadd K dL_law_286 ?_
  refine aw_topr (y := 2) (by decide) ?_
  refine aw_sldk (j := 2) (x := x2) K hX h6 dL_law_287 (by decide) (by decide) e2 ?_
  refine aw_aload_n K dL_law_288 0 rfl rfl ?_
  refine aw_iload_n K dL_law_289 3 rfl rfl ?_
  refine aw_iconst (v := 3) K dL_law_290 (by decide) ?_
  refine aw_iadd K dL_law_291 ?_
  refine aw_topr (y := 3) (by decide) ?_
  refine aw_sldk (j := 3) (x := x3) K hX h6 dL_law_292 (by decide) (by decide) e3 ?_
  refine aw_aload_n K dL_law_293 0 rfl rfl ?_
  refine aw_iload_n K dL_law_294 3 rfl rfl ?_
  refine aw_iconst (v := 4) K dL_law_295 (by decide) ?_
  refine aw_iadd K dL_law_296 ?_
  refine aw_topr (y := 4) (by decide) ?_
  refine aw_sldk (j := 4) (x := x4) K hX h6 dL_law_297 (by decide) (by decide) e4 ?_
  refine aw_cM (As := [.int x1, .int x2, .int x3, .int x4]) (rest := [.int r_1]) K lnL_32 dL_law_298 (c_X12_farm x1 x2 x3 x4 B hFM) rfl rfl rfl (Nat.le_of_ble_eq_true rfl) (by decide) (by decide) hcs hsl (fun r_4 N_5 h_6 => ?_)
  refine aw_icmp_eq (tgt := 1093) K dL_law_301 (by decide) (fun _ => kE _) (fun c_7 => False.elim ?_)
  clear K hX hcs hsl hFX hFM kE G
  grind

set_option maxHeartbeats 400000 in
set_option maxRecDepth 100000 in
theorem law_case_4 {G : Cx} {L : Nat} {f : Nat → Int32} {cs sl : Nat} {ad : Nat → Nat} {A B : Mx} {x1 x2 x3 x4 x5 : Int32} (K : Ok G cL_law 4 RL ret 1312) (hX : Scr G L f) (h6 : L = 6) (e1 : f 1 = x1) (e2 : f 2 = x2) (e3 : f 3 = x3) (e4 : f 4 = x4) (e5 : f 5 = x5) (hcs : cs ≤ xmc G) (hsl : sl ≤ xms G) (hFX : FX A) (hFM : FM B) (kE : ∀ M, AW G 4 (ad, shLaw) cs sl M 1093 [(0, .ref 1001), (1, .ref 0), (2, .ref 182), (3, .int 0)] []) : AW G 4 (ad, shLaw) cs sl (jn 182 A B) 306 [(0, .ref 1001), (1, .ref 0), (2, .ref 182), (3, .int 0)] [] := by
  refine aw_aload_n K dL_law_306 1 rfl rfl ?_
  refine aw_aload_n K dL_law_307 0 rfl rfl ?_
  refine aw_iload_n K dL_law_308 3 rfl rfl ?_
  refine aw_iconst (v := 1) K dL_law_309 (by decide) ?_
  refine aw_iadd K dL_law_310 ?_
  refine aw_topr (y := 1) (by decide) ?_
  refine aw_sldk (j := 1) (x := x1) K hX h6 dL_law_311 (by decide) (by decide) e1 ?_
  refine aw_aload_n K dL_law_312 0 rfl rfl ?_
  refine aw_iload_n K dL_law_313 3 rfl rfl ?_
  refine aw_iconst (v := 2) K dL_law_314 (by decide) ?_
  refine aw_iadd K dL_law_315 ?_
  refine aw_topr (y := 2) (by decide) ?_
  refine aw_sldk (j := 2) (x := x2) K hX h6 dL_law_316 (by decide) (by decide) e2 ?_
  refine aw_aload_n K dL_law_317 0 rfl rfl ?_
  refine aw_iload_n K dL_law_318 3 rfl rfl ?_
  refine aw_iconst (v := 3) K dL_law_319 (by decide) ?_
  refine aw_iadd K dL_law_320 ?_
  refine aw_topr (y := 3) (by decide) ?_
  refine aw_sldk (j := 3) (x := x3) K hX h6 dL_law_321 (by decide) (by decide) e3 ?_
  refine aw_cX (As := [.int x1, .int x2, .int x3]) (rest := []) K lnL_33 dL_law_322 (c_X11_tell x1 x2 x3 A hFX) rfl rfl rfl (Nat.le_of_ble_eq_true rfl) (by decide) (by decide) hcs hsl (fun r_1 N_2 h_3 => ?_)
  refine aw_aload_n K dL_law_325 2 rfl rfl ?_
  refine aw_aload_n K dL_law_326 0 rfl rfl ?_
  refine aw_iload_n K dL_law_327 3 rfl rfl ?_
  refine aw_iconst (v := 1) K dL_law_328 (by decide) ?_
  refine aw_iadd K dL_law_329 ?_
  refine aw_topr (y := 1) (by decide) ?_
  refine aw_sldk (j := 1) (x := x1) K hX h6 dL_law_330 (by decide) (by decide) e1 ?_
  refine aw_aload_n K dL_law_331 0 rfl rfl ?_
  refine aw_iload_n K dL_law_332 3 rfl rfl ?_
  refine aw_iconst (v := 2) K dL_law_333 (by decide) ?_
  refine aw_iadd K dL_law_334 ?_
  refine aw_topr (y := 2) (by decide) ?_
  refine aw_sldk (j := 2) (x := x2) K hX h6 dL_law_335 (by decide) (by decide) e2 ?_
  refine aw_aload_n K dL_law_336 0 rfl rfl ?_
  refine aw_iload_n K dL_law_337 3 rfl rfl ?_
  refine aw_iconst (v := 3) K dL_law_338 (by decide) ?_
  refine aw_iadd K dL_law_339 ?_
  refine aw_topr (y := 3) (by decide) ?_
  refine aw_sldk (j := 3) (x := x3) K hX h6 dL_law_340 (by decide) (by decide) e3 ?_
  refine aw_cM (As := [.int x1, .int x2, .int x3]) (rest := [.int r_1]) K lnL_37 dL_law_341 (c_X12_tell x1 x2 x3 B hFM) rfl rfl rfl (Nat.le_of_ble_eq_true rfl) (by decide) (by decide) hcs hsl (fun r_4 N_5 h_6 => ?_)
  refine aw_icmp_eq (tgt := 1093) K dL_law_344 (by decide) (fun _ => kE _) (fun c_7 => False.elim ?_)
  clear K hX hcs hsl hFX hFM kE G
  grind

set_option maxHeartbeats 400000 in
set_option maxRecDepth 100000 in
theorem law_case_5 {G : Cx} {L : Nat} {f : Nat → Int32} {cs sl : Nat} {ad : Nat → Nat} {A B : Mx} {x1 x2 x3 x4 x5 : Int32} (K : Ok G cL_law 4 RL ret 1312) (hX : Scr G L f) (h6 : L = 6) (e1 : f 1 = x1) (e2 : f 2 = x2) (e3 : f 3 = x3) (e4 : f 4 = x4) (e5 : f 5 = x5) (hcs : cs ≤ xmc G) (hsl : sl ≤ xms G) (hFX : FX A) (hFM : FM B) (kE : ∀ M, AW G 4 (ad, shLaw) cs sl M 1093 [(0, .ref 1001), (1, .ref 0), (2, .ref 182), (3, .int 0)] []) : AW G 4 (ad, shLaw) cs sl (jn 182 A B) 349 [(0, .ref 1001), (1, .ref 0), (2, .ref 182), (3, .int 0)] [] := by
  refine aw_aload_n K dL_law_349 1 rfl rfl ?_
  refine aw_aload_n K dL_law_350 0 rfl rfl ?_
  refine aw_iload_n K dL_law_351 3 rfl rfl ?_
  refine aw_iconst (v := 1) K dL_law_352 (by decide) ?_
  refine aw_iadd K dL_law_353 ?_
  refine aw_topr (y := 1) (by decide) ?_
  refine aw_sldk (j := 1) (x := x1) K hX h6 dL_law_354 (by decide) (by decide) e1 ?_
  refine aw_aload_n K dL_law_355 0 rfl rfl ?_
  refine aw_iload_n K dL_law_356 3 rfl rfl ?_
  refine aw_iconst (v := 2) K dL_law_357 (by decide) ?_
  refine aw_iadd K dL_law_358 ?_
  refine aw_topr (y := 2) (by decide) ?_
  refine aw_sldk (j := 2) (x := x2) K hX h6 dL_law_359 (by decide) (by decide) e2 ?_
  refine aw_cX (As := [.int x1, .int x2]) (rest := []) K lnL_38 dL_law_360 (c_X11_turn x1 x2 A hFX) rfl rfl rfl (Nat.le_of_ble_eq_true rfl) (by decide) (by decide) hcs hsl (fun r_1 N_2 h_3 => ?_)
  refine aw_aload_n K dL_law_363 2 rfl rfl ?_
  refine aw_aload_n K dL_law_364 0 rfl rfl ?_
  refine aw_iload_n K dL_law_365 3 rfl rfl ?_
  refine aw_iconst (v := 1) K dL_law_366 (by decide) ?_
  refine aw_iadd K dL_law_367 ?_
  refine aw_topr (y := 1) (by decide) ?_
  refine aw_sldk (j := 1) (x := x1) K hX h6 dL_law_368 (by decide) (by decide) e1 ?_
  refine aw_aload_n K dL_law_369 0 rfl rfl ?_
  refine aw_iload_n K dL_law_370 3 rfl rfl ?_
  refine aw_iconst (v := 2) K dL_law_371 (by decide) ?_
  refine aw_iadd K dL_law_372 ?_
  refine aw_topr (y := 2) (by decide) ?_
  refine aw_sldk (j := 2) (x := x2) K hX h6 dL_law_373 (by decide) (by decide) e2 ?_
  refine aw_cM (As := [.int x1, .int x2]) (rest := [.int r_1]) K lnL_42 dL_law_374 (c_X12_turn x1 x2 B hFM) rfl rfl rfl (Nat.le_of_ble_eq_true rfl) (by decide) (by decide) hcs hsl (fun r_4 N_5 h_6 => ?_)
  refine aw_icmp_eq (tgt := 1093) K dL_law_377 (by decide) (fun _ => kE _) (fun c_7 => False.elim ?_)
  clear K hX hcs hsl hFX hFM kE G
  grind

set_option maxHeartbeats 400000 in
set_option maxRecDepth 100000 in
theorem law_case_6 {G : Cx} {L : Nat} {f : Nat → Int32} {cs sl : Nat} {ad : Nat → Nat} {A B : Mx} {x1 x2 x3 x4 x5 : Int32} (K : Ok G cL_law 4 RL ret 1312) (hX : Scr G L f) (h6 : L = 6) (e1 : f 1 = x1) (e2 : f 2 = x2) (e3 : f 3 = x3) (e4 : f 4 = x4) (e5 : f 5 = x5) (hcs : cs ≤ xmc G) (hsl : sl ≤ xms G) (hFX : FX A) (hFM : FM B) (kE : ∀ M, AW G 4 (ad, shLaw) cs sl M 1093 [(0, .ref 1001), (1, .ref 0), (2, .ref 182), (3, .int 0)] []) : AW G 4 (ad, shLaw) cs sl (jn 182 A B) 382 [(0, .ref 1001), (1, .ref 0), (2, .ref 182), (3, .int 0)] [] := by
  refine aw_aload_n K dL_law_382 1 rfl rfl ?_
  refine aw_aload_n K dL_law_383 0 rfl rfl ?_
  refine aw_iload_n K dL_law_384 3 rfl rfl ?_
  refine aw_iconst (v := 1) K dL_law_385 (by decide) ?_
  refine aw_iadd K dL_law_386 ?_
  refine aw_topr (y := 1) (by decide) ?_
  refine aw_sldk (j := 1) (x := x1) K hX h6 dL_law_387 (by decide) (by decide) e1 ?_
  refine aw_aload_n K dL_law_388 0 rfl rfl ?_
  refine aw_iload_n K dL_law_389 3 rfl rfl ?_
  refine aw_iconst (v := 2) K dL_law_390 (by decide) ?_
  refine aw_iadd K dL_law_391 ?_
  refine aw_topr (y := 2) (by decide) ?_
  refine aw_sldk (j := 2) (x := x2) K hX h6 dL_law_392 (by decide) (by decide) e2 ?_
  refine aw_aload_n K dL_law_393 0 rfl rfl ?_
  refine aw_iload_n K dL_law_394 3 rfl rfl ?_
  refine aw_iconst (v := 3) K dL_law_395 (by decide) ?_
  refine aw_iadd K dL_law_396 ?_
  refine aw_topr (y := 3) (by decide) ?_
  refine aw_sldk (j := 3) (x := x3) K hX h6 dL_law_397 (by decide) (by decide) e3 ?_
  refine aw_cX (As := [.int x1, .int x2, .int x3]) (rest := []) K lnL_43 dL_law_398 (c_X11_absent x1 x2 x3 A hFX) rfl rfl rfl (Nat.le_of_ble_eq_true rfl) (by decide) (by decide) hcs hsl (fun r_1 N_2 h_3 => ?_)
  refine aw_aload_n K dL_law_401 2 rfl rfl ?_
  refine aw_aload_n K dL_law_402 0 rfl rfl ?_
  refine aw_iload_n K dL_law_403 3 rfl rfl ?_
  refine aw_iconst (v := 1) K dL_law_404 (by decide) ?_
  refine aw_iadd K dL_law_405 ?_
  refine aw_topr (y := 1) (by decide) ?_
  refine aw_sldk (j := 1) (x := x1) K hX h6 dL_law_406 (by decide) (by decide) e1 ?_
  refine aw_aload_n K dL_law_407 0 rfl rfl ?_
  refine aw_iload_n K dL_law_408 3 rfl rfl ?_
  refine aw_iconst (v := 2) K dL_law_409 (by decide) ?_
  refine aw_iadd K dL_law_410 ?_
  refine aw_topr (y := 2) (by decide) ?_
  refine aw_sldk (j := 2) (x := x2) K hX h6 dL_law_411 (by decide) (by decide) e2 ?_
  refine aw_aload_n K dL_law_412 0 rfl rfl ?_
  refine aw_iload_n K dL_law_413 3 rfl rfl ?_
  refine aw_iconst (v := 3) K dL_law_414 (by decide) ?_
  refine aw_iadd K dL_law_415 ?_
  refine aw_topr (y := 3) (by decide) ?_
  refine aw_sldk (j := 3) (x := x3) K hX h6 dL_law_416 (by decide) (by decide) e3 ?_
  refine aw_cM (As := [.int x1, .int x2, .int x3]) (rest := [.int r_1]) K lnL_46 dL_law_417 (c_X12_absent x1 x2 x3 B hFM) rfl rfl rfl (Nat.le_of_ble_eq_true rfl) (by decide) (by decide) hcs hsl (fun r_4 N_5 h_6 => ?_)
  refine aw_icmp_eq (tgt := 1093) K dL_law_420 (by decide) (fun _ => kE _) (fun c_7 => False.elim ?_)
  clear K hX hcs hsl hFX hFM kE G
  grind

set_option maxHeartbeats 400000 in
set_option maxRecDepth 100000 in
theorem law_case_7 {G : Cx} {L : Nat} {f : Nat → Int32} {cs sl : Nat} {ad : Nat → Nat} {A B : Mx} {x1 x2 x3 x4 x5 : Int32} (K : Ok G cL_law 4 RL ret 1312) (hX : Scr G L f) (h6 : L = 6) (e1 : f 1 = x1) (e2 : f 2 = x2) (e3 : f 3 = x3) (e4 : f 4 = x4) (e5 : f 5 = x5) (hcs : cs ≤ xmc G) (hsl : sl ≤ xms G) (hFX : FX A) (hFM : FM B) (kE : ∀ M, AW G 4 (ad, shLaw) cs sl M 1093 [(0, .ref 1001), (1, .ref 0), (2, .ref 182), (3, .int 0)] []) : AW G 4 (ad, shLaw) cs sl (jn 182 A B) 425 [(0, .ref 1001), (1, .ref 0), (2, .ref 182), (3, .int 0)] [] := by
  refine aw_aload_n K dL_law_425 1 rfl rfl ?_
  refine aw_aload_n K dL_law_426 0 rfl rfl ?_
  refine aw_iload_n K dL_law_427 3 rfl rfl ?_
  refine aw_iconst (v := 1) K dL_law_428 (by decide) ?_
  refine aw_iadd K dL_law_429 ?_
  refine aw_topr (y := 1) (by decide) ?_
  refine aw_sldk (j := 1) (x := x1) K hX h6 dL_law_430 (by decide) (by decide) e1 ?_
  refine aw_aload_n K dL_law_431 0 rfl rfl ?_
  refine aw_iload_n K dL_law_432 3 rfl rfl ?_
  refine aw_iconst (v := 2) K dL_law_433 (by decide) ?_
  refine aw_iadd K dL_law_434 ?_
  refine aw_topr (y := 2) (by decide) ?_
  refine aw_sldk (j := 2) (x := x2) K hX h6 dL_law_435 (by decide) (by decide) e2 ?_
  refine aw_aload_n K dL_law_436 0 rfl rfl ?_
  refine aw_iload_n K dL_law_437 3 rfl rfl ?_
  refine aw_iconst (v := 3) K dL_law_438 (by decide) ?_
  refine aw_iadd K dL_law_439 ?_
  refine aw_topr (y := 3) (by decide) ?_
  refine aw_sldk (j := 3) (x := x3) K hX h6 dL_law_440 (by decide) (by decide) e3 ?_
  refine aw_cX (As := [.int x1, .int x2, .int x3]) (rest := []) K lnL_47 dL_law_441 (c_X11_splice x1 x2 x3 A hFX) rfl rfl rfl (Nat.le_of_ble_eq_true rfl) (by decide) (by decide) hcs hsl (fun r_1 N_2 h_3 => ?_)
  refine aw_aload_n K dL_law_444 2 rfl rfl ?_
  refine aw_aload_n K dL_law_445 0 rfl rfl ?_
  refine aw_iload_n K dL_law_446 3 rfl rfl ?_
  refine aw_iconst (v := 1) K dL_law_447 (by decide) ?_
  refine aw_iadd K dL_law_448 ?_
  refine aw_topr (y := 1) (by decide) ?_
  refine aw_sldk (j := 1) (x := x1) K hX h6 dL_law_449 (by decide) (by decide) e1 ?_
  refine aw_aload_n K dL_law_450 0 rfl rfl ?_
  refine aw_iload_n K dL_law_451 3 rfl rfl ?_
  refine aw_iconst (v := 2) K dL_law_452 (by decide) ?_
  refine aw_iadd K dL_law_453 ?_
  refine aw_topr (y := 2) (by decide) ?_
  refine aw_sldk (j := 2) (x := x2) K hX h6 dL_law_454 (by decide) (by decide) e2 ?_
  refine aw_aload_n K dL_law_455 0 rfl rfl ?_
  refine aw_iload_n K dL_law_456 3 rfl rfl ?_
  refine aw_iconst (v := 3) K dL_law_457 (by decide) ?_
  refine aw_iadd K dL_law_458 ?_
  refine aw_topr (y := 3) (by decide) ?_
  refine aw_sldk (j := 3) (x := x3) K hX h6 dL_law_459 (by decide) (by decide) e3 ?_
  refine aw_cM (As := [.int x1, .int x2, .int x3]) (rest := [.int r_1]) K lnL_50 dL_law_460 (c_X12_splice x1 x2 x3 B hFM) rfl rfl rfl (Nat.le_of_ble_eq_true rfl) (by decide) (by decide) hcs hsl (fun r_4 N_5 h_6 => ?_)
  refine aw_icmp_eq (tgt := 1093) K dL_law_463 (by decide) (fun _ => kE _) (fun c_7 => False.elim ?_)
  clear K hX hcs hsl hFX hFM kE G
  grind

set_option maxHeartbeats 400000 in
set_option maxRecDepth 100000 in
theorem law_case_8 {G : Cx} {L : Nat} {f : Nat → Int32} {cs sl : Nat} {ad : Nat → Nat} {A B : Mx} {x1 x2 x3 x4 x5 : Int32} (K : Ok G cL_law 4 RL ret 1312) (hX : Scr G L f) (h6 : L = 6) (e1 : f 1 = x1) (e2 : f 2 = x2) (e3 : f 3 = x3) (e4 : f 4 = x4) (e5 : f 5 = x5) (hcs : cs ≤ xmc G) (hsl : sl ≤ xms G) (hFX : FX A) (hFM : FM B) (kE : ∀ M, AW G 4 (ad, shLaw) cs sl M 1093 [(0, .ref 1001), (1, .ref 0), (2, .ref 182), (3, .int 0)] []) : AW G 4 (ad, shLaw) cs sl (jn 182 A B) 468 [(0, .ref 1001), (1, .ref 0), (2, .ref 182), (3, .int 0)] [] := by
  refine aw_aload_n K dL_law_468 1 rfl rfl ?_
  refine aw_aload_n K dL_law_469 0 rfl rfl ?_
  refine aw_iload_n K dL_law_470 3 rfl rfl ?_
  refine aw_iconst (v := 1) K dL_law_471 (by decide) ?_
  refine aw_iadd K dL_law_472 ?_
  refine aw_topr (y := 1) (by decide) ?_
  refine aw_sldk (j := 1) (x := x1) K hX h6 dL_law_473 (by decide) (by decide) e1 ?_
  refine aw_aload_n K dL_law_474 0 rfl rfl ?_
  refine aw_iload_n K dL_law_475 3 rfl rfl ?_
  refine aw_iconst (v := 2) K dL_law_476 (by decide) ?_
  refine aw_iadd K dL_law_477 ?_
  refine aw_topr (y := 2) (by decide) ?_
  refine aw_sldk (j := 2) (x := x2) K hX h6 dL_law_478 (by decide) (by decide) e2 ?_
  refine aw_cX (As := [.int x1, .int x2]) (rest := []) K lnL_51 dL_law_479 (c_X11_mend x1 x2 A hFX) rfl rfl rfl (Nat.le_of_ble_eq_true rfl) (by decide) (by decide) hcs hsl (fun r_1 N_2 h_3 => ?_)
  refine aw_aload_n K dL_law_482 2 rfl rfl ?_
  refine aw_aload_n K dL_law_483 0 rfl rfl ?_
  refine aw_iload_n K dL_law_484 3 rfl rfl ?_
  refine aw_iconst (v := 1) K dL_law_485 (by decide) ?_
  refine aw_iadd K dL_law_486 ?_
  refine aw_topr (y := 1) (by decide) ?_
  refine aw_sldk (j := 1) (x := x1) K hX h6 dL_law_487 (by decide) (by decide) e1 ?_
  refine aw_aload_n K dL_law_488 0 rfl rfl ?_
  refine aw_iload_n K dL_law_489 3 rfl rfl ?_
  refine aw_iconst (v := 2) K dL_law_490 (by decide) ?_
  refine aw_iadd K dL_law_491 ?_
  refine aw_topr (y := 2) (by decide) ?_
  refine aw_sldk (j := 2) (x := x2) K hX h6 dL_law_492 (by decide) (by decide) e2 ?_
  refine aw_cM (As := [.int x1, .int x2]) (rest := [.int r_1]) K lnL_54 dL_law_493 (c_X12_mend x1 x2 B hFM) rfl rfl rfl (Nat.le_of_ble_eq_true rfl) (by decide) (by decide) hcs hsl (fun r_4 N_5 h_6 => ?_)
  refine aw_icmp_eq (tgt := 1093) K dL_law_496 (by decide) (fun _ => kE _) (fun c_7 => False.elim ?_)
  clear K hX hcs hsl hFX hFM kE G
  grind

set_option maxHeartbeats 400000 in
set_option maxRecDepth 100000 in
theorem law_case_9 {G : Cx} {L : Nat} {f : Nat → Int32} {cs sl : Nat} {ad : Nat → Nat} {A B : Mx} {x1 x2 x3 x4 x5 : Int32} (K : Ok G cL_law 4 RL ret 1312) (hX : Scr G L f) (h6 : L = 6) (e1 : f 1 = x1) (e2 : f 2 = x2) (e3 : f 3 = x3) (e4 : f 4 = x4) (e5 : f 5 = x5) (hcs : cs ≤ xmc G) (hsl : sl ≤ xms G) (hFX : FX A) (hFM : FM B) (kE : ∀ M, AW G 4 (ad, shLaw) cs sl M 1093 [(0, .ref 1001), (1, .ref 0), (2, .ref 182), (3, .int 0)] []) : AW G 4 (ad, shLaw) cs sl (jn 182 A B) 501 [(0, .ref 1001), (1, .ref 0), (2, .ref 182), (3, .int 0)] [] := by
  refine aw_aload_n K dL_law_501 1 rfl rfl ?_
  refine aw_aload_n K dL_law_502 0 rfl rfl ?_
  refine aw_iload_n K dL_law_503 3 rfl rfl ?_
  refine aw_iconst (v := 1) K dL_law_504 (by decide) ?_
  refine aw_iadd K dL_law_505 ?_
  refine aw_topr (y := 1) (by decide) ?_
  refine aw_sldk (j := 1) (x := x1) K hX h6 dL_law_506 (by decide) (by decide) e1 ?_
  refine aw_aload_n K dL_law_507 0 rfl rfl ?_
  refine aw_iload_n K dL_law_508 3 rfl rfl ?_
  refine aw_iconst (v := 2) K dL_law_509 (by decide) ?_
  refine aw_iadd K dL_law_510 ?_
  refine aw_topr (y := 2) (by decide) ?_
  refine aw_sldk (j := 2) (x := x2) K hX h6 dL_law_511 (by decide) (by decide) e2 ?_
  refine aw_aload_n K dL_law_512 0 rfl rfl ?_
  refine aw_iload_n K dL_law_513 3 rfl rfl ?_
  refine aw_iconst (v := 3) K dL_law_514 (by decide) ?_
  refine aw_iadd K dL_law_515 ?_
  refine aw_topr (y := 3) (by decide) ?_
  refine aw_sldk (j := 3) (x := x3) K hX h6 dL_law_516 (by decide) (by decide) e3 ?_
  refine aw_if_eq (tgt := 524) K dL_law_517 (by decide) (fun c_1 => ?_) (fun c_1 => ?_)
  · refine aw_iconst (v := 0) K dL_law_524 (by decide) ?_
    refine aw_cX (As := [.int x1, .int x2, .int 0]) (rest := []) K lnL_55 dL_law_525 (c_X11_foes x1 x2 0 A hFX) rfl rfl rfl (Nat.le_of_ble_eq_true rfl) (by decide) (by decide) hcs hsl (fun r_2 N_3 h_4 => ?_)
    refine aw_aload_n K dL_law_528 2 rfl rfl ?_
    refine aw_aload_n K dL_law_529 0 rfl rfl ?_
    refine aw_iload_n K dL_law_530 3 rfl rfl ?_
    refine aw_iconst (v := 1) K dL_law_531 (by decide) ?_
    refine aw_iadd K dL_law_532 ?_
    refine aw_topr (y := 1) (by decide) ?_
    refine aw_sldk (j := 1) (x := x1) K hX h6 dL_law_533 (by decide) (by decide) e1 ?_
    refine aw_aload_n K dL_law_534 0 rfl rfl ?_
    refine aw_iload_n K dL_law_535 3 rfl rfl ?_
    refine aw_iconst (v := 2) K dL_law_536 (by decide) ?_
    refine aw_iadd K dL_law_537 ?_
    refine aw_topr (y := 2) (by decide) ?_
    refine aw_sldk (j := 2) (x := x2) K hX h6 dL_law_538 (by decide) (by decide) e2 ?_
    refine aw_aload_n K dL_law_539 0 rfl rfl ?_
    refine aw_iload_n K dL_law_540 3 rfl rfl ?_
    refine aw_iconst (v := 3) K dL_law_541 (by decide) ?_
    refine aw_iadd K dL_law_542 ?_
    refine aw_topr (y := 3) (by decide) ?_
    refine aw_sldk (j := 3) (x := x3) K hX h6 dL_law_543 (by decide) (by decide) e3 ?_
    refine aw_if_eq (tgt := 551) K dL_law_544 (by decide) (fun c_5 => ?_) (fun c_5 => ?_)
    · refine aw_iconst (v := 0) K dL_law_551 (by decide) ?_
      refine aw_cM (As := [.int x1, .int x2, .int 0]) (rest := [.int r_2]) K lnL_59 dL_law_552 (c_X12_foes x1 x2 0 B hFM) rfl rfl rfl (Nat.le_of_ble_eq_true rfl) (by decide) (by decide) hcs hsl (fun r_6 N_7 h_8 => ?_)
      refine aw_icmp_eq (tgt := 1093) K dL_law_555 (by decide) (fun _ => kE _) (fun c_9 => False.elim ?_)
      clear K hX hcs hsl hFX hFM kE G
      grind
    · refine aw_iconst (v := 1) K dL_law_547 (by decide) ?_
      refine aw_goto (tgt := 552) K dL_law_548 (by decide) ?_
      refine aw_cM (As := [.int x1, .int x2, .int 1]) (rest := [.int r_2]) K lnL_59 dL_law_552 (c_X12_foes x1 x2 1 B hFM) rfl rfl rfl (Nat.le_of_ble_eq_true rfl) (by decide) (by decide) hcs hsl (fun r_10 N_11 h_12 => ?_)
      refine aw_icmp_eq (tgt := 1093) K dL_law_555 (by decide) (fun _ => kE _) (fun c_13 => False.elim ?_)
      clear K hX hcs hsl hFX hFM kE G
      grind
  · refine aw_iconst (v := 1) K dL_law_520 (by decide) ?_
    refine aw_goto (tgt := 525) K dL_law_521 (by decide) ?_
    refine aw_cX (As := [.int x1, .int x2, .int 1]) (rest := []) K lnL_55 dL_law_525 (c_X11_foes x1 x2 1 A hFX) rfl rfl rfl (Nat.le_of_ble_eq_true rfl) (by decide) (by decide) hcs hsl (fun r_14 N_15 h_16 => ?_)
    refine aw_aload_n K dL_law_528 2 rfl rfl ?_
    refine aw_aload_n K dL_law_529 0 rfl rfl ?_
    refine aw_iload_n K dL_law_530 3 rfl rfl ?_
    refine aw_iconst (v := 1) K dL_law_531 (by decide) ?_
    refine aw_iadd K dL_law_532 ?_
    refine aw_topr (y := 1) (by decide) ?_
    refine aw_sldk (j := 1) (x := x1) K hX h6 dL_law_533 (by decide) (by decide) e1 ?_
    refine aw_aload_n K dL_law_534 0 rfl rfl ?_
    refine aw_iload_n K dL_law_535 3 rfl rfl ?_
    refine aw_iconst (v := 2) K dL_law_536 (by decide) ?_
    refine aw_iadd K dL_law_537 ?_
    refine aw_topr (y := 2) (by decide) ?_
    refine aw_sldk (j := 2) (x := x2) K hX h6 dL_law_538 (by decide) (by decide) e2 ?_
    refine aw_aload_n K dL_law_539 0 rfl rfl ?_
    refine aw_iload_n K dL_law_540 3 rfl rfl ?_
    refine aw_iconst (v := 3) K dL_law_541 (by decide) ?_
    refine aw_iadd K dL_law_542 ?_
    refine aw_topr (y := 3) (by decide) ?_
    refine aw_sldk (j := 3) (x := x3) K hX h6 dL_law_543 (by decide) (by decide) e3 ?_
    refine aw_if_eq (tgt := 551) K dL_law_544 (by decide) (fun c_17 => ?_) (fun c_17 => ?_)
    · refine aw_iconst (v := 0) K dL_law_551 (by decide) ?_
      refine aw_cM (As := [.int x1, .int x2, .int 0]) (rest := [.int r_14]) K lnL_59 dL_law_552 (c_X12_foes x1 x2 0 B hFM) rfl rfl rfl (Nat.le_of_ble_eq_true rfl) (by decide) (by decide) hcs hsl (fun r_18 N_19 h_20 => ?_)
      refine aw_icmp_eq (tgt := 1093) K dL_law_555 (by decide) (fun _ => kE _) (fun c_21 => False.elim ?_)
      clear K hX hcs hsl hFX hFM kE G
      grind
    · refine aw_iconst (v := 1) K dL_law_547 (by decide) ?_
      refine aw_goto (tgt := 552) K dL_law_548 (by decide) ?_
      refine aw_cM (As := [.int x1, .int x2, .int 1]) (rest := [.int r_14]) K lnL_59 dL_law_552 (c_X12_foes x1 x2 1 B hFM) rfl rfl rfl (Nat.le_of_ble_eq_true rfl) (by decide) (by decide) hcs hsl (fun r_22 N_23 h_24 => ?_)
      refine aw_icmp_eq (tgt := 1093) K dL_law_555 (by decide) (fun _ => kE _) (fun c_25 => False.elim ?_)
      clear K hX hcs hsl hFX hFM kE G
      grind

set_option maxHeartbeats 400000 in
set_option maxRecDepth 100000 in
theorem law_case_10 {G : Cx} {L : Nat} {f : Nat → Int32} {cs sl : Nat} {ad : Nat → Nat} {A B : Mx} {x1 x2 x3 x4 x5 : Int32} (K : Ok G cL_law 4 RL ret 1312) (hX : Scr G L f) (h6 : L = 6) (e1 : f 1 = x1) (e2 : f 2 = x2) (e3 : f 3 = x3) (e4 : f 4 = x4) (e5 : f 5 = x5) (hcs : cs ≤ xmc G) (hsl : sl ≤ xms G) (hFX : FX A) (hFM : FM B) (kE : ∀ M, AW G 4 (ad, shLaw) cs sl M 1093 [(0, .ref 1001), (1, .ref 0), (2, .ref 182), (3, .int 0)] []) : AW G 4 (ad, shLaw) cs sl (jn 182 A B) 560 [(0, .ref 1001), (1, .ref 0), (2, .ref 182), (3, .int 0)] [] := by
  refine aw_aload_n K dL_law_560 1 rfl rfl ?_
  refine aw_aload_n K dL_law_561 0 rfl rfl ?_
  refine aw_iload_n K dL_law_562 3 rfl rfl ?_
  refine aw_iconst (v := 1) K dL_law_563 (by decide) ?_
  refine aw_iadd K dL_law_564 ?_
  refine aw_topr (y := 1) (by decide) ?_
  refine aw_sldk (j := 1) (x := x1) K hX h6 dL_law_565 (by decide) (by decide) e1 ?_
  refine aw_aload_n K dL_law_566 0 rfl rfl ?_
  refine aw_iload_n K dL_law_567 3 rfl rfl ?_
  refine aw_iconst (v := 2) K dL_law_568 (by decide) ?_
  refine aw_iadd K dL_law_569 ?_
  refine aw_topr (y := 2) (by decide) ?_
  refine aw_sldk (j := 2) (x := x2) K hX h6 dL_law_570 (by decide) (by decide) e2 ?_
  refine aw_aload_n K dL_law_571 0 rfl rfl ?_
  refine aw_iload_n K dL_law_572 3 rfl rfl ?_
  refine aw_iconst (v := 3) K dL_law_573 (by decide) ?_
  refine aw_iadd K dL_law_574 ?_
  refine aw_topr (y := 3) (by decide) ?_
  refine aw_sldk (j := 3) (x := x3) K hX h6 dL_law_575 (by decide) (by decide) e3 ?_
  refine aw_aload_n K dL_law_576 0 rfl rfl ?_
  refine aw_iload_n K dL_law_577 3 rfl rfl ?_
  refine aw_iconst (v := 4) K dL_law_578 (by decide) ?_
  refine aw_iadd K dL_law_579 ?_
  refine aw_topr (y := 4) (by decide) ?_
  refine aw_sldk (j := 4) (x := x4) K hX h6 dL_law_580 (by decide) (by decide) e4 ?_
  refine aw_aload_n K dL_law_581 0 rfl rfl ?_
  refine aw_iload_n K dL_law_582 3 rfl rfl ?_
  refine aw_iconst (v := 5) K dL_law_583 (by decide) ?_
  refine aw_iadd K dL_law_584 ?_
  refine aw_topr (y := 5) (by decide) ?_
  refine aw_sldk (j := 5) (x := x5) K hX h6 dL_law_585 (by decide) (by decide) e5 ?_
  refine aw_cX (As := [.int x1, .int x2, .int x3, .int x4, .int x5]) (rest := []) K lnL_60 dL_law_586 (c_X11_feed x1 x2 x3 x4 x5 A hFX) rfl rfl rfl (Nat.le_of_ble_eq_true rfl) (by decide) (by decide) hcs hsl (fun r_1 N_2 h_3 => ?_)
  refine aw_aload_n K dL_law_589 2 rfl rfl ?_
  refine aw_aload_n K dL_law_590 0 rfl rfl ?_
  refine aw_iload_n K dL_law_591 3 rfl rfl ?_
  refine aw_iconst (v := 1) K dL_law_592 (by decide) ?_
  refine aw_iadd K dL_law_593 ?_
  refine aw_topr (y := 1) (by decide) ?_
  refine aw_sldk (j := 1) (x := x1) K hX h6 dL_law_594 (by decide) (by decide) e1 ?_
  refine aw_aload_n K dL_law_595 0 rfl rfl ?_
  refine aw_iload_n K dL_law_596 3 rfl rfl ?_
  refine aw_iconst (v := 2) K dL_law_597 (by decide) ?_
  refine aw_iadd K dL_law_598 ?_
  refine aw_topr (y := 2) (by decide) ?_
  refine aw_sldk (j := 2) (x := x2) K hX h6 dL_law_599 (by decide) (by decide) e2 ?_
  refine aw_aload_n K dL_law_600 0 rfl rfl ?_
  refine aw_iload_n K dL_law_601 3 rfl rfl ?_
  refine aw_iconst (v := 3) K dL_law_602 (by decide) ?_
  refine aw_iadd K dL_law_603 ?_
  refine aw_topr (y := 3) (by decide) ?_
  refine aw_sldk (j := 3) (x := x3) K hX h6 dL_law_604 (by decide) (by decide) e3 ?_
  refine aw_aload_n K dL_law_605 0 rfl rfl ?_
  refine aw_iload_n K dL_law_606 3 rfl rfl ?_
  refine aw_iconst (v := 4) K dL_law_607 (by decide) ?_
  refine aw_iadd K dL_law_608 ?_
  refine aw_topr (y := 4) (by decide) ?_
  refine aw_sldk (j := 4) (x := x4) K hX h6 dL_law_609 (by decide) (by decide) e4 ?_
  refine aw_aload_n K dL_law_610 0 rfl rfl ?_
  refine aw_iload_n K dL_law_611 3 rfl rfl ?_
  refine aw_iconst (v := 5) K dL_law_612 (by decide) ?_
  refine aw_iadd K dL_law_613 ?_
  refine aw_topr (y := 5) (by decide) ?_
  refine aw_sldk (j := 5) (x := x5) K hX h6 dL_law_614 (by decide) (by decide) e5 ?_
  refine aw_cM (As := [.int x1, .int x2, .int x3, .int x4, .int x5]) (rest := [.int r_1]) K lnL_64 dL_law_615 (c_X12_feed x1 x2 x3 x4 x5 B hFM) rfl rfl rfl (Nat.le_of_ble_eq_true rfl) (by decide) (by decide) hcs hsl (fun r_4 N_5 h_6 => ?_)
  refine aw_icmp_eq (tgt := 1093) K dL_law_618 (by decide) (fun _ => kE _) (fun c_7 => False.elim ?_)
  clear K hX hcs hsl hFX hFM kE G
  grind

set_option maxHeartbeats 400000 in
set_option maxRecDepth 100000 in
theorem law_case_11 {G : Cx} {L : Nat} {f : Nat → Int32} {cs sl : Nat} {ad : Nat → Nat} {A B : Mx} {x1 x2 x3 x4 x5 : Int32} (K : Ok G cL_law 4 RL ret 1312) (hX : Scr G L f) (h6 : L = 6) (e1 : f 1 = x1) (e2 : f 2 = x2) (e3 : f 3 = x3) (e4 : f 4 = x4) (e5 : f 5 = x5) (hcs : cs ≤ xmc G) (hsl : sl ≤ xms G) (hFX : FX A) (hFM : FM B) (kE : ∀ M, AW G 4 (ad, shLaw) cs sl M 1093 [(0, .ref 1001), (1, .ref 0), (2, .ref 182), (3, .int 0)] []) : AW G 4 (ad, shLaw) cs sl (jn 182 A B) 623 [(0, .ref 1001), (1, .ref 0), (2, .ref 182), (3, .int 0)] [] := by
  refine aw_aload_n K dL_law_623 1 rfl rfl ?_
  refine aw_aload_n K dL_law_624 0 rfl rfl ?_
  refine aw_iload_n K dL_law_625 3 rfl rfl ?_
  refine aw_iconst (v := 1) K dL_law_626 (by decide) ?_
  refine aw_iadd K dL_law_627 ?_
  refine aw_topr (y := 1) (by decide) ?_
  refine aw_sldk (j := 1) (x := x1) K hX h6 dL_law_628 (by decide) (by decide) e1 ?_
  refine aw_cX (As := [.int x1]) (rest := []) K lnL_65 dL_law_629 (c_X11_end x1 A hFX) rfl rfl rfl (Nat.le_of_ble_eq_true rfl) (by decide) (by decide) hcs hsl (fun r_1 N_2 h_3 => ?_)
  refine aw_aload_n K dL_law_632 2 rfl rfl ?_
  refine aw_aload_n K dL_law_633 0 rfl rfl ?_
  refine aw_iload_n K dL_law_634 3 rfl rfl ?_
  refine aw_iconst (v := 1) K dL_law_635 (by decide) ?_
  refine aw_iadd K dL_law_636 ?_
  refine aw_topr (y := 1) (by decide) ?_
  refine aw_sldk (j := 1) (x := x1) K hX h6 dL_law_637 (by decide) (by decide) e1 ?_
  refine aw_cM (As := [.int x1]) (rest := [.int r_1]) K lnL_68 dL_law_638 (c_X12_end x1 B hFM) rfl rfl rfl (Nat.le_of_ble_eq_true rfl) (by decide) (by decide) hcs hsl (fun r_4 N_5 h_6 => ?_)
  refine aw_icmp_eq (tgt := 1093) K dL_law_641 (by decide) (fun _ => kE _) (fun c_7 => False.elim ?_)
  clear K hX hcs hsl hFX hFM kE G
  grind

set_option maxHeartbeats 400000 in
set_option maxRecDepth 100000 in
theorem law_case_12 {G : Cx} {L : Nat} {f : Nat → Int32} {cs sl : Nat} {ad : Nat → Nat} {A B : Mx} {x1 x2 x3 x4 x5 : Int32} (K : Ok G cL_law 4 RL ret 1312) (hX : Scr G L f) (h6 : L = 6) (e1 : f 1 = x1) (e2 : f 2 = x2) (e3 : f 3 = x3) (e4 : f 4 = x4) (e5 : f 5 = x5) (hcs : cs ≤ xmc G) (hsl : sl ≤ xms G) (hFX : FX A) (hFM : FM B) (kE : ∀ M, AW G 4 (ad, shLaw) cs sl M 1093 [(0, .ref 1001), (1, .ref 0), (2, .ref 182), (3, .int 0)] []) : AW G 4 (ad, shLaw) cs sl (jn 182 A B) 646 [(0, .ref 1001), (1, .ref 0), (2, .ref 182), (3, .int 0)] [] := by
  refine aw_aload_n K dL_law_646 1 rfl rfl ?_
  refine aw_cX (As := []) (rest := []) K lnL_69 dL_law_647 (c_X11_text  A hFX) rfl rfl rfl (Nat.le_of_ble_eq_true rfl) (by decide) (by decide) hcs hsl (fun r_1 N_2 h_3 => ?_)
  refine aw_aload_n K dL_law_650 2 rfl rfl ?_
  refine aw_cM (As := []) (rest := [.int r_1]) K lnL_73 dL_law_651 (c_X12_text  B hFM) rfl rfl rfl (Nat.le_of_ble_eq_true rfl) (by decide) (by decide) hcs hsl (fun r_4 N_5 h_6 => ?_)
  refine aw_icmp_eq (tgt := 1093) K dL_law_654 (by decide) (fun _ => kE _) (fun c_7 => False.elim ?_)
  clear K hX hcs hsl hFX hFM kE G
  grind

set_option maxHeartbeats 400000 in
set_option maxRecDepth 100000 in
theorem law_case_13 {G : Cx} {L : Nat} {f : Nat → Int32} {cs sl : Nat} {ad : Nat → Nat} {A B : Mx} {x1 x2 x3 x4 x5 : Int32} (K : Ok G cL_law 4 RL ret 1312) (hX : Scr G L f) (h6 : L = 6) (e1 : f 1 = x1) (e2 : f 2 = x2) (e3 : f 3 = x3) (e4 : f 4 = x4) (e5 : f 5 = x5) (hcs : cs ≤ xmc G) (hsl : sl ≤ xms G) (hFX : FX A) (hFM : FM B) (kE : ∀ M, AW G 4 (ad, shLaw) cs sl M 1093 [(0, .ref 1001), (1, .ref 0), (2, .ref 182), (3, .int 0)] []) : AW G 4 (ad, shLaw) cs sl (jn 182 A B) 659 [(0, .ref 1001), (1, .ref 0), (2, .ref 182), (3, .int 0)] [] := by
  refine aw_aload_n K dL_law_659 1 rfl rfl ?_
  refine aw_aload_n K dL_law_660 0 rfl rfl ?_
  refine aw_iload_n K dL_law_661 3 rfl rfl ?_
  refine aw_iconst (v := 1) K dL_law_662 (by decide) ?_
  refine aw_iadd K dL_law_663 ?_
  refine aw_topr (y := 1) (by decide) ?_
  refine aw_sldk (j := 1) (x := x1) K hX h6 dL_law_664 (by decide) (by decide) e1 ?_
  refine aw_cX (As := [.int x1]) (rest := []) K lnL_74 dL_law_665 (c_X11_fault x1 A hFX) rfl rfl rfl (Nat.le_of_ble_eq_true rfl) (by decide) (by decide) hcs hsl (fun r_1 N_2 h_3 => ?_)
  refine aw_aload_n K dL_law_668 2 rfl rfl ?_
  refine aw_aload_n K dL_law_669 0 rfl rfl ?_
  refine aw_iload_n K dL_law_670 3 rfl rfl ?_
  refine aw_iconst (v := 1) K dL_law_671 (by decide) ?_
  refine aw_iadd K dL_law_672 ?_
  refine aw_topr (y := 1) (by decide) ?_
  refine aw_sldk (j := 1) (x := x1) K hX h6 dL_law_673 (by decide) (by decide) e1 ?_
  refine aw_cM (As := [.int x1]) (rest := [.int r_1]) K lnL_77 dL_law_674 (c_X12_fault x1 B hFM) rfl rfl rfl (Nat.le_of_ble_eq_true rfl) (by decide) (by decide) hcs hsl (fun r_4 N_5 h_6 => ?_)
  refine aw_icmp_eq (tgt := 1093) K dL_law_677 (by decide) (fun _ => kE _) (fun c_7 => False.elim ?_)
  clear K hX hcs hsl hFX hFM kE G
  grind

set_option maxHeartbeats 400000 in
set_option maxRecDepth 100000 in
theorem law_case_14 {G : Cx} {L : Nat} {f : Nat → Int32} {cs sl : Nat} {ad : Nat → Nat} {A B : Mx} {x1 x2 x3 x4 x5 : Int32} (K : Ok G cL_law 4 RL ret 1312) (hX : Scr G L f) (h6 : L = 6) (e1 : f 1 = x1) (e2 : f 2 = x2) (e3 : f 3 = x3) (e4 : f 4 = x4) (e5 : f 5 = x5) (hcs : cs ≤ xmc G) (hsl : sl ≤ xms G) (hFX : FX A) (hFM : FM B) (kE : ∀ M, AW G 4 (ad, shLaw) cs sl M 1093 [(0, .ref 1001), (1, .ref 0), (2, .ref 182), (3, .int 0)] []) : AW G 4 (ad, shLaw) cs sl (jn 182 A B) 682 [(0, .ref 1001), (1, .ref 0), (2, .ref 182), (3, .int 0)] [] := by
  refine aw_aload_n K dL_law_682 1 rfl rfl ?_
  refine aw_aload_n K dL_law_683 0 rfl rfl ?_
  refine aw_iload_n K dL_law_684 3 rfl rfl ?_
  refine aw_iconst (v := 1) K dL_law_685 (by decide) ?_
  refine aw_iadd K dL_law_686 ?_
  refine aw_topr (y := 1) (by decide) ?_
  refine aw_sldk (j := 1) (x := x1) K hX h6 dL_law_687 (by decide) (by decide) e1 ?_
  refine aw_cX (As := [.int x1]) (rest := []) K lnL_78 dL_law_688 (c_X11_hours x1 A hFX) rfl rfl rfl (Nat.le_of_ble_eq_true rfl) (by decide) (by decide) hcs hsl (fun r_1 N_2 h_3 => ?_)
  refine aw_aload_n K dL_law_691 2 rfl rfl ?_
  refine aw_aload_n K dL_law_692 0 rfl rfl ?_
  refine aw_iload_n K dL_law_693 3 rfl rfl ?_
  refine aw_iconst (v := 1) K dL_law_694 (by decide) ?_
  refine aw_iadd K dL_law_695 ?_
  refine aw_topr (y := 1) (by decide) ?_
  refine aw_sldk (j := 1) (x := x1) K hX h6 dL_law_696 (by decide) (by decide) e1 ?_
  refine aw_cM (As := [.int x1]) (rest := [.int r_1]) K lnL_81 dL_law_697 (c_X12_hours x1 B hFM) rfl rfl rfl (Nat.le_of_ble_eq_true rfl) (by decide) (by decide) hcs hsl (fun r_4 N_5 h_6 => ?_)
  refine aw_icmp_eq (tgt := 1093) K dL_law_700 (by decide) (fun _ => kE _) (fun c_7 => False.elim ?_)
  clear K hX hcs hsl hFX hFM kE G
  grind

set_option maxHeartbeats 400000 in
set_option maxRecDepth 100000 in
theorem law_case_15 {G : Cx} {L : Nat} {f : Nat → Int32} {cs sl : Nat} {ad : Nat → Nat} {A B : Mx} {x1 x2 x3 x4 x5 : Int32} (K : Ok G cL_law 4 RL ret 1312) (hX : Scr G L f) (h6 : L = 6) (e1 : f 1 = x1) (e2 : f 2 = x2) (e3 : f 3 = x3) (e4 : f 4 = x4) (e5 : f 5 = x5) (hcs : cs ≤ xmc G) (hsl : sl ≤ xms G) (hFX : FX A) (hFM : FM B) (kE : ∀ M, AW G 4 (ad, shLaw) cs sl M 1093 [(0, .ref 1001), (1, .ref 0), (2, .ref 182), (3, .int 0)] []) : AW G 4 (ad, shLaw) cs sl (jn 182 A B) 705 [(0, .ref 1001), (1, .ref 0), (2, .ref 182), (3, .int 0)] [] := by
  refine aw_aload_n K dL_law_705 1 rfl rfl ?_
  refine aw_aload_n K dL_law_706 0 rfl rfl ?_
  refine aw_iload_n K dL_law_707 3 rfl rfl ?_
  refine aw_iconst (v := 1) K dL_law_708 (by decide) ?_
  refine aw_iadd K dL_law_709 ?_
  refine aw_topr (y := 1) (by decide) ?_
  refine aw_sldk (j := 1) (x := x1) K hX h6 dL_law_710 (by decide) (by decide) e1 ?_
  refine aw_aload_n K dL_law_711 0 rfl rfl ?_
  refine aw_iload_n K dL_law_712 3 rfl rfl ?_
  refine aw_iconst (v := 2) K dL_law_713 (by decide) ?_
  refine aw_iadd K dL_law_714 ?_
  refine aw_topr (y := 2) (by decide) ?_
  refine aw_sldk (j := 2) (x := x2) K hX h6 dL_law_715 (by decide) (by decide) e2 ?_
  refine aw_cX (As := [.int x1, .int x2]) (rest := []) K lnL_82 dL_law_716 (c_X11_of x1 x2 A hFX) rfl rfl rfl (Nat.le_of_ble_eq_true rfl) (by decide) (by decide) hcs hsl (fun r_1 N_2 h_3 => ?_)
  refine aw_aload_n K dL_law_719 2 rfl rfl ?_
  refine aw_aload_n K dL_law_720 0 rfl rfl ?_
  refine aw_iload_n K dL_law_721 3 rfl rfl ?_
  refine aw_iconst (v := 1) K dL_law_722 (by decide) ?_
  refine aw_iadd K dL_law_723 ?_
  refine aw_topr (y := 1) (by decide) ?_
  refine aw_sldk (j := 1) (x := x1) K hX h6 dL_law_724 (by decide) (by decide) e1 ?_
  refine aw_aload_n K dL_law_725 0 rfl rfl ?_
  refine aw_iload_n K dL_law_726 3 rfl rfl ?_
  refine aw_iconst (v := 2) K dL_law_727 (by decide) ?_
  refine aw_iadd K dL_law_728 ?_
  refine aw_topr (y := 2) (by decide) ?_
  refine aw_sldk (j := 2) (x := x2) K hX h6 dL_law_729 (by decide) (by decide) e2 ?_
  refine aw_cM (As := [.int x1, .int x2]) (rest := [.int r_1]) K lnL_86 dL_law_730 (c_X12_of x1 x2 B hFM) rfl rfl rfl (Nat.le_of_ble_eq_true rfl) (by decide) (by decide) hcs hsl (fun r_4 N_5 h_6 => ?_)
  refine aw_icmp_eq (tgt := 1093) K dL_law_733 (by decide) (fun _ => kE _) (fun c_7 => False.elim ?_)
  clear K hX hcs hsl hFX hFM kE G
  grind

set_option maxHeartbeats 400000 in
set_option maxRecDepth 100000 in
theorem law_case_16 {G : Cx} {L : Nat} {f : Nat → Int32} {cs sl : Nat} {ad : Nat → Nat} {A B : Mx} {x1 x2 x3 x4 x5 : Int32} (K : Ok G cL_law 4 RL ret 1312) (hX : Scr G L f) (h6 : L = 6) (e1 : f 1 = x1) (e2 : f 2 = x2) (e3 : f 3 = x3) (e4 : f 4 = x4) (e5 : f 5 = x5) (hcs : cs ≤ xmc G) (hsl : sl ≤ xms G) (hFX : FX A) (hFM : FM B) (kE : ∀ M, AW G 4 (ad, shLaw) cs sl M 1093 [(0, .ref 1001), (1, .ref 0), (2, .ref 182), (3, .int 0)] []) : AW G 4 (ad, shLaw) cs sl (jn 182 A B) 738 [(0, .ref 1001), (1, .ref 0), (2, .ref 182), (3, .int 0)] [] := by
  refine aw_aload_n K dL_law_738 1 rfl rfl ?_
  refine aw_aload_n K dL_law_739 0 rfl rfl ?_
  refine aw_iload_n K dL_law_740 3 rfl rfl ?_
  refine aw_iconst (v := 1) K dL_law_741 (by decide) ?_
  refine aw_iadd K dL_law_742 ?_
  refine aw_topr (y := 1) (by decide) ?_
  refine aw_sldk (j := 1) (x := x1) K hX h6 dL_law_743 (by decide) (by decide) e1 ?_
  refine aw_aload_n K dL_law_744 0 rfl rfl ?_
  refine aw_iload_n K dL_law_745 3 rfl rfl ?_
  refine aw_iconst (v := 2) K dL_law_746 (by decide) ?_
  refine aw_iadd K dL_law_747 ?_
  refine aw_topr (y := 2) (by decide) ?_
  refine aw_sldk (j := 2) (x := x2) K hX h6 dL_law_748 (by decide) (by decide) e2 ?_
  refine aw_cX (As := [.int x1, .int x2]) (rest := []) K lnL_87 dL_law_749 (c_X11_pail x1 x2 A hFX) rfl rfl rfl (Nat.le_of_ble_eq_true rfl) (by decide) (by decide) hcs hsl (fun r_1 N_2 h_3 => ?_)
  refine aw_aload_n K dL_law_752 2 rfl rfl ?_
  refine aw_aload_n K dL_law_753 0 rfl rfl ?_
  refine aw_iload_n K dL_law_754 3 rfl rfl ?_
  refine aw_iconst (v := 1) K dL_law_755 (by decide) ?_
  refine aw_iadd K dL_law_756 ?_
  refine aw_topr (y := 1) (by decide) ?_
  refine aw_sldk (j := 1) (x := x1) K hX h6 dL_law_757 (by decide) (by decide) e1 ?_
  refine aw_aload_n K dL_law_758 0 rfl rfl ?_
  refine aw_iload_n K dL_law_759 3 rfl rfl ?_
  refine aw_iconst (v := 2) K dL_law_760 (by decide) ?_
  refine aw_iadd K dL_law_761 ?_
  refine aw_topr (y := 2) (by decide) ?_
  refine aw_sldk (j := 2) (x := x2) K hX h6 dL_law_762 (by decide) (by decide) e2 ?_
  refine aw_cM (As := [.int x1, .int x2]) (rest := [.int r_1]) K lnL_90 dL_law_763 (c_X12_pail x1 x2 B hFM) rfl rfl rfl (Nat.le_of_ble_eq_true rfl) (by decide) (by decide) hcs hsl (fun r_4 N_5 h_6 => ?_)
  refine aw_icmp_eq (tgt := 1093) K dL_law_766 (by decide) (fun _ => kE _) (fun c_7 => False.elim ?_)
  clear K hX hcs hsl hFX hFM kE G
  grind

set_option maxHeartbeats 400000 in
set_option maxRecDepth 100000 in
theorem law_case_17 {G : Cx} {L : Nat} {f : Nat → Int32} {cs sl : Nat} {ad : Nat → Nat} {A B : Mx} {x1 x2 x3 x4 x5 : Int32} (K : Ok G cL_law 4 RL ret 1312) (hX : Scr G L f) (h6 : L = 6) (e1 : f 1 = x1) (e2 : f 2 = x2) (e3 : f 3 = x3) (e4 : f 4 = x4) (e5 : f 5 = x5) (hcs : cs ≤ xmc G) (hsl : sl ≤ xms G) (hFX : FX A) (hFM : FM B) (kE : ∀ M, AW G 4 (ad, shLaw) cs sl M 1093 [(0, .ref 1001), (1, .ref 0), (2, .ref 182), (3, .int 0)] []) : AW G 4 (ad, shLaw) cs sl (jn 182 A B) 771 [(0, .ref 1001), (1, .ref 0), (2, .ref 182), (3, .int 0)] [] := by
  refine aw_aload_n K dL_law_771 1 rfl rfl ?_
  refine aw_aload_n K dL_law_772 0 rfl rfl ?_
  refine aw_iload_n K dL_law_773 3 rfl rfl ?_
  refine aw_iconst (v := 1) K dL_law_774 (by decide) ?_
  refine aw_iadd K dL_law_775 ?_
  refine aw_topr (y := 1) (by decide) ?_
  refine aw_sldk (j := 1) (x := x1) K hX h6 dL_law_776 (by decide) (by decide) e1 ?_
  refine aw_aload_n K dL_law_777 0 rfl rfl ?_
  refine aw_iload_n K dL_law_778 3 rfl rfl ?_
  refine aw_iconst (v := 2) K dL_law_779 (by decide) ?_
  refine aw_iadd K dL_law_780 ?_
  refine aw_topr (y := 2) (by decide) ?_
  refine aw_sldk (j := 2) (x := x2) K hX h6 dL_law_781 (by decide) (by decide) e2 ?_
  refine aw_cX (As := [.int x1, .int x2]) (rest := []) K lnL_91 dL_law_782 (c_X11_part x1 x2 A hFX) rfl rfl rfl (Nat.le_of_ble_eq_true rfl) (by decide) (by decide) hcs hsl (fun r_1 N_2 h_3 => ?_)
  refine aw_aload_n K dL_law_785 2 rfl rfl ?_
  refine aw_aload_n K dL_law_786 0 rfl rfl ?_
  refine aw_iload_n K dL_law_787 3 rfl rfl ?_
  refine aw_iconst (v := 1) K dL_law_788 (by decide) ?_
  refine aw_iadd K dL_law_789 ?_
  refine aw_topr (y := 1) (by decide) ?_
  refine aw_sldk (j := 1) (x := x1) K hX h6 dL_law_790 (by decide) (by decide) e1 ?_
  refine aw_aload_n K dL_law_791 0 rfl rfl ?_
  refine aw_iload_n K dL_law_792 3 rfl rfl ?_
  refine aw_iconst (v := 2) K dL_law_793 (by decide) ?_
  refine aw_iadd K dL_law_794 ?_
  refine aw_topr (y := 2) (by decide) ?_
  refine aw_sldk (j := 2) (x := x2) K hX h6 dL_law_795 (by decide) (by decide) e2 ?_
  refine aw_cM (As := [.int x1, .int x2]) (rest := [.int r_1]) K lnL_94 dL_law_796 (c_X12_part x1 x2 B hFM) rfl rfl rfl (Nat.le_of_ble_eq_true rfl) (by decide) (by decide) hcs hsl (fun r_4 N_5 h_6 => ?_)
  refine aw_icmp_eq (tgt := 1093) K dL_law_799 (by decide) (fun _ => kE _) (fun c_7 => False.elim ?_)
  clear K hX hcs hsl hFX hFM kE G
  grind

set_option maxHeartbeats 400000 in
set_option maxRecDepth 100000 in
theorem law_case_18 {G : Cx} {L : Nat} {f : Nat → Int32} {cs sl : Nat} {ad : Nat → Nat} {A B : Mx} {x1 x2 x3 x4 x5 : Int32} (K : Ok G cL_law 4 RL ret 1312) (hX : Scr G L f) (h6 : L = 6) (e1 : f 1 = x1) (e2 : f 2 = x2) (e3 : f 3 = x3) (e4 : f 4 = x4) (e5 : f 5 = x5) (hcs : cs ≤ xmc G) (hsl : sl ≤ xms G) (hFX : FX A) (hFM : FM B) (kE : ∀ M, AW G 4 (ad, shLaw) cs sl M 1093 [(0, .ref 1001), (1, .ref 0), (2, .ref 182), (3, .int 0)] []) : AW G 4 (ad, shLaw) cs sl (jn 182 A B) 804 [(0, .ref 1001), (1, .ref 0), (2, .ref 182), (3, .int 0)] [] := by
  refine aw_aload_n K dL_law_804 1 rfl rfl ?_
  refine aw_aload_n K dL_law_805 0 rfl rfl ?_
  refine aw_iload_n K dL_law_806 3 rfl rfl ?_
  refine aw_iconst (v := 1) K dL_law_807 (by decide) ?_
  refine aw_iadd K dL_law_808 ?_
  refine aw_topr (y := 1) (by decide) ?_
  refine aw_sldk (j := 1) (x := x1) K hX h6 dL_law_809 (by decide) (by decide) e1 ?_
  refine aw_aload_n K dL_law_810 0 rfl rfl ?_
  refine aw_iload_n K dL_law_811 3 rfl rfl ?_
  refine aw_iconst (v := 2) K dL_law_812 (by decide) ?_
  refine aw_iadd K dL_law_813 ?_
  refine aw_topr (y := 2) (by decide) ?_
  refine aw_sldk (j := 2) (x := x2) K hX h6 dL_law_814 (by decide) (by decide) e2 ?_
  refine aw_cX (As := [.int x1, .int x2]) (rest := []) K lnL_95 dL_law_815 (c_X11_owes x1 x2 A hFX) rfl rfl rfl (Nat.le_of_ble_eq_true rfl) (by decide) (by decide) hcs hsl (fun r_1 N_2 h_3 => ?_)
  refine aw_aload_n K dL_law_818 2 rfl rfl ?_
  refine aw_aload_n K dL_law_819 0 rfl rfl ?_
  refine aw_iload_n K dL_law_820 3 rfl rfl ?_
  refine aw_iconst (v := 1) K dL_law_821 (by decide) ?_
  refine aw_iadd K dL_law_822 ?_
  refine aw_topr (y := 1) (by decide) ?_
  refine aw_sldk (j := 1) (x := x1) K hX h6 dL_law_823 (by decide) (by decide) e1 ?_
  refine aw_aload_n K dL_law_824 0 rfl rfl ?_
  refine aw_iload_n K dL_law_825 3 rfl rfl ?_
  refine aw_iconst (v := 2) K dL_law_826 (by decide) ?_
  refine aw_iadd K dL_law_827 ?_
  refine aw_topr (y := 2) (by decide) ?_
  refine aw_sldk (j := 2) (x := x2) K hX h6 dL_law_828 (by decide) (by decide) e2 ?_
  refine aw_cM (As := [.int x1, .int x2]) (rest := [.int r_1]) K lnL_98 dL_law_829 (c_X12_owes x1 x2 B hFM) rfl rfl rfl (Nat.le_of_ble_eq_true rfl) (by decide) (by decide) hcs hsl (fun r_4 N_5 h_6 => ?_)
  refine aw_icmp_eq (tgt := 1093) K dL_law_832 (by decide) (fun _ => kE _) (fun c_7 => False.elim ?_)
  clear K hX hcs hsl hFX hFM kE G
  grind

set_option maxHeartbeats 400000 in
set_option maxRecDepth 100000 in
theorem law_case_19 {G : Cx} {L : Nat} {f : Nat → Int32} {cs sl : Nat} {ad : Nat → Nat} {A B : Mx} {x1 x2 x3 x4 x5 : Int32} (K : Ok G cL_law 4 RL ret 1312) (hX : Scr G L f) (h6 : L = 6) (e1 : f 1 = x1) (e2 : f 2 = x2) (e3 : f 3 = x3) (e4 : f 4 = x4) (e5 : f 5 = x5) (hcs : cs ≤ xmc G) (hsl : sl ≤ xms G) (hFX : FX A) (hFM : FM B) (kE : ∀ M, AW G 4 (ad, shLaw) cs sl M 1093 [(0, .ref 1001), (1, .ref 0), (2, .ref 182), (3, .int 0)] []) : AW G 4 (ad, shLaw) cs sl (jn 182 A B) 837 [(0, .ref 1001), (1, .ref 0), (2, .ref 182), (3, .int 0)] [] := by
  refine aw_aload_n K dL_law_837 1 rfl rfl ?_
  refine aw_cX (As := []) (rest := []) K lnL_99 dL_law_838 (c_X11_deals  A hFX) rfl rfl rfl (Nat.le_of_ble_eq_true rfl) (by decide) (by decide) hcs hsl (fun r_1 N_2 h_3 => ?_)
  refine aw_aload_n K dL_law_841 2 rfl rfl ?_
  refine aw_cM (As := []) (rest := [.int r_1]) K lnL_102 dL_law_842 (c_X12_deals  B hFM) rfl rfl rfl (Nat.le_of_ble_eq_true rfl) (by decide) (by decide) hcs hsl (fun r_4 N_5 h_6 => ?_)
  refine aw_icmp_eq (tgt := 1093) K dL_law_845 (by decide) (fun _ => kE _) (fun c_7 => False.elim ?_)
  clear K hX hcs hsl hFX hFM kE G
  grind

set_option maxHeartbeats 400000 in
set_option maxRecDepth 100000 in
theorem law_case_20 {G : Cx} {L : Nat} {f : Nat → Int32} {cs sl : Nat} {ad : Nat → Nat} {A B : Mx} {x1 x2 x3 x4 x5 : Int32} (K : Ok G cL_law 4 RL ret 1312) (hX : Scr G L f) (h6 : L = 6) (e1 : f 1 = x1) (e2 : f 2 = x2) (e3 : f 3 = x3) (e4 : f 4 = x4) (e5 : f 5 = x5) (hcs : cs ≤ xmc G) (hsl : sl ≤ xms G) (hFX : FX A) (hFM : FM B) (kE : ∀ M, AW G 4 (ad, shLaw) cs sl M 1093 [(0, .ref 1001), (1, .ref 0), (2, .ref 182), (3, .int 0)] []) : AW G 4 (ad, shLaw) cs sl (jn 182 A B) 850 [(0, .ref 1001), (1, .ref 0), (2, .ref 182), (3, .int 0)] [] := by
  refine aw_aload_n K dL_law_850 1 rfl rfl ?_
  refine aw_aload_n K dL_law_851 0 rfl rfl ?_
  refine aw_iload_n K dL_law_852 3 rfl rfl ?_
  refine aw_iconst (v := 1) K dL_law_853 (by decide) ?_
  refine aw_iadd K dL_law_854 ?_
  refine aw_topr (y := 1) (by decide) ?_
  refine aw_sldk (j := 1) (x := x1) K hX h6 dL_law_855 (by decide) (by decide) e1 ?_
  refine aw_cX (As := [.int x1]) (rest := []) K lnL_103 dL_law_856 (c_X11_best x1 A hFX) rfl rfl rfl (Nat.le_of_ble_eq_true rfl) (by decide) (by decide) hcs hsl (fun r_1 N_2 h_3 => ?_)
  refine aw_aload_n K dL_law_859 2 rfl rfl ?_
  refine aw_aload_n K dL_law_860 0 rfl rfl ?_
  refine aw_iload_n K dL_law_861 3 rfl rfl ?_
  refine aw_iconst (v := 1) K dL_law_862 (by decide) ?_
  refine aw_iadd K dL_law_863 ?_
  refine aw_topr (y := 1) (by decide) ?_
  refine aw_sldk (j := 1) (x := x1) K hX h6 dL_law_864 (by decide) (by decide) e1 ?_
  refine aw_cM (As := [.int x1]) (rest := [.int r_1]) K lnL_106 dL_law_865 (c_X12_best x1 B hFM) rfl rfl rfl (Nat.le_of_ble_eq_true rfl) (by decide) (by decide) hcs hsl (fun r_4 N_5 h_6 => ?_)
  refine aw_icmp_eq (tgt := 1093) K dL_law_868 (by decide) (fun _ => kE _) (fun c_7 => False.elim ?_)
  clear K hX hcs hsl hFX hFM kE G
  grind

set_option maxHeartbeats 400000 in
set_option maxRecDepth 100000 in
theorem law_case_21 {G : Cx} {L : Nat} {f : Nat → Int32} {cs sl : Nat} {ad : Nat → Nat} {A B : Mx} {x1 x2 x3 x4 x5 : Int32} (K : Ok G cL_law 4 RL ret 1312) (hX : Scr G L f) (h6 : L = 6) (e1 : f 1 = x1) (e2 : f 2 = x2) (e3 : f 3 = x3) (e4 : f 4 = x4) (e5 : f 5 = x5) (hcs : cs ≤ xmc G) (hsl : sl ≤ xms G) (hFX : FX A) (hFM : FM B) (kE : ∀ M, AW G 4 (ad, shLaw) cs sl M 1093 [(0, .ref 1001), (1, .ref 0), (2, .ref 182), (3, .int 0)] []) : AW G 4 (ad, shLaw) cs sl (jn 182 A B) 873 [(0, .ref 1001), (1, .ref 0), (2, .ref 182), (3, .int 0)] [] := by
  refine aw_aload_n K dL_law_873 1 rfl rfl ?_
  refine aw_aload_n K dL_law_874 0 rfl rfl ?_
  refine aw_iload_n K dL_law_875 3 rfl rfl ?_
  refine aw_iconst (v := 1) K dL_law_876 (by decide) ?_
  refine aw_iadd K dL_law_877 ?_
  refine aw_topr (y := 1) (by decide) ?_
  refine aw_sldk (j := 1) (x := x1) K hX h6 dL_law_878 (by decide) (by decide) e1 ?_
  refine aw_cX (As := [.int x1]) (rest := []) K lnL_107 dL_law_879 (c_X11_peace x1 A hFX) rfl rfl rfl (Nat.le_of_ble_eq_true rfl) (by decide) (by decide) hcs hsl (fun r_1 N_2 h_3 => ?_)
  refine aw_aload_n K dL_law_882 2 rfl rfl ?_
  refine aw_aload_n K dL_law_883 0 rfl rfl ?_
  refine aw_iload_n K dL_law_884 3 rfl rfl ?_
  refine aw_iconst (v := 1) K dL_law_885 (by decide) ?_
  refine aw_iadd K dL_law_886 ?_
  refine aw_topr (y := 1) (by decide) ?_
  refine aw_sldk (j := 1) (x := x1) K hX h6 dL_law_887 (by decide) (by decide) e1 ?_
  refine aw_cM (As := [.int x1]) (rest := [.int r_1]) K lnL_110 dL_law_888 (c_X12_peace x1 B hFM) rfl rfl rfl (Nat.le_of_ble_eq_true rfl) (by decide) (by decide) hcs hsl (fun r_4 N_5 h_6 => ?_)
  refine aw_icmp_eq (tgt := 1093) K dL_law_891 (by decide) (fun _ => kE _) (fun c_7 => False.elim ?_)
  clear K hX hcs hsl hFX hFM kE G
  grind

set_option maxHeartbeats 400000 in
set_option maxRecDepth 100000 in
theorem law_case_22 {G : Cx} {L : Nat} {f : Nat → Int32} {cs sl : Nat} {ad : Nat → Nat} {A B : Mx} {x1 x2 x3 x4 x5 : Int32} (K : Ok G cL_law 4 RL ret 1312) (hX : Scr G L f) (h6 : L = 6) (e1 : f 1 = x1) (e2 : f 2 = x2) (e3 : f 3 = x3) (e4 : f 4 = x4) (e5 : f 5 = x5) (hcs : cs ≤ xmc G) (hsl : sl ≤ xms G) (hFX : FX A) (hFM : FM B) (kE : ∀ M, AW G 4 (ad, shLaw) cs sl M 1093 [(0, .ref 1001), (1, .ref 0), (2, .ref 182), (3, .int 0)] []) : AW G 4 (ad, shLaw) cs sl (jn 182 A B) 896 [(0, .ref 1001), (1, .ref 0), (2, .ref 182), (3, .int 0)] [] := by
  refine aw_aload_n K dL_law_896 1 rfl rfl ?_
  refine aw_aload_n K dL_law_897 0 rfl rfl ?_
  refine aw_iload_n K dL_law_898 3 rfl rfl ?_
  refine aw_iconst (v := 1) K dL_law_899 (by decide) ?_
  refine aw_iadd K dL_law_900 ?_
  refine aw_topr (y := 1) (by decide) ?_
  refine aw_sldk (j := 1) (x := x1) K hX h6 dL_law_901 (by decide) (by decide) e1 ?_
  refine aw_aload_n K dL_law_902 0 rfl rfl ?_
  refine aw_iload_n K dL_law_903 3 rfl rfl ?_
  refine aw_iconst (v := 2) K dL_law_904 (by decide) ?_
  refine aw_iadd K dL_law_905 ?_
  refine aw_topr (y := 2) (by decide) ?_
  refine aw_sldk (j := 2) (x := x2) K hX h6 dL_law_906 (by decide) (by decide) e2 ?_
  refine aw_cX (As := [.int x1, .int x2]) (rest := []) K lnL_111 dL_law_907 (c_X11_log x1 x2 A hFX) rfl rfl rfl (Nat.le_of_ble_eq_true rfl) (by decide) (by decide) hcs hsl (fun r_1 N_2 h_3 => ?_)
  refine aw_aload_n K dL_law_910 2 rfl rfl ?_
  refine aw_aload_n K dL_law_911 0 rfl rfl ?_
  refine aw_iload_n K dL_law_912 3 rfl rfl ?_
  refine aw_iconst (v := 1) K dL_law_913 (by decide) ?_
  refine aw_iadd K dL_law_914 ?_
  refine aw_topr (y := 1) (by decide) ?_
  refine aw_sldk (j := 1) (x := x1) K hX h6 dL_law_915 (by decide) (by decide) e1 ?_
  refine aw_aload_n K dL_law_916 0 rfl rfl ?_
  refine aw_iload_n K dL_law_917 3 rfl rfl ?_
  refine aw_iconst (v := 2) K dL_law_918 (by decide) ?_
  refine aw_iadd K dL_law_919 ?_
  refine aw_topr (y := 2) (by decide) ?_
  refine aw_sldk (j := 2) (x := x2) K hX h6 dL_law_920 (by decide) (by decide) e2 ?_
  refine aw_cM (As := [.int x1, .int x2]) (rest := [.int r_1]) K lnL_114 dL_law_921 (c_X12_log x1 x2 B hFM) rfl rfl rfl (Nat.le_of_ble_eq_true rfl) (by decide) (by decide) hcs hsl (fun r_4 N_5 h_6 => ?_)
  refine aw_icmp_eq (tgt := 1093) K dL_law_924 (by decide) (fun _ => kE _) (fun c_7 => False.elim ?_)
  clear K hX hcs hsl hFX hFM kE G
  grind

set_option maxHeartbeats 400000 in
set_option maxRecDepth 100000 in
theorem law_case_23 {G : Cx} {L : Nat} {f : Nat → Int32} {cs sl : Nat} {ad : Nat → Nat} {A B : Mx} {x1 x2 x3 x4 x5 : Int32} (K : Ok G cL_law 4 RL ret 1312) (hX : Scr G L f) (h6 : L = 6) (e1 : f 1 = x1) (e2 : f 2 = x2) (e3 : f 3 = x3) (e4 : f 4 = x4) (e5 : f 5 = x5) (hcs : cs ≤ xmc G) (hsl : sl ≤ xms G) (hFX : FX A) (hFM : FM B) (kE : ∀ M, AW G 4 (ad, shLaw) cs sl M 1093 [(0, .ref 1001), (1, .ref 0), (2, .ref 182), (3, .int 0)] []) : AW G 4 (ad, shLaw) cs sl (jn 182 A B) 929 [(0, .ref 1001), (1, .ref 0), (2, .ref 182), (3, .int 0)] [] := by
  refine aw_aload_n K dL_law_929 1 rfl rfl ?_
  refine aw_aload_n K dL_law_930 0 rfl rfl ?_
  refine aw_iload_n K dL_law_931 3 rfl rfl ?_
  refine aw_iconst (v := 1) K dL_law_932 (by decide) ?_
  refine aw_iadd K dL_law_933 ?_
  refine aw_topr (y := 1) (by decide) ?_
  refine aw_sldk (j := 1) (x := x1) K hX h6 dL_law_934 (by decide) (by decide) e1 ?_
  refine aw_aload_n K dL_law_935 0 rfl rfl ?_
  refine aw_iload_n K dL_law_936 3 rfl rfl ?_
  refine aw_iconst (v := 2) K dL_law_937 (by decide) ?_
  refine aw_iadd K dL_law_938 ?_
  refine aw_topr (y := 2) (by decide) ?_
  refine aw_sldk (j := 2) (x := x2) K hX h6 dL_law_939 (by decide) (by decide) e2 ?_
  refine aw_cX (As := [.int x1, .int x2]) (rest := []) K lnL_115 dL_law_940 (c_X11_slow x1 x2 A hFX) rfl rfl rfl (Nat.le_of_ble_eq_true rfl) (by decide) (by decide) hcs hsl (fun r_1 N_2 h_3 => ?_)
  refine aw_aload_n K dL_law_943 2 rfl rfl ?_
  refine aw_aload_n K dL_law_944 0 rfl rfl ?_
  refine aw_iload_n K dL_law_945 3 rfl rfl ?_
  refine aw_iconst (v := 1) K dL_law_946 (by decide) ?_
  refine aw_iadd K dL_law_947 ?_
  refine aw_topr (y := 1) (by decide) ?_
  refine aw_sldk (j := 1) (x := x1) K hX h6 dL_law_948 (by decide) (by decide) e1 ?_
  refine aw_aload_n K dL_law_949 0 rfl rfl ?_
  refine aw_iload_n K dL_law_950 3 rfl rfl ?_
  refine aw_iconst (v := 2) K dL_law_951 (by decide) ?_
  refine aw_iadd K dL_law_952 ?_
  refine aw_topr (y := 2) (by decide) ?_
  refine aw_sldk (j := 2) (x := x2) K hX h6 dL_law_953 (by decide) (by decide) e2 ?_
  refine aw_cM (As := [.int x1, .int x2]) (rest := [.int r_1]) K lnL_118 dL_law_954 (c_X12_slow x1 x2 B hFM) rfl rfl rfl (Nat.le_of_ble_eq_true rfl) (by decide) (by decide) hcs hsl (fun r_4 N_5 h_6 => ?_)
  refine aw_icmp_eq (tgt := 1093) K dL_law_957 (by decide) (fun _ => kE _) (fun c_7 => False.elim ?_)
  clear K hX hcs hsl hFX hFM kE G
  grind

set_option maxHeartbeats 400000 in
set_option maxRecDepth 100000 in
theorem law_case_24 {G : Cx} {L : Nat} {f : Nat → Int32} {cs sl : Nat} {ad : Nat → Nat} {A B : Mx} {x1 x2 x3 x4 x5 : Int32} (K : Ok G cL_law 4 RL ret 1312) (hX : Scr G L f) (h6 : L = 6) (e1 : f 1 = x1) (e2 : f 2 = x2) (e3 : f 3 = x3) (e4 : f 4 = x4) (e5 : f 5 = x5) (hcs : cs ≤ xmc G) (hsl : sl ≤ xms G) (hFX : FX A) (hFM : FM B) (kE : ∀ M, AW G 4 (ad, shLaw) cs sl M 1093 [(0, .ref 1001), (1, .ref 0), (2, .ref 182), (3, .int 0)] []) : AW G 4 (ad, shLaw) cs sl (jn 182 A B) 962 [(0, .ref 1001), (1, .ref 0), (2, .ref 182), (3, .int 0)] [] := by
  refine aw_aload_n K dL_law_962 1 rfl rfl ?_
  refine aw_aload_n K dL_law_963 0 rfl rfl ?_
  refine aw_iload_n K dL_law_964 3 rfl rfl ?_
  refine aw_iconst (v := 1) K dL_law_965 (by decide) ?_
  refine aw_iadd K dL_law_966 ?_
  refine aw_topr (y := 1) (by decide) ?_
  refine aw_sldk (j := 1) (x := x1) K hX h6 dL_law_967 (by decide) (by decide) e1 ?_
  refine aw_cX (As := [.int x1]) (rest := []) K lnL_119 dL_law_968 (c_X11_breaks x1 A hFX) rfl rfl rfl (Nat.le_of_ble_eq_true rfl) (by decide) (by decide) hcs hsl (fun r_1 N_2 h_3 => ?_)
  refine aw_aload_n K dL_law_971 2 rfl rfl ?_
  refine aw_aload_n K dL_law_972 0 rfl rfl ?_
  refine aw_iload_n K dL_law_973 3 rfl rfl ?_
  refine aw_iconst (v := 1) K dL_law_974 (by decide) ?_
  refine aw_iadd K dL_law_975 ?_
  refine aw_topr (y := 1) (by decide) ?_
  refine aw_sldk (j := 1) (x := x1) K hX h6 dL_law_976 (by decide) (by decide) e1 ?_
  refine aw_cM (As := [.int x1]) (rest := [.int r_1]) K lnL_122 dL_law_977 (c_X12_breaks x1 B hFM) rfl rfl rfl (Nat.le_of_ble_eq_true rfl) (by decide) (by decide) hcs hsl (fun r_4 N_5 h_6 => ?_)
  refine aw_icmp_eq (tgt := 1093) K dL_law_980 (by decide) (fun _ => kE _) (fun c_7 => False.elim ?_)
  clear K hX hcs hsl hFX hFM kE G
  grind

set_option maxHeartbeats 400000 in
set_option maxRecDepth 100000 in
theorem law_case_25 {G : Cx} {L : Nat} {f : Nat → Int32} {cs sl : Nat} {ad : Nat → Nat} {A B : Mx} {x1 x2 x3 x4 x5 : Int32} (K : Ok G cL_law 4 RL ret 1312) (hX : Scr G L f) (h6 : L = 6) (e1 : f 1 = x1) (e2 : f 2 = x2) (e3 : f 3 = x3) (e4 : f 4 = x4) (e5 : f 5 = x5) (hcs : cs ≤ xmc G) (hsl : sl ≤ xms G) (hFX : FX A) (hFM : FM B) (kE : ∀ M, AW G 4 (ad, shLaw) cs sl M 1093 [(0, .ref 1001), (1, .ref 0), (2, .ref 182), (3, .int 0)] []) : AW G 4 (ad, shLaw) cs sl (jn 182 A B) 985 [(0, .ref 1001), (1, .ref 0), (2, .ref 182), (3, .int 0)] [] := by
  refine aw_aload_n K dL_law_985 1 rfl rfl ?_
  refine aw_aload_n K dL_law_986 0 rfl rfl ?_
  refine aw_iload_n K dL_law_987 3 rfl rfl ?_
  refine aw_iconst (v := 1) K dL_law_988 (by decide) ?_
  refine aw_iadd K dL_law_989 ?_
  refine aw_topr (y := 1) (by decide) ?_
  refine aw_sldk (j := 1) (x := x1) K hX h6 dL_law_990 (by decide) (by decide) e1 ?_
  refine aw_aload_n K dL_law_991 0 rfl rfl ?_
  refine aw_iload_n K dL_law_992 3 rfl rfl ?_
  refine aw_iconst (v := 2) K dL_law_993 (by decide) ?_
  refine aw_iadd K dL_law_994 ?_
  refine aw_topr (y := 2) (by decide) ?_
  refine aw_sldk (j := 2) (x := x2) K hX h6 dL_law_995 (by decide) (by decide) e2 ?_
  refine aw_cX (As := [.int x1, .int x2]) (rest := []) K lnL_123 dL_law_996 (c_X11_lasting x1 x2 A hFX) rfl rfl rfl (Nat.le_of_ble_eq_true rfl) (by decide) (by decide) hcs hsl (fun r_1 N_2 h_3 => ?_)
  refine aw_aload_n K dL_law_999 2 rfl rfl ?_
  refine aw_aload_n K dL_law_1000 0 rfl rfl ?_
  refine aw_iload_n K dL_law_1001 3 rfl rfl ?_
  refine aw_iconst (v := 1) K dL_law_1002 (by decide) ?_
  refine aw_iadd K dL_law_1003 ?_
  refine aw_topr (y := 1) (by decide) ?_
  refine aw_sldk (j := 1) (x := x1) K hX h6 dL_law_1004 (by decide) (by decide) e1 ?_
  refine aw_aload_n K dL_law_1005 0 rfl rfl ?_
  refine aw_iload_n K dL_law_1006 3 rfl rfl ?_
  refine aw_iconst (v := 2) K dL_law_1007 (by decide) ?_
  refine aw_iadd K dL_law_1008 ?_
  refine aw_topr (y := 2) (by decide) ?_
  refine aw_sldk (j := 2) (x := x2) K hX h6 dL_law_1009 (by decide) (by decide) e2 ?_
  refine aw_cM (As := [.int x1, .int x2]) (rest := [.int r_1]) K lnL_126 dL_law_1010 (c_X12_lasting x1 x2 B hFM) rfl rfl rfl (Nat.le_of_ble_eq_true rfl) (by decide) (by decide) hcs hsl (fun r_4 N_5 h_6 => ?_)
  refine aw_icmp_eq (tgt := 1093) K dL_law_1013 (by decide) (fun _ => kE _) (fun c_7 => False.elim ?_)
  clear K hX hcs hsl hFX hFM kE G
  grind

set_option maxHeartbeats 400000 in
set_option maxRecDepth 100000 in
theorem law_case_26 {G : Cx} {L : Nat} {f : Nat → Int32} {cs sl : Nat} {ad : Nat → Nat} {A B : Mx} {x1 x2 x3 x4 x5 : Int32} (K : Ok G cL_law 4 RL ret 1312) (hX : Scr G L f) (h6 : L = 6) (e1 : f 1 = x1) (e2 : f 2 = x2) (e3 : f 3 = x3) (e4 : f 4 = x4) (e5 : f 5 = x5) (hcs : cs ≤ xmc G) (hsl : sl ≤ xms G) (hFX : FX A) (hFM : FM B) (kE : ∀ M, AW G 4 (ad, shLaw) cs sl M 1093 [(0, .ref 1001), (1, .ref 0), (2, .ref 182), (3, .int 0)] []) : AW G 4 (ad, shLaw) cs sl (jn 182 A B) 1018 [(0, .ref 1001), (1, .ref 0), (2, .ref 182), (3, .int 0)] [] := by
  refine aw_aload_n K dL_law_1018 1 rfl rfl ?_
  refine aw_cX (As := []) (rest := []) K lnL_127 dL_law_1019 (c_X11_undo  A hFX) rfl rfl rfl (Nat.le_of_ble_eq_true rfl) (by decide) (by decide) hcs hsl (fun r_1 N_2 h_3 => ?_)
  refine aw_aload_n K dL_law_1022 2 rfl rfl ?_
  refine aw_cM (As := []) (rest := [.int r_1]) K lnL_131 dL_law_1023 (c_X12_undo  B hFM) rfl rfl rfl (Nat.le_of_ble_eq_true rfl) (by decide) (by decide) hcs hsl (fun r_4 N_5 h_6 => ?_)
  refine aw_icmp_eq (tgt := 1093) K dL_law_1026 (by decide) (fun _ => kE _) (fun c_7 => False.elim ?_)
  clear K hX hcs hsl hFX hFM kE G
  grind

set_option maxHeartbeats 400000 in
set_option maxRecDepth 100000 in
theorem law_case_27 {G : Cx} {L : Nat} {f : Nat → Int32} {cs sl : Nat} {ad : Nat → Nat} {A B : Mx} {x1 x2 x3 x4 x5 : Int32} (K : Ok G cL_law 4 RL ret 1312) (hX : Scr G L f) (h6 : L = 6) (e1 : f 1 = x1) (e2 : f 2 = x2) (e3 : f 3 = x3) (e4 : f 4 = x4) (e5 : f 5 = x5) (hcs : cs ≤ xmc G) (hsl : sl ≤ xms G) (hFX : FX A) (hFM : FM B) (kE : ∀ M, AW G 4 (ad, shLaw) cs sl M 1093 [(0, .ref 1001), (1, .ref 0), (2, .ref 182), (3, .int 0)] []) : AW G 4 (ad, shLaw) cs sl (jn 182 A B) 1031 [(0, .ref 1001), (1, .ref 0), (2, .ref 182), (3, .int 0)] [] := by
  refine aw_aload_n K dL_law_1031 1 rfl rfl ?_
  refine aw_aload_n K dL_law_1032 0 rfl rfl ?_
  refine aw_iload_n K dL_law_1033 3 rfl rfl ?_
  refine aw_iconst (v := 1) K dL_law_1034 (by decide) ?_
  refine aw_iadd K dL_law_1035 ?_
  refine aw_topr (y := 1) (by decide) ?_
  refine aw_sldk (j := 1) (x := x1) K hX h6 dL_law_1036 (by decide) (by decide) e1 ?_
  refine aw_if_eq (tgt := 1044) K dL_law_1037 (by decide) (fun c_1 => ?_) (fun c_1 => ?_)
  · refine aw_iconst (v := 0) K dL_law_1044 (by decide) ?_
    refine aw_cX (As := [.int 0]) (rest := []) K lnL_132 dL_law_1045 (c_X11_image 0 A hFX) rfl rfl rfl (Nat.le_of_ble_eq_true rfl) (by decide) (by decide) hcs hsl (fun r_2 N_3 h_4 => ?_)
    refine aw_aload_n K dL_law_1048 2 rfl rfl ?_
    refine aw_aload_n K dL_law_1049 0 rfl rfl ?_
    refine aw_iload_n K dL_law_1050 3 rfl rfl ?_
    refine aw_iconst (v := 1) K dL_law_1051 (by decide) ?_
    refine aw_iadd K dL_law_1052 ?_
    refine aw_topr (y := 1) (by decide) ?_
    refine aw_sldk (j := 1) (x := x1) K hX h6 dL_law_1053 (by decide) (by decide) e1 ?_
    refine aw_if_eq (tgt := 1061) K dL_law_1054 (by decide) (fun c_5 => ?_) (fun c_5 => ?_)
    · refine aw_iconst (v := 0) K dL_law_1061 (by decide) ?_
      refine aw_cM (As := [.int 0]) (rest := [.int r_2]) K lnL_136 dL_law_1062 (c_X12_image 0 B (by decide) hFM) rfl rfl rfl (Nat.le_of_ble_eq_true rfl) (by decide) (by decide) hcs hsl (fun r_6 N_7 h_8 => ?_)
      refine aw_icmp_eq (tgt := 1093) K dL_law_1065 (by decide) (fun _ => kE _) (fun c_9 => False.elim ?_)
      clear K hX hcs hsl hFX hFM kE G
      grind
    · refine aw_iconst (v := 1) K dL_law_1057 (by decide) ?_
      refine aw_goto (tgt := 1062) K dL_law_1058 (by decide) ?_
      refine aw_cM (As := [.int 1]) (rest := [.int r_2]) K lnL_136 dL_law_1062 (c_X12_image 1 B (by decide) hFM) rfl rfl rfl (Nat.le_of_ble_eq_true rfl) (by decide) (by decide) hcs hsl (fun r_10 N_11 h_12 => ?_)
      refine aw_icmp_eq (tgt := 1093) K dL_law_1065 (by decide) (fun _ => kE _) (fun c_13 => False.elim ?_)
      clear K hX hcs hsl hFX hFM kE G
      grind
  · refine aw_iconst (v := 1) K dL_law_1040 (by decide) ?_
    refine aw_goto (tgt := 1045) K dL_law_1041 (by decide) ?_
    refine aw_cX (As := [.int 1]) (rest := []) K lnL_132 dL_law_1045 (c_X11_image 1 A hFX) rfl rfl rfl (Nat.le_of_ble_eq_true rfl) (by decide) (by decide) hcs hsl (fun r_14 N_15 h_16 => ?_)
    refine aw_aload_n K dL_law_1048 2 rfl rfl ?_
    refine aw_aload_n K dL_law_1049 0 rfl rfl ?_
    refine aw_iload_n K dL_law_1050 3 rfl rfl ?_
    refine aw_iconst (v := 1) K dL_law_1051 (by decide) ?_
    refine aw_iadd K dL_law_1052 ?_
    refine aw_topr (y := 1) (by decide) ?_
    refine aw_sldk (j := 1) (x := x1) K hX h6 dL_law_1053 (by decide) (by decide) e1 ?_
    refine aw_if_eq (tgt := 1061) K dL_law_1054 (by decide) (fun c_17 => ?_) (fun c_17 => ?_)
    · refine aw_iconst (v := 0) K dL_law_1061 (by decide) ?_
      refine aw_cM (As := [.int 0]) (rest := [.int r_14]) K lnL_136 dL_law_1062 (c_X12_image 0 B (by decide) hFM) rfl rfl rfl (Nat.le_of_ble_eq_true rfl) (by decide) (by decide) hcs hsl (fun r_18 N_19 h_20 => ?_)
      refine aw_icmp_eq (tgt := 1093) K dL_law_1065 (by decide) (fun _ => kE _) (fun c_21 => False.elim ?_)
      clear K hX hcs hsl hFX hFM kE G
      grind
    · refine aw_iconst (v := 1) K dL_law_1057 (by decide) ?_
      refine aw_goto (tgt := 1062) K dL_law_1058 (by decide) ?_
      refine aw_cM (As := [.int 1]) (rest := [.int r_14]) K lnL_136 dL_law_1062 (c_X12_image 1 B (by decide) hFM) rfl rfl rfl (Nat.le_of_ble_eq_true rfl) (by decide) (by decide) hcs hsl (fun r_22 N_23 h_24 => ?_)
      refine aw_icmp_eq (tgt := 1093) K dL_law_1065 (by decide) (fun _ => kE _) (fun c_25 => False.elim ?_)
      clear K hX hcs hsl hFX hFM kE G
      grind

set_option maxHeartbeats 400000 in
set_option maxRecDepth 100000 in
theorem law_case_28 {G : Cx} {L : Nat} {f : Nat → Int32} {cs sl : Nat} {ad : Nat → Nat} {A B : Mx} {x1 x2 x3 x4 x5 : Int32} (K : Ok G cL_law 4 RL ret 1312) (hX : Scr G L f) (h6 : L = 6) (e1 : f 1 = x1) (e2 : f 2 = x2) (e3 : f 3 = x3) (e4 : f 4 = x4) (e5 : f 5 = x5) (hcs : cs ≤ xmc G) (hsl : sl ≤ xms G) (hFX : FX A) (hFM : FM B) (kE : ∀ M, AW G 4 (ad, shLaw) cs sl M 1093 [(0, .ref 1001), (1, .ref 0), (2, .ref 182), (3, .int 0)] []) : AW G 4 (ad, shLaw) cs sl (jn 182 A B) 1070 [(0, .ref 1001), (1, .ref 0), (2, .ref 182), (3, .int 0)] [] := by
  refine aw_aload_n K dL_law_1070 1 rfl rfl ?_
  refine aw_aload_n K dL_law_1071 0 rfl rfl ?_
  refine aw_iload_n K dL_law_1072 3 rfl rfl ?_
  refine aw_iconst (v := 1) K dL_law_1073 (by decide) ?_
  refine aw_iadd K dL_law_1074 ?_
  refine aw_topr (y := 1) (by decide) ?_
  refine aw_sldk (j := 1) (x := x1) K hX h6 dL_law_1075 (by decide) (by decide) e1 ?_
  refine aw_cX (As := [.int x1]) (rest := []) K lnL_137 dL_law_1076 (c_X11_look x1 A hFX) rfl rfl rfl (Nat.le_of_ble_eq_true rfl) (by decide) (by decide) hcs hsl (fun r_1 N_2 h_3 => ?_)
  refine aw_aload_n K dL_law_1079 2 rfl rfl ?_
  refine aw_aload_n K dL_law_1080 0 rfl rfl ?_
  refine aw_iload_n K dL_law_1081 3 rfl rfl ?_
  refine aw_iconst (v := 1) K dL_law_1082 (by decide) ?_
  refine aw_iadd K dL_law_1083 ?_
  refine aw_topr (y := 1) (by decide) ?_
  refine aw_sldk (j := 1) (x := x1) K hX h6 dL_law_1084 (by decide) (by decide) e1 ?_
  refine aw_cM (As := [.int x1]) (rest := [.int r_1]) K lnL_140 dL_law_1085 (c_X12_look x1 B hFM) rfl rfl rfl (Nat.le_of_ble_eq_true rfl) (by decide) (by decide) hcs hsl (fun r_4 N_5 h_6 => ?_)
  refine aw_icmp_eq (tgt := 1093) K dL_law_1088 (by decide) (fun _ => kE _) (fun c_7 => False.elim ?_)
  clear K hX hcs hsl hFX hFM kE G
  grind
