theorem dX12_init_0 : decode cX12_init 0 = .ok (.aload_n 0, 1) := by decide +kernel
theorem dX12_init_1 : decode cX12_init 1 = .ok (.invokespecial 1, 3) := by decide +kernel
theorem dX12_init_4 : decode cX12_init 4 = .ok (.aload_n 0, 1) := by decide +kernel
theorem dX12_init_5 : decode cX12_init 5 = .ok (.sipush 160, 3) := by decide +kernel
theorem dX12_init_8 : decode cX12_init 8 = .ok (.newarray .int, 2) := by decide +kernel
theorem dX12_init_10 : decode cX12_init 10 = .ok (.putfield 7, 3) := by decide +kernel
theorem dX12_init_13 : decode cX12_init 13 = .ok (.aload_n 0, 1) := by decide +kernel
theorem dX12_init_14 : decode cX12_init 14 = .ok (.sipush 1440, 3) := by decide +kernel
theorem dX12_init_17 : decode cX12_init 17 = .ok (.newarray .int, 2) := by decide +kernel
theorem dX12_init_19 : decode cX12_init 19 = .ok (.putfield 13, 3) := by decide +kernel
theorem dX12_init_22 : decode cX12_init 22 = .ok (.aload_n 0, 1) := by decide +kernel
theorem dX12_init_23 : decode cX12_init 23 = .ok (.bipush 12, 2) := by decide +kernel
theorem dX12_init_25 : decode cX12_init 25 = .ok (.putfield 16, 3) := by decide +kernel
theorem dX12_init_28 : decode cX12_init 28 = .ok (.aload_n 0, 1) := by decide +kernel
theorem dX12_init_29 : decode cX12_init 29 = .ok (.bipush 10, 2) := by decide +kernel
theorem dX12_init_31 : decode cX12_init 31 = .ok (.newarray .int, 2) := by decide +kernel
theorem dX12_init_33 : decode cX12_init 33 = .ok (.putfield 20, 3) := by decide +kernel
theorem dX12_init_36 : decode cX12_init 36 = .ok (.aload_n 0, 1) := by decide +kernel
theorem dX12_init_37 : decode cX12_init 37 = .ok (.bipush 10, 2) := by decide +kernel
theorem dX12_init_39 : decode cX12_init 39 = .ok (.newarray .int, 2) := by decide +kernel
theorem dX12_init_41 : decode cX12_init 41 = .ok (.putfield 23, 3) := by decide +kernel
theorem dX12_init_44 : decode cX12_init 44 = .ok (.aload_n 0, 1) := by decide +kernel
theorem dX12_init_45 : decode cX12_init 45 = .ok (.bipush 10, 2) := by decide +kernel
theorem dX12_init_47 : decode cX12_init 47 = .ok (.newarray .int, 2) := by decide +kernel
theorem dX12_init_49 : decode cX12_init 49 = .ok (.putfield 26, 3) := by decide +kernel
theorem dX12_init_52 : decode cX12_init 52 = .ok (.aload_n 0, 1) := by decide +kernel
theorem dX12_init_53 : decode cX12_init 53 = .ok (.bipush 9, 2) := by decide +kernel
theorem dX12_init_55 : decode cX12_init 55 = .ok (.newarray .int, 2) := by decide +kernel
theorem dX12_init_57 : decode cX12_init 57 = .ok (.putfield 29, 3) := by decide +kernel
theorem dX12_init_60 : decode cX12_init 60 = .ok (.aload_n 0, 1) := by decide +kernel
theorem dX12_init_61 : decode cX12_init 61 = .ok (.bipush 9, 2) := by decide +kernel
theorem dX12_init_63 : decode cX12_init 63 = .ok (.newarray .int, 2) := by decide +kernel
theorem dX12_init_65 : decode cX12_init 65 = .ok (.putfield 32, 3) := by decide +kernel
theorem dX12_init_68 : decode cX12_init 68 = .ok (.aload_n 0, 1) := by decide +kernel
theorem dX12_init_69 : decode cX12_init 69 = .ok (.bipush 9, 2) := by decide +kernel
theorem dX12_init_71 : decode cX12_init 71 = .ok (.newarray .int, 2) := by decide +kernel
theorem dX12_init_73 : decode cX12_init 73 = .ok (.putfield 35, 3) := by decide +kernel
theorem dX12_init_76 : decode cX12_init 76 = .ok (.aload_n 0, 1) := by decide +kernel
theorem dX12_init_77 : decode cX12_init 77 = .ok (.bipush 9, 2) := by decide +kernel
theorem dX12_init_79 : decode cX12_init 79 = .ok (.newarray .int, 2) := by decide +kernel
theorem dX12_init_81 : decode cX12_init 81 = .ok (.putfield 38, 3) := by decide +kernel
theorem dX12_init_84 : decode cX12_init 84 = .ok (.aload_n 0, 1) := by decide +kernel
theorem dX12_init_85 : decode cX12_init 85 = .ok (.bipush 40, 2) := by decide +kernel
theorem dX12_init_87 : decode cX12_init 87 = .ok (.newarray .int, 2) := by decide +kernel
theorem dX12_init_89 : decode cX12_init 89 = .ok (.putfield 41, 3) := by decide +kernel
theorem dX12_init_92 : decode cX12_init 92 = .ok (.aload_n 0, 1) := by decide +kernel
theorem dX12_init_93 : decode cX12_init 93 = .ok (.bipush 24, 2) := by decide +kernel
theorem dX12_init_95 : decode cX12_init 95 = .ok (.newarray .int, 2) := by decide +kernel
theorem dX12_init_97 : decode cX12_init 97 = .ok (.putfield 44, 3) := by decide +kernel
theorem dX12_init_100 : decode cX12_init 100 = .ok (.aload_n 0, 1) := by decide +kernel
theorem dX12_init_101 : decode cX12_init 101 = .ok (.bipush 8, 2) := by decide +kernel
theorem dX12_init_103 : decode cX12_init 103 = .ok (.newarray .int, 2) := by decide +kernel
theorem dX12_init_105 : decode cX12_init 105 = .ok (.putfield 47, 3) := by decide +kernel
theorem dX12_init_108 : decode cX12_init 108 = .ok (.aload_n 0, 1) := by decide +kernel
theorem dX12_init_109 : decode cX12_init 109 = .ok (.bipush 8, 2) := by decide +kernel
theorem dX12_init_111 : decode cX12_init 111 = .ok (.newarray .int, 2) := by decide +kernel
theorem dX12_init_113 : decode cX12_init 113 = .ok (.putfield 50, 3) := by decide +kernel
theorem dX12_init_116 : decode cX12_init 116 = .ok (.aload_n 0, 1) := by decide +kernel
theorem dX12_init_117 : decode cX12_init 117 = .ok (.bipush 30, 2) := by decide +kernel
theorem dX12_init_119 : decode cX12_init 119 = .ok (.newarray .int, 2) := by decide +kernel
theorem dX12_init_121 : decode cX12_init 121 = .ok (.putfield 53, 3) := by decide +kernel
theorem dX12_init_124 : decode cX12_init 124 = .ok (.aload_n 0, 1) := by decide +kernel
theorem dX12_init_125 : decode cX12_init 125 = .ok (.bipush 30, 2) := by decide +kernel
theorem dX12_init_127 : decode cX12_init 127 = .ok (.newarray .int, 2) := by decide +kernel
theorem dX12_init_129 : decode cX12_init 129 = .ok (.putfield 56, 3) := by decide +kernel
theorem dX12_init_132 : decode cX12_init 132 = .ok (.aload_n 0, 1) := by decide +kernel
theorem dX12_init_133 : decode cX12_init 133 = .ok (.bipush 30, 2) := by decide +kernel
theorem dX12_init_135 : decode cX12_init 135 = .ok (.newarray .int, 2) := by decide +kernel
theorem dX12_init_137 : decode cX12_init 137 = .ok (.putfield 59, 3) := by decide +kernel
theorem dX12_init_140 : decode cX12_init 140 = .ok (.aload_n 0, 1) := by decide +kernel
theorem dX12_init_141 : decode cX12_init 141 = .ok (.bipush 9, 2) := by decide +kernel
theorem dX12_init_143 : decode cX12_init 143 = .ok (.newarray .int, 2) := by decide +kernel
theorem dX12_init_145 : decode cX12_init 145 = .ok (.putfield 62, 3) := by decide +kernel
theorem dX12_init_148 : decode cX12_init 148 = .ok (.aload_n 0, 1) := by decide +kernel
theorem dX12_init_149 : decode cX12_init 149 = .ok (.bipush 40, 2) := by decide +kernel
theorem dX12_init_151 : decode cX12_init 151 = .ok (.newarray .int, 2) := by decide +kernel
theorem dX12_init_153 : decode cX12_init 153 = .ok (.putfield 65, 3) := by decide +kernel
theorem dX12_init_156 : decode cX12_init 156 = .ok (.aload_n 0, 1) := by decide +kernel
theorem dX12_init_157 : decode cX12_init 157 = .ok (.bipush 40, 2) := by decide +kernel
theorem dX12_init_159 : decode cX12_init 159 = .ok (.newarray .int, 2) := by decide +kernel
theorem dX12_init_161 : decode cX12_init 161 = .ok (.putfield 68, 3) := by decide +kernel
theorem dX12_init_164 : decode cX12_init 164 = .ok (.aload_n 0, 1) := by decide +kernel
theorem dX12_init_165 : decode cX12_init 165 = .ok (.sipush 400, 3) := by decide +kernel
theorem dX12_init_168 : decode cX12_init 168 = .ok (.newarray .int, 2) := by decide +kernel
theorem dX12_init_170 : decode cX12_init 170 = .ok (.putfield 71, 3) := by decide +kernel
theorem dX12_init_173 : decode cX12_init 173 = .ok (.aload_n 0, 1) := by decide +kernel
theorem dX12_init_174 : decode cX12_init 174 = .ok (.bipush 74, 2) := by decide +kernel
theorem dX12_init_176 : decode cX12_init 176 = .ok (.newarray .int, 2) := by decide +kernel
theorem dX12_init_178 : decode cX12_init 178 = .ok (.dup, 1) := by decide +kernel
theorem dX12_init_179 : decode cX12_init 179 = .ok (.iconst 0, 1) := by decide +kernel
theorem dX12_init_180 : decode cX12_init 180 = .ok (.bipush 32, 2) := by decide +kernel
theorem dX12_init_182 : decode cX12_init 182 = .ok (.iastore, 1) := by decide +kernel
theorem dX12_init_183 : decode cX12_init 183 = .ok (.dup, 1) := by decide +kernel
theorem dX12_init_184 : decode cX12_init 184 = .ok (.iconst 1, 1) := by decide +kernel
theorem dX12_init_185 : decode cX12_init 185 = .ok (.bipush 115, 2) := by decide +kernel
theorem dX12_init_187 : decode cX12_init 187 = .ok (.iastore, 1) := by decide +kernel
theorem dX12_init_188 : decode cX12_init 188 = .ok (.dup, 1) := by decide +kernel
theorem dX12_init_189 : decode cX12_init 189 = .ok (.iconst 2, 1) := by decide +kernel
theorem dX12_init_190 : decode cX12_init 190 = .ok (.bipush 104, 2) := by decide +kernel
theorem dX12_init_192 : decode cX12_init 192 = .ok (.iastore, 1) := by decide +kernel
theorem dX12_init_193 : decode cX12_init 193 = .ok (.dup, 1) := by decide +kernel
theorem dX12_init_194 : decode cX12_init 194 = .ok (.iconst 3, 1) := by decide +kernel
theorem dX12_init_195 : decode cX12_init 195 = .ok (.bipush 97, 2) := by decide +kernel
theorem dX12_init_197 : decode cX12_init 197 = .ok (.iastore, 1) := by decide +kernel
theorem dX12_init_198 : decode cX12_init 198 = .ok (.dup, 1) := by decide +kernel
theorem dX12_init_199 : decode cX12_init 199 = .ok (.iconst 4, 1) := by decide +kernel
theorem dX12_init_200 : decode cX12_init 200 = .ok (.bipush 114, 2) := by decide +kernel
theorem dX12_init_202 : decode cX12_init 202 = .ok (.iastore, 1) := by decide +kernel
theorem dX12_init_203 : decode cX12_init 203 = .ok (.dup, 1) := by decide +kernel
theorem dX12_init_204 : decode cX12_init 204 = .ok (.iconst 5, 1) := by decide +kernel
theorem dX12_init_205 : decode cX12_init 205 = .ok (.bipush 101, 2) := by decide +kernel
theorem dX12_init_207 : decode cX12_init 207 = .ok (.iastore, 1) := by decide +kernel
theorem dX12_init_208 : decode cX12_init 208 = .ok (.dup, 1) := by decide +kernel
theorem dX12_init_209 : decode cX12_init 209 = .ok (.bipush 6, 2) := by decide +kernel
theorem dX12_init_211 : decode cX12_init 211 = .ok (.bipush 32, 2) := by decide +kernel
theorem dX12_init_213 : decode cX12_init 213 = .ok (.iastore, 1) := by decide +kernel
theorem dX12_init_214 : decode cX12_init 214 = .ok (.dup, 1) := by decide +kernel
theorem dX12_init_215 : decode cX12_init 215 = .ok (.bipush 7, 2) := by decide +kernel
theorem dX12_init_217 : decode cX12_init 217 = .ok (.bipush 119, 2) := by decide +kernel
theorem dX12_init_219 : decode cX12_init 219 = .ok (.iastore, 1) := by decide +kernel
theorem dX12_init_220 : decode cX12_init 220 = .ok (.dup, 1) := by decide +kernel
theorem dX12_init_221 : decode cX12_init 221 = .ok (.bipush 8, 2) := by decide +kernel
theorem dX12_init_223 : decode cX12_init 223 = .ok (.bipush 104, 2) := by decide +kernel
theorem dX12_init_225 : decode cX12_init 225 = .ok (.iastore, 1) := by decide +kernel
theorem dX12_init_226 : decode cX12_init 226 = .ok (.dup, 1) := by decide +kernel
theorem dX12_init_227 : decode cX12_init 227 = .ok (.bipush 9, 2) := by decide +kernel
theorem dX12_init_229 : decode cX12_init 229 = .ok (.bipush 101, 2) := by decide +kernel
theorem dX12_init_231 : decode cX12_init 231 = .ok (.iastore, 1) := by decide +kernel
theorem dX12_init_232 : decode cX12_init 232 = .ok (.dup, 1) := by decide +kernel
theorem dX12_init_233 : decode cX12_init 233 = .ok (.bipush 10, 2) := by decide +kernel
theorem dX12_init_235 : decode cX12_init 235 = .ok (.bipush 110, 2) := by decide +kernel
theorem dX12_init_237 : decode cX12_init 237 = .ok (.iastore, 1) := by decide +kernel
theorem dX12_init_238 : decode cX12_init 238 = .ok (.dup, 1) := by decide +kernel
theorem dX12_init_239 : decode cX12_init 239 = .ok (.bipush 11, 2) := by decide +kernel
theorem dX12_init_241 : decode cX12_init 241 = .ok (.bipush 32, 2) := by decide +kernel
theorem dX12_init_243 : decode cX12_init 243 = .ok (.iastore, 1) := by decide +kernel
theorem dX12_init_244 : decode cX12_init 244 = .ok (.dup, 1) := by decide +kernel
theorem dX12_init_245 : decode cX12_init 245 = .ok (.bipush 12, 2) := by decide +kernel
theorem dX12_init_247 : decode cX12_init 247 = .ok (.bipush 111, 2) := by decide +kernel
theorem dX12_init_249 : decode cX12_init 249 = .ok (.iastore, 1) := by decide +kernel
theorem dX12_init_250 : decode cX12_init 250 = .ok (.dup, 1) := by decide +kernel
theorem dX12_init_251 : decode cX12_init 251 = .ok (.bipush 13, 2) := by decide +kernel
theorem dX12_init_253 : decode cX12_init 253 = .ok (.bipush 114, 2) := by decide +kernel
theorem dX12_init_255 : decode cX12_init 255 = .ok (.iastore, 1) := by decide +kernel
theorem dX12_init_256 : decode cX12_init 256 = .ok (.dup, 1) := by decide +kernel
theorem dX12_init_257 : decode cX12_init 257 = .ok (.bipush 14, 2) := by decide +kernel
theorem dX12_init_259 : decode cX12_init 259 = .ok (.bipush 32, 2) := by decide +kernel
theorem dX12_init_261 : decode cX12_init 261 = .ok (.iastore, 1) := by decide +kernel
theorem dX12_init_262 : decode cX12_init 262 = .ok (.dup, 1) := by decide +kernel
theorem dX12_init_263 : decode cX12_init 263 = .ok (.bipush 15, 2) := by decide +kernel
theorem dX12_init_265 : decode cX12_init 265 = .ok (.bipush 97, 2) := by decide +kernel
theorem dX12_init_267 : decode cX12_init 267 = .ok (.iastore, 1) := by decide +kernel
theorem dX12_init_268 : decode cX12_init 268 = .ok (.dup, 1) := by decide +kernel
theorem dX12_init_269 : decode cX12_init 269 = .ok (.bipush 16, 2) := by decide +kernel
theorem dX12_init_271 : decode cX12_init 271 = .ok (.bipush 110, 2) := by decide +kernel
theorem dX12_init_273 : decode cX12_init 273 = .ok (.iastore, 1) := by decide +kernel
theorem dX12_init_274 : decode cX12_init 274 = .ok (.dup, 1) := by decide +kernel
theorem dX12_init_275 : decode cX12_init 275 = .ok (.bipush 17, 2) := by decide +kernel
theorem dX12_init_277 : decode cX12_init 277 = .ok (.bipush 100, 2) := by decide +kernel
theorem dX12_init_279 : decode cX12_init 279 = .ok (.iastore, 1) := by decide +kernel
theorem dX12_init_280 : decode cX12_init 280 = .ok (.dup, 1) := by decide +kernel
theorem dX12_init_281 : decode cX12_init 281 = .ok (.bipush 18, 2) := by decide +kernel
theorem dX12_init_283 : decode cX12_init 283 = .ok (.bipush 32, 2) := by decide +kernel
theorem dX12_init_285 : decode cX12_init 285 = .ok (.iastore, 1) := by decide +kernel
theorem dX12_init_286 : decode cX12_init 286 = .ok (.dup, 1) := by decide +kernel
theorem dX12_init_287 : decode cX12_init 287 = .ok (.bipush 19, 2) := by decide +kernel
theorem dX12_init_289 : decode cX12_init 289 = .ok (.bipush 110, 2) := by decide +kernel
theorem dX12_init_291 : decode cX12_init 291 = .ok (.iastore, 1) := by decide +kernel
theorem dX12_init_292 : decode cX12_init 292 = .ok (.dup, 1) := by decide +kernel
theorem dX12_init_293 : decode cX12_init 293 = .ok (.bipush 20, 2) := by decide +kernel
theorem dX12_init_295 : decode cX12_init 295 = .ok (.bipush 111, 2) := by decide +kernel
theorem dX12_init_297 : decode cX12_init 297 = .ok (.iastore, 1) := by decide +kernel
theorem dX12_init_298 : decode cX12_init 298 = .ok (.dup, 1) := by decide +kernel
theorem dX12_init_299 : decode cX12_init 299 = .ok (.bipush 21, 2) := by decide +kernel
theorem dX12_init_301 : decode cX12_init 301 = .ok (.bipush 116, 2) := by decide +kernel
theorem dX12_init_303 : decode cX12_init 303 = .ok (.iastore, 1) := by decide +kernel
theorem dX12_init_304 : decode cX12_init 304 = .ok (.dup, 1) := by decide +kernel
theorem dX12_init_305 : decode cX12_init 305 = .ok (.bipush 22, 2) := by decide +kernel
theorem dX12_init_307 : decode cX12_init 307 = .ok (.bipush 32, 2) := by decide +kernel
theorem dX12_init_309 : decode cX12_init 309 = .ok (.iastore, 1) := by decide +kernel
theorem dX12_init_310 : decode cX12_init 310 = .ok (.dup, 1) := by decide +kernel
theorem dX12_init_311 : decode cX12_init 311 = .ok (.bipush 23, 2) := by decide +kernel
theorem dX12_init_313 : decode cX12_init 313 = .ok (.bipush 102, 2) := by decide +kernel
theorem dX12_init_315 : decode cX12_init 315 = .ok (.iastore, 1) := by decide +kernel
theorem dX12_init_316 : decode cX12_init 316 = .ok (.dup, 1) := by decide +kernel
theorem dX12_init_317 : decode cX12_init 317 = .ok (.bipush 24, 2) := by decide +kernel
theorem dX12_init_319 : decode cX12_init 319 = .ok (.bipush 97, 2) := by decide +kernel
theorem dX12_init_321 : decode cX12_init 321 = .ok (.iastore, 1) := by decide +kernel
theorem dX12_init_322 : decode cX12_init 322 = .ok (.dup, 1) := by decide +kernel
theorem dX12_init_323 : decode cX12_init 323 = .ok (.bipush 25, 2) := by decide +kernel
theorem dX12_init_325 : decode cX12_init 325 = .ok (.bipush 114, 2) := by decide +kernel
theorem dX12_init_327 : decode cX12_init 327 = .ok (.iastore, 1) := by decide +kernel
theorem dX12_init_328 : decode cX12_init 328 = .ok (.dup, 1) := by decide +kernel
theorem dX12_init_329 : decode cX12_init 329 = .ok (.bipush 26, 2) := by decide +kernel
theorem dX12_init_331 : decode cX12_init 331 = .ok (.bipush 109, 2) := by decide +kernel
theorem dX12_init_333 : decode cX12_init 333 = .ok (.iastore, 1) := by decide +kernel
theorem dX12_init_334 : decode cX12_init 334 = .ok (.dup, 1) := by decide +kernel
theorem dX12_init_335 : decode cX12_init 335 = .ok (.bipush 27, 2) := by decide +kernel
theorem dX12_init_337 : decode cX12_init 337 = .ok (.bipush 32, 2) := by decide +kernel
theorem dX12_init_339 : decode cX12_init 339 = .ok (.iastore, 1) := by decide +kernel
theorem dX12_init_340 : decode cX12_init 340 = .ok (.dup, 1) := by decide +kernel
theorem dX12_init_341 : decode cX12_init 341 = .ok (.bipush 28, 2) := by decide +kernel
theorem dX12_init_343 : decode cX12_init 343 = .ok (.bipush 112, 2) := by decide +kernel
theorem dX12_init_345 : decode cX12_init 345 = .ok (.iastore, 1) := by decide +kernel
theorem dX12_init_346 : decode cX12_init 346 = .ok (.dup, 1) := by decide +kernel
theorem dX12_init_347 : decode cX12_init 347 = .ok (.bipush 29, 2) := by decide +kernel
theorem dX12_init_349 : decode cX12_init 349 = .ok (.bipush 117, 2) := by decide +kernel
theorem dX12_init_351 : decode cX12_init 351 = .ok (.iastore, 1) := by decide +kernel
theorem dX12_init_352 : decode cX12_init 352 = .ok (.dup, 1) := by decide +kernel
theorem dX12_init_353 : decode cX12_init 353 = .ok (.bipush 30, 2) := by decide +kernel
theorem dX12_init_355 : decode cX12_init 355 = .ok (.bipush 108, 2) := by decide +kernel
theorem dX12_init_357 : decode cX12_init 357 = .ok (.iastore, 1) := by decide +kernel
theorem dX12_init_358 : decode cX12_init 358 = .ok (.dup, 1) := by decide +kernel
theorem dX12_init_359 : decode cX12_init 359 = .ok (.bipush 31, 2) := by decide +kernel
theorem dX12_init_361 : decode cX12_init 361 = .ok (.bipush 108, 2) := by decide +kernel
theorem dX12_init_363 : decode cX12_init 363 = .ok (.iastore, 1) := by decide +kernel
theorem dX12_init_364 : decode cX12_init 364 = .ok (.dup, 1) := by decide +kernel
theorem dX12_init_365 : decode cX12_init 365 = .ok (.bipush 32, 2) := by decide +kernel
theorem dX12_init_367 : decode cX12_init 367 = .ok (.bipush 101, 2) := by decide +kernel
theorem dX12_init_369 : decode cX12_init 369 = .ok (.iastore, 1) := by decide +kernel
theorem dX12_init_370 : decode cX12_init 370 = .ok (.dup, 1) := by decide +kernel
theorem dX12_init_371 : decode cX12_init 371 = .ok (.bipush 33, 2) := by decide +kernel
theorem dX12_init_373 : decode cX12_init 373 = .ok (.bipush 100, 2) := by decide +kernel
theorem dX12_init_375 : decode cX12_init 375 = .ok (.iastore, 1) := by decide +kernel
theorem dX12_init_376 : decode cX12_init 376 = .ok (.dup, 1) := by decide +kernel
theorem dX12_init_377 : decode cX12_init 377 = .ok (.bipush 34, 2) := by decide +kernel
theorem dX12_init_379 : decode cX12_init 379 = .ok (.bipush 32, 2) := by decide +kernel
theorem dX12_init_381 : decode cX12_init 381 = .ok (.iastore, 1) := by decide +kernel
theorem dX12_init_382 : decode cX12_init 382 = .ok (.dup, 1) := by decide +kernel
theorem dX12_init_383 : decode cX12_init 383 = .ok (.bipush 35, 2) := by decide +kernel
theorem dX12_init_385 : decode cX12_init 385 = .ok (.bipush 97, 2) := by decide +kernel
theorem dX12_init_387 : decode cX12_init 387 = .ok (.iastore, 1) := by decide +kernel
theorem dX12_init_388 : decode cX12_init 388 = .ok (.dup, 1) := by decide +kernel
theorem dX12_init_389 : decode cX12_init 389 = .ok (.bipush 36, 2) := by decide +kernel
theorem dX12_init_391 : decode cX12_init 391 = .ok (.bipush 114, 2) := by decide +kernel
theorem dX12_init_393 : decode cX12_init 393 = .ok (.iastore, 1) := by decide +kernel
theorem dX12_init_394 : decode cX12_init 394 = .ok (.dup, 1) := by decide +kernel
theorem dX12_init_395 : decode cX12_init 395 = .ok (.bipush 37, 2) := by decide +kernel
theorem dX12_init_397 : decode cX12_init 397 = .ok (.bipush 109, 2) := by decide +kernel
theorem dX12_init_399 : decode cX12_init 399 = .ok (.iastore, 1) := by decide +kernel
theorem dX12_init_400 : decode cX12_init 400 = .ok (.dup, 1) := by decide +kernel
theorem dX12_init_401 : decode cX12_init 401 = .ok (.bipush 38, 2) := by decide +kernel
theorem dX12_init_403 : decode cX12_init 403 = .ok (.bipush 115, 2) := by decide +kernel
theorem dX12_init_405 : decode cX12_init 405 = .ok (.iastore, 1) := by decide +kernel
theorem dX12_init_406 : decode cX12_init 406 = .ok (.dup, 1) := by decide +kernel
theorem dX12_init_407 : decode cX12_init 407 = .ok (.bipush 39, 2) := by decide +kernel
theorem dX12_init_409 : decode cX12_init 409 = .ok (.bipush 32, 2) := by decide +kernel
theorem dX12_init_411 : decode cX12_init 411 = .ok (.iastore, 1) := by decide +kernel
theorem dX12_init_412 : decode cX12_init 412 = .ok (.dup, 1) := by decide +kernel
theorem dX12_init_413 : decode cX12_init 413 = .ok (.bipush 40, 2) := by decide +kernel
theorem dX12_init_415 : decode cX12_init 415 = .ok (.bipush 119, 2) := by decide +kernel
theorem dX12_init_417 : decode cX12_init 417 = .ok (.iastore, 1) := by decide +kernel
theorem dX12_init_418 : decode cX12_init 418 = .ok (.dup, 1) := by decide +kernel
theorem dX12_init_419 : decode cX12_init 419 = .ok (.bipush 41, 2) := by decide +kernel
theorem dX12_init_421 : decode cX12_init 421 = .ok (.bipush 101, 2) := by decide +kernel
theorem dX12_init_423 : decode cX12_init 423 = .ok (.iastore, 1) := by decide +kernel
theorem dX12_init_424 : decode cX12_init 424 = .ok (.dup, 1) := by decide +kernel
theorem dX12_init_425 : decode cX12_init 425 = .ok (.bipush 42, 2) := by decide +kernel
theorem dX12_init_427 : decode cX12_init 427 = .ok (.bipush 101, 2) := by decide +kernel
theorem dX12_init_429 : decode cX12_init 429 = .ok (.iastore, 1) := by decide +kernel
theorem dX12_init_430 : decode cX12_init 430 = .ok (.dup, 1) := by decide +kernel
theorem dX12_init_431 : decode cX12_init 431 = .ok (.bipush 43, 2) := by decide +kernel
theorem dX12_init_433 : decode cX12_init 433 = .ok (.bipush 100, 2) := by decide +kernel
theorem dX12_init_435 : decode cX12_init 435 = .ok (.iastore, 1) := by decide +kernel
theorem dX12_init_436 : decode cX12_init 436 = .ok (.dup, 1) := by decide +kernel
theorem dX12_init_437 : decode cX12_init 437 = .ok (.bipush 44, 2) := by decide +kernel
theorem dX12_init_439 : decode cX12_init 439 = .ok (.bipush 115, 2) := by decide +kernel
theorem dX12_init_441 : decode cX12_init 441 = .ok (.iastore, 1) := by decide +kernel
theorem dX12_init_442 : decode cX12_init 442 = .ok (.dup, 1) := by decide +kernel
theorem dX12_init_443 : decode cX12_init 443 = .ok (.bipush 45, 2) := by decide +kernel
theorem dX12_init_445 : decode cX12_init 445 = .ok (.bipush 32, 2) := by decide +kernel
theorem dX12_init_447 : decode cX12_init 447 = .ok (.iastore, 1) := by decide +kernel
theorem dX12_init_448 : decode cX12_init 448 = .ok (.dup, 1) := by decide +kernel
theorem dX12_init_449 : decode cX12_init 449 = .ok (.bipush 46, 2) := by decide +kernel
theorem dX12_init_451 : decode cX12_init 451 = .ok (.bipush 110, 2) := by decide +kernel
theorem dX12_init_453 : decode cX12_init 453 = .ok (.iastore, 1) := by decide +kernel
theorem dX12_init_454 : decode cX12_init 454 = .ok (.dup, 1) := by decide +kernel
theorem dX12_init_455 : decode cX12_init 455 = .ok (.bipush 47, 2) := by decide +kernel
theorem dX12_init_457 : decode cX12_init 457 = .ok (.bipush 101, 2) := by decide +kernel
theorem dX12_init_459 : decode cX12_init 459 = .ok (.iastore, 1) := by decide +kernel
theorem dX12_init_460 : decode cX12_init 460 = .ok (.dup, 1) := by decide +kernel
theorem dX12_init_461 : decode cX12_init 461 = .ok (.bipush 48, 2) := by decide +kernel
theorem dX12_init_463 : decode cX12_init 463 = .ok (.bipush 101, 2) := by decide +kernel
theorem dX12_init_465 : decode cX12_init 465 = .ok (.iastore, 1) := by decide +kernel
theorem dX12_init_466 : decode cX12_init 466 = .ok (.dup, 1) := by decide +kernel
theorem dX12_init_467 : decode cX12_init 467 = .ok (.bipush 49, 2) := by decide +kernel
theorem dX12_init_469 : decode cX12_init 469 = .ok (.bipush 100, 2) := by decide +kernel
theorem dX12_init_471 : decode cX12_init 471 = .ok (.iastore, 1) := by decide +kernel
theorem dX12_init_472 : decode cX12_init 472 = .ok (.dup, 1) := by decide +kernel
theorem dX12_init_473 : decode cX12_init 473 = .ok (.bipush 50, 2) := by decide +kernel
theorem dX12_init_475 : decode cX12_init 475 = .ok (.bipush 32, 2) := by decide +kernel
theorem dX12_init_477 : decode cX12_init 477 = .ok (.iastore, 1) := by decide +kernel
theorem dX12_init_478 : decode cX12_init 478 = .ok (.dup, 1) := by decide +kernel
theorem dX12_init_479 : decode cX12_init 479 = .ok (.bipush 51, 2) := by decide +kernel
theorem dX12_init_481 : decode cX12_init 481 = .ok (.bipush 100, 2) := by decide +kernel
theorem dX12_init_483 : decode cX12_init 483 = .ok (.iastore, 1) := by decide +kernel
theorem dX12_init_484 : decode cX12_init 484 = .ok (.dup, 1) := by decide +kernel
theorem dX12_init_485 : decode cX12_init 485 = .ok (.bipush 52, 2) := by decide +kernel
theorem dX12_init_487 : decode cX12_init 487 = .ok (.bipush 114, 2) := by decide +kernel
theorem dX12_init_489 : decode cX12_init 489 = .ok (.iastore, 1) := by decide +kernel
theorem dX12_init_490 : decode cX12_init 490 = .ok (.dup, 1) := by decide +kernel
theorem dX12_init_491 : decode cX12_init 491 = .ok (.bipush 53, 2) := by decide +kernel
theorem dX12_init_493 : decode cX12_init 493 = .ok (.bipush 111, 2) := by decide +kernel
theorem dX12_init_495 : decode cX12_init 495 = .ok (.iastore, 1) := by decide +kernel
theorem dX12_init_496 : decode cX12_init 496 = .ok (.dup, 1) := by decide +kernel
theorem dX12_init_497 : decode cX12_init 497 = .ok (.bipush 54, 2) := by decide +kernel
theorem dX12_init_499 : decode cX12_init 499 = .ok (.bipush 112, 2) := by decide +kernel
theorem dX12_init_501 : decode cX12_init 501 = .ok (.iastore, 1) := by decide +kernel
theorem dX12_init_502 : decode cX12_init 502 = .ok (.dup, 1) := by decide +kernel
theorem dX12_init_503 : decode cX12_init 503 = .ok (.bipush 55, 2) := by decide +kernel
theorem dX12_init_505 : decode cX12_init 505 = .ok (.bipush 115, 2) := by decide +kernel
theorem dX12_init_507 : decode cX12_init 507 = .ok (.iastore, 1) := by decide +kernel
theorem dX12_init_508 : decode cX12_init 508 = .ok (.dup, 1) := by decide +kernel
theorem dX12_init_509 : decode cX12_init 509 = .ok (.bipush 56, 2) := by decide +kernel
theorem dX12_init_511 : decode cX12_init 511 = .ok (.bipush 32, 2) := by decide +kernel
theorem dX12_init_513 : decode cX12_init 513 = .ok (.iastore, 1) := by decide +kernel
theorem dX12_init_514 : decode cX12_init 514 = .ok (.dup, 1) := by decide +kernel
theorem dX12_init_515 : decode cX12_init 515 = .ok (.bipush 57, 2) := by decide +kernel
theorem dX12_init_517 : decode cX12_init 517 = .ok (.bipush 119, 2) := by decide +kernel
theorem dX12_init_519 : decode cX12_init 519 = .ok (.iastore, 1) := by decide +kernel
theorem dX12_init_520 : decode cX12_init 520 = .ok (.dup, 1) := by decide +kernel
theorem dX12_init_521 : decode cX12_init 521 = .ok (.bipush 58, 2) := by decide +kernel
theorem dX12_init_523 : decode cX12_init 523 = .ok (.bipush 101, 2) := by decide +kernel
theorem dX12_init_525 : decode cX12_init 525 = .ok (.iastore, 1) := by decide +kernel
theorem dX12_init_526 : decode cX12_init 526 = .ok (.dup, 1) := by decide +kernel
theorem dX12_init_527 : decode cX12_init 527 = .ok (.bipush 59, 2) := by decide +kernel
theorem dX12_init_529 : decode cX12_init 529 = .ok (.bipush 116, 2) := by decide +kernel
theorem dX12_init_531 : decode cX12_init 531 = .ok (.iastore, 1) := by decide +kernel
theorem dX12_init_532 : decode cX12_init 532 = .ok (.dup, 1) := by decide +kernel
theorem dX12_init_533 : decode cX12_init 533 = .ok (.bipush 60, 2) := by decide +kernel
theorem dX12_init_535 : decode cX12_init 535 = .ok (.bipush 32, 2) := by decide +kernel
theorem dX12_init_537 : decode cX12_init 537 = .ok (.iastore, 1) := by decide +kernel
theorem dX12_init_538 : decode cX12_init 538 = .ok (.dup, 1) := by decide +kernel
theorem dX12_init_539 : decode cX12_init 539 = .ok (.bipush 61, 2) := by decide +kernel
theorem dX12_init_541 : decode cX12_init 541 = .ok (.bipush 100, 2) := by decide +kernel
theorem dX12_init_543 : decode cX12_init 543 = .ok (.iastore, 1) := by decide +kernel
theorem dX12_init_544 : decode cX12_init 544 = .ok (.dup, 1) := by decide +kernel
theorem dX12_init_545 : decode cX12_init 545 = .ok (.bipush 62, 2) := by decide +kernel
theorem dX12_init_547 : decode cX12_init 547 = .ok (.bipush 114, 2) := by decide +kernel
theorem dX12_init_549 : decode cX12_init 549 = .ok (.iastore, 1) := by decide +kernel
theorem dX12_init_550 : decode cX12_init 550 = .ok (.dup, 1) := by decide +kernel
theorem dX12_init_551 : decode cX12_init 551 = .ok (.bipush 63, 2) := by decide +kernel
theorem dX12_init_553 : decode cX12_init 553 = .ok (.bipush 121, 2) := by decide +kernel
theorem dX12_init_555 : decode cX12_init 555 = .ok (.iastore, 1) := by decide +kernel
theorem dX12_init_556 : decode cX12_init 556 = .ok (.dup, 1) := by decide +kernel
theorem dX12_init_557 : decode cX12_init 557 = .ok (.bipush 64, 2) := by decide +kernel
theorem dX12_init_559 : decode cX12_init 559 = .ok (.bipush 32, 2) := by decide +kernel
theorem dX12_init_561 : decode cX12_init 561 = .ok (.iastore, 1) := by decide +kernel
theorem dX12_init_562 : decode cX12_init 562 = .ok (.dup, 1) := by decide +kernel
theorem dX12_init_563 : decode cX12_init 563 = .ok (.bipush 65, 2) := by decide +kernel
theorem dX12_init_565 : decode cX12_init 565 = .ok (.bipush 111, 2) := by decide +kernel
theorem dX12_init_567 : decode cX12_init 567 = .ok (.iastore, 1) := by decide +kernel
theorem dX12_init_568 : decode cX12_init 568 = .ok (.dup, 1) := by decide +kernel
theorem dX12_init_569 : decode cX12_init 569 = .ok (.bipush 66, 2) := by decide +kernel
theorem dX12_init_571 : decode cX12_init 571 = .ok (.bipush 119, 2) := by decide +kernel
theorem dX12_init_573 : decode cX12_init 573 = .ok (.iastore, 1) := by decide +kernel
theorem dX12_init_574 : decode cX12_init 574 = .ok (.dup, 1) := by decide +kernel
theorem dX12_init_575 : decode cX12_init 575 = .ok (.bipush 67, 2) := by decide +kernel
theorem dX12_init_577 : decode cX12_init 577 = .ok (.bipush 101, 2) := by decide +kernel
theorem dX12_init_579 : decode cX12_init 579 = .ok (.iastore, 1) := by decide +kernel
theorem dX12_init_580 : decode cX12_init 580 = .ok (.dup, 1) := by decide +kernel
theorem dX12_init_581 : decode cX12_init 581 = .ok (.bipush 68, 2) := by decide +kernel
theorem dX12_init_583 : decode cX12_init 583 = .ok (.bipush 115, 2) := by decide +kernel
theorem dX12_init_585 : decode cX12_init 585 = .ok (.iastore, 1) := by decide +kernel
theorem dX12_init_586 : decode cX12_init 586 = .ok (.dup, 1) := by decide +kernel
theorem dX12_init_587 : decode cX12_init 587 = .ok (.bipush 69, 2) := by decide +kernel
theorem dX12_init_589 : decode cX12_init 589 = .ok (.bipush 32, 2) := by decide +kernel
theorem dX12_init_591 : decode cX12_init 591 = .ok (.iastore, 1) := by decide +kernel
theorem dX12_init_592 : decode cX12_init 592 = .ok (.dup, 1) := by decide +kernel
theorem dX12_init_593 : decode cX12_init 593 = .ok (.bipush 70, 2) := by decide +kernel
theorem dX12_init_595 : decode cX12_init 595 = .ok (.bipush 100, 2) := by decide +kernel
theorem dX12_init_597 : decode cX12_init 597 = .ok (.iastore, 1) := by decide +kernel
theorem dX12_init_598 : decode cX12_init 598 = .ok (.dup, 1) := by decide +kernel
theorem dX12_init_599 : decode cX12_init 599 = .ok (.bipush 71, 2) := by decide +kernel
theorem dX12_init_601 : decode cX12_init 601 = .ok (.bipush 97, 2) := by decide +kernel
theorem dX12_init_603 : decode cX12_init 603 = .ok (.iastore, 1) := by decide +kernel
theorem dX12_init_604 : decode cX12_init 604 = .ok (.dup, 1) := by decide +kernel
theorem dX12_init_605 : decode cX12_init 605 = .ok (.bipush 72, 2) := by decide +kernel
theorem dX12_init_607 : decode cX12_init 607 = .ok (.bipush 121, 2) := by decide +kernel
theorem dX12_init_609 : decode cX12_init 609 = .ok (.iastore, 1) := by decide +kernel
theorem dX12_init_610 : decode cX12_init 610 = .ok (.dup, 1) := by decide +kernel
theorem dX12_init_611 : decode cX12_init 611 = .ok (.bipush 73, 2) := by decide +kernel
theorem dX12_init_613 : decode cX12_init 613 = .ok (.bipush 32, 2) := by decide +kernel
theorem dX12_init_615 : decode cX12_init 615 = .ok (.iastore, 1) := by decide +kernel
theorem dX12_init_616 : decode cX12_init 616 = .ok (.putfield 74, 3) := by decide +kernel
theorem dX12_init_619 : decode cX12_init 619 = .ok (.aload_n 0, 1) := by decide +kernel
theorem dX12_init_620 : decode cX12_init 620 = .ok (.bipush 32, 2) := by decide +kernel
theorem dX12_init_622 : decode cX12_init 622 = .ok (.newarray .int, 2) := by decide +kernel
theorem dX12_init_624 : decode cX12_init 624 = .ok (.putfield 77, 3) := by decide +kernel
theorem dX12_init_627 : decode cX12_init 627 = .ok (.aload_n 0, 1) := by decide +kernel
theorem dX12_init_628 : decode cX12_init 628 = .ok (.bipush 32, 2) := by decide +kernel
theorem dX12_init_630 : decode cX12_init 630 = .ok (.newarray .int, 2) := by decide +kernel
theorem dX12_init_632 : decode cX12_init 632 = .ok (.putfield 80, 3) := by decide +kernel
theorem dX12_init_635 : decode cX12_init 635 = .ok (.aload_n 0, 1) := by decide +kernel
theorem dX12_init_636 : decode cX12_init 636 = .ok (.bipush 32, 2) := by decide +kernel
theorem dX12_init_638 : decode cX12_init 638 = .ok (.newarray .int, 2) := by decide +kernel
theorem dX12_init_640 : decode cX12_init 640 = .ok (.putfield 83, 3) := by decide +kernel
theorem dX12_init_643 : decode cX12_init 643 = .ok (.aload_n 0, 1) := by decide +kernel
theorem dX12_init_644 : decode cX12_init 644 = .ok (.sipush 800, 3) := by decide +kernel
theorem dX12_init_647 : decode cX12_init 647 = .ok (.newarray .int, 2) := by decide +kernel
theorem dX12_init_649 : decode cX12_init 649 = .ok (.putfield 86, 3) := by decide +kernel
theorem dX12_init_652 : decode cX12_init 652 = .ok (.aload_n 0, 1) := by decide +kernel
theorem dX12_init_653 : decode cX12_init 653 = .ok (.sipush 800, 3) := by decide +kernel
theorem dX12_init_656 : decode cX12_init 656 = .ok (.newarray .int, 2) := by decide +kernel
theorem dX12_init_658 : decode cX12_init 658 = .ok (.putfield 89, 3) := by decide +kernel
theorem dX12_init_661 : decode cX12_init 661 = .ok (.aload_n 0, 1) := by decide +kernel
theorem dX12_init_662 : decode cX12_init 662 = .ok (.bipush 40, 2) := by decide +kernel
theorem dX12_init_664 : decode cX12_init 664 = .ok (.newarray .int, 2) := by decide +kernel
theorem dX12_init_666 : decode cX12_init 666 = .ok (.putfield 92, 3) := by decide +kernel
theorem dX12_init_669 : decode cX12_init 669 = .ok (.aload_n 0, 1) := by decide +kernel
theorem dX12_init_670 : decode cX12_init 670 = .ok (.iconst (-1), 1) := by decide +kernel
theorem dX12_init_671 : decode cX12_init 671 = .ok (.putfield 95, 3) := by decide +kernel
theorem dX12_init_674 : decode cX12_init 674 = .ok (.aload_n 0, 1) := by decide +kernel
theorem dX12_init_675 : decode cX12_init 675 = .ok (.bipush 10, 2) := by decide +kernel
theorem dX12_init_677 : decode cX12_init 677 = .ok (.newarray .int, 2) := by decide +kernel
theorem dX12_init_679 : decode cX12_init 679 = .ok (.putfield 98, 3) := by decide +kernel
theorem dX12_init_682 : decode cX12_init 682 = .ok (.aload_n 0, 1) := by decide +kernel
theorem dX12_init_683 : decode cX12_init 683 = .ok (.sipush 420, 3) := by decide +kernel
theorem dX12_init_686 : decode cX12_init 686 = .ok (.newarray .int, 2) := by decide +kernel
theorem dX12_init_688 : decode cX12_init 688 = .ok (.putfield 101, 3) := by decide +kernel
theorem dX12_init_691 : decode cX12_init 691 = .ok (.aload_n 0, 1) := by decide +kernel
theorem dX12_init_692 : decode cX12_init 692 = .ok (.bipush 9, 2) := by decide +kernel
theorem dX12_init_694 : decode cX12_init 694 = .ok (.newarray .int, 2) := by decide +kernel
theorem dX12_init_696 : decode cX12_init 696 = .ok (.putfield 104, 3) := by decide +kernel
theorem dX12_init_699 : decode cX12_init 699 = .ok (.aload_n 0, 1) := by decide +kernel
theorem dX12_init_700 : decode cX12_init 700 = .ok (.bipush 9, 2) := by decide +kernel
theorem dX12_init_702 : decode cX12_init 702 = .ok (.newarray .long, 2) := by decide +kernel
theorem dX12_init_704 : decode cX12_init 704 = .ok (.putfield 107, 3) := by decide +kernel
theorem dX12_init_707 : decode cX12_init 707 = .ok (.aload_n 0, 1) := by decide +kernel
theorem dX12_init_708 : decode cX12_init 708 = .ok (.sipush 512, 3) := by decide +kernel
theorem dX12_init_711 : decode cX12_init 711 = .ok (.newarray .int, 2) := by decide +kernel
theorem dX12_init_713 : decode cX12_init 713 = .ok (.putfield 111, 3) := by decide +kernel
theorem dX12_init_716 : decode cX12_init 716 = .ok (.aload_n 0, 1) := by decide +kernel
theorem dX12_init_717 : decode cX12_init 717 = .ok (.sipush 512, 3) := by decide +kernel
theorem dX12_init_720 : decode cX12_init 720 = .ok (.newarray .int, 2) := by decide +kernel
theorem dX12_init_722 : decode cX12_init 722 = .ok (.putfield 114, 3) := by decide +kernel
theorem dX12_init_725 : decode cX12_init 725 = .ok (.aload_n 0, 1) := by decide +kernel
theorem dX12_init_726 : decode cX12_init 726 = .ok (.sipush 1450, 3) := by decide +kernel
theorem dX12_init_729 : decode cX12_init 729 = .ok (.newarray .int, 2) := by decide +kernel
theorem dX12_init_731 : decode cX12_init 731 = .ok (.putfield 117, 3) := by decide +kernel
theorem dX12_init_734 : decode cX12_init 734 = .ok (.return_, 1) := by decide +kernel
theorem dX12_isIn_0 : decode cX12_isIn 0 = .ok (.iload_n 1, 1) := by decide +kernel
theorem dX12_isIn_1 : decode cX12_isIn 1 = .ok (.iload_n 2, 1) := by decide +kernel
theorem dX12_isIn_2 : decode cX12_isIn 2 = .ok (.if_icmp .lt 12, 3) := by decide +kernel
theorem dX12_isIn_5 : decode cX12_isIn 5 = .ok (.iload_n 1, 1) := by decide +kernel
theorem dX12_isIn_6 : decode cX12_isIn 6 = .ok (.iload_n 3, 1) := by decide +kernel
theorem dX12_isIn_7 : decode cX12_isIn 7 = .ok (.if_icmp .gt 7, 3) := by decide +kernel
theorem dX12_isIn_10 : decode cX12_isIn 10 = .ok (.iconst 1, 1) := by decide +kernel
theorem dX12_isIn_11 : decode cX12_isIn 11 = .ok (.goto 4, 3) := by decide +kernel
theorem dX12_isIn_14 : decode cX12_isIn 14 = .ok (.iconst 0, 1) := by decide +kernel
theorem dX12_isIn_15 : decode cX12_isIn 15 = .ok (.ireturn, 1) := by decide +kernel
theorem dX12_ones_0 : decode cX12_ones 0 = .ok (.iconst 0, 1) := by decide +kernel
theorem dX12_ones_1 : decode cX12_ones 1 = .ok (.istore_n 2, 1) := by decide +kernel
theorem dX12_ones_2 : decode cX12_ones 2 = .ok (.iload_n 1, 1) := by decide +kernel
theorem dX12_ones_3 : decode cX12_ones 3 = .ok (.istore_n 3, 1) := by decide +kernel
theorem dX12_ones_4 : decode cX12_ones 4 = .ok (.iload_n 3, 1) := by decide +kernel
theorem dX12_ones_5 : decode cX12_ones 5 = .ok (.ifCond .eq 16, 3) := by decide +kernel
theorem dX12_ones_8 : decode cX12_ones 8 = .ok (.iload_n 2, 1) := by decide +kernel
theorem dX12_ones_9 : decode cX12_ones 9 = .ok (.iconst 1, 1) := by decide +kernel
theorem dX12_ones_10 : decode cX12_ones 10 = .ok (.iadd, 1) := by decide +kernel
theorem dX12_ones_11 : decode cX12_ones 11 = .ok (.istore_n 2, 1) := by decide +kernel
theorem dX12_ones_12 : decode cX12_ones 12 = .ok (.iload_n 3, 1) := by decide +kernel
theorem dX12_ones_13 : decode cX12_ones 13 = .ok (.iload_n 3, 1) := by decide +kernel
theorem dX12_ones_14 : decode cX12_ones 14 = .ok (.iconst 1, 1) := by decide +kernel
theorem dX12_ones_15 : decode cX12_ones 15 = .ok (.isub, 1) := by decide +kernel
theorem dX12_ones_16 : decode cX12_ones 16 = .ok (.iand, 1) := by decide +kernel
theorem dX12_ones_17 : decode cX12_ones 17 = .ok (.istore_n 3, 1) := by decide +kernel
theorem dX12_ones_18 : decode cX12_ones 18 = .ok (.goto (-14), 3) := by decide +kernel
theorem dX12_ones_21 : decode cX12_ones 21 = .ok (.iload_n 2, 1) := by decide +kernel
theorem dX12_ones_22 : decode cX12_ones 22 = .ok (.ireturn, 1) := by decide +kernel
theorem dX12_keepsRow_0 : decode cX12_keepsRow 0 = .ok (.iconst 0, 1) := by decide +kernel
theorem dX12_keepsRow_1 : decode cX12_keepsRow 1 = .ok (.istore_n 2, 1) := by decide +kernel
theorem dX12_keepsRow_2 : decode cX12_keepsRow 2 = .ok (.iload_n 2, 1) := by decide +kernel
theorem dX12_keepsRow_3 : decode cX12_keepsRow 3 = .ok (.sipush 160, 3) := by decide +kernel
theorem dX12_keepsRow_6 : decode cX12_keepsRow 6 = .ok (.if_icmp .ge 27, 3) := by decide +kernel
theorem dX12_keepsRow_9 : decode cX12_keepsRow 9 = .ok (.aload_n 0, 1) := by decide +kernel
theorem dX12_keepsRow_10 : decode cX12_keepsRow 10 = .ok (.getfield 13, 3) := by decide +kernel
theorem dX12_keepsRow_13 : decode cX12_keepsRow 13 = .ok (.sipush 160, 3) := by decide +kernel
theorem dX12_keepsRow_16 : decode cX12_keepsRow 16 = .ok (.iload_n 1, 1) := by decide +kernel
theorem dX12_keepsRow_17 : decode cX12_keepsRow 17 = .ok (.imul, 1) := by decide +kernel
theorem dX12_keepsRow_18 : decode cX12_keepsRow 18 = .ok (.iload_n 2, 1) := by decide +kernel
theorem dX12_keepsRow_19 : decode cX12_keepsRow 19 = .ok (.iadd, 1) := by decide +kernel
theorem dX12_keepsRow_20 : decode cX12_keepsRow 20 = .ok (.aload_n 0, 1) := by decide +kernel
theorem dX12_keepsRow_21 : decode cX12_keepsRow 21 = .ok (.getfield 7, 3) := by decide +kernel
theorem dX12_keepsRow_24 : decode cX12_keepsRow 24 = .ok (.iload_n 2, 1) := by decide +kernel
theorem dX12_keepsRow_25 : decode cX12_keepsRow 25 = .ok (.iaload, 1) := by decide +kernel
theorem dX12_keepsRow_26 : decode cX12_keepsRow 26 = .ok (.iastore, 1) := by decide +kernel
theorem dX12_keepsRow_27 : decode cX12_keepsRow 27 = .ok (.iinc 2 1, 3) := by decide +kernel
theorem dX12_keepsRow_30 : decode cX12_keepsRow 30 = .ok (.goto (-28), 3) := by decide +kernel
theorem dX12_keepsRow_33 : decode cX12_keepsRow 33 = .ok (.return_, 1) := by decide +kernel
theorem dX12_takesRow_0 : decode cX12_takesRow 0 = .ok (.iconst 0, 1) := by decide +kernel
theorem dX12_takesRow_1 : decode cX12_takesRow 1 = .ok (.istore_n 2, 1) := by decide +kernel
theorem dX12_takesRow_2 : decode cX12_takesRow 2 = .ok (.iload_n 2, 1) := by decide +kernel
theorem dX12_takesRow_3 : decode cX12_takesRow 3 = .ok (.sipush 160, 3) := by decide +kernel
theorem dX12_takesRow_6 : decode cX12_takesRow 6 = .ok (.if_icmp .ge 27, 3) := by decide +kernel
theorem dX12_takesRow_9 : decode cX12_takesRow 9 = .ok (.aload_n 0, 1) := by decide +kernel
theorem dX12_takesRow_10 : decode cX12_takesRow 10 = .ok (.getfield 7, 3) := by decide +kernel
theorem dX12_takesRow_13 : decode cX12_takesRow 13 = .ok (.iload_n 2, 1) := by decide +kernel
theorem dX12_takesRow_14 : decode cX12_takesRow 14 = .ok (.aload_n 0, 1) := by decide +kernel
theorem dX12_takesRow_15 : decode cX12_takesRow 15 = .ok (.getfield 13, 3) := by decide +kernel
theorem dX12_takesRow_18 : decode cX12_takesRow 18 = .ok (.sipush 160, 3) := by decide +kernel
theorem dX12_takesRow_21 : decode cX12_takesRow 21 = .ok (.iload_n 1, 1) := by decide +kernel
theorem dX12_takesRow_22 : decode cX12_takesRow 22 = .ok (.imul, 1) := by decide +kernel
theorem dX12_takesRow_23 : decode cX12_takesRow 23 = .ok (.iload_n 2, 1) := by decide +kernel
theorem dX12_takesRow_24 : decode cX12_takesRow 24 = .ok (.iadd, 1) := by decide +kernel
theorem dX12_takesRow_25 : decode cX12_takesRow 25 = .ok (.iaload, 1) := by decide +kernel
theorem dX12_takesRow_26 : decode cX12_takesRow 26 = .ok (.iastore, 1) := by decide +kernel
theorem dX12_takesRow_27 : decode cX12_takesRow 27 = .ok (.iinc 2 1, 3) := by decide +kernel
theorem dX12_takesRow_30 : decode cX12_takesRow 30 = .ok (.goto (-28), 3) := by decide +kernel
theorem dX12_takesRow_33 : decode cX12_takesRow 33 = .ok (.return_, 1) := by decide +kernel
theorem dX12_keepsAhead_0 : decode cX12_keepsAhead 0 = .ok (.aload_n 0, 1) := by decide +kernel
theorem dX12_keepsAhead_1 : decode cX12_keepsAhead 1 = .ok (.getfield 123, 3) := by decide +kernel
theorem dX12_keepsAhead_4 : decode cX12_keepsAhead 4 = .ok (.bipush 8, 2) := by decide +kernel
theorem dX12_keepsAhead_6 : decode cX12_keepsAhead 6 = .ok (.if_icmp .ne 49, 3) := by decide +kernel
theorem dX12_keepsAhead_9 : decode cX12_keepsAhead 9 = .ok (.aload_n 0, 1) := by decide +kernel
theorem dX12_keepsAhead_10 : decode cX12_keepsAhead 10 = .ok (.aload_n 0, 1) := by decide +kernel
theorem dX12_keepsAhead_11 : decode cX12_keepsAhead 11 = .ok (.getfield 123, 3) := by decide +kernel
theorem dX12_keepsAhead_14 : decode cX12_keepsAhead 14 = .ok (.iconst 1, 1) := by decide +kernel
theorem dX12_keepsAhead_15 : decode cX12_keepsAhead 15 = .ok (.isub, 1) := by decide +kernel
theorem dX12_keepsAhead_16 : decode cX12_keepsAhead 16 = .ok (.putfield 123, 3) := by decide +kernel
theorem dX12_keepsAhead_19 : decode cX12_keepsAhead 19 = .ok (.iconst 0, 1) := by decide +kernel
theorem dX12_keepsAhead_20 : decode cX12_keepsAhead 20 = .ok (.istore_n 1, 1) := by decide +kernel
theorem dX12_keepsAhead_21 : decode cX12_keepsAhead 21 = .ok (.iload_n 1, 1) := by decide +kernel
theorem dX12_keepsAhead_22 : decode cX12_keepsAhead 22 = .ok (.sipush 160, 3) := by decide +kernel
theorem dX12_keepsAhead_25 : decode cX12_keepsAhead 25 = .ok (.aload_n 0, 1) := by decide +kernel
theorem dX12_keepsAhead_26 : decode cX12_keepsAhead 26 = .ok (.getfield 123, 3) := by decide +kernel
theorem dX12_keepsAhead_29 : decode cX12_keepsAhead 29 = .ok (.imul, 1) := by decide +kernel
theorem dX12_keepsAhead_30 : decode cX12_keepsAhead 30 = .ok (.if_icmp .ge 25, 3) := by decide +kernel
theorem dX12_keepsAhead_33 : decode cX12_keepsAhead 33 = .ok (.aload_n 0, 1) := by decide +kernel
theorem dX12_keepsAhead_34 : decode cX12_keepsAhead 34 = .ok (.getfield 13, 3) := by decide +kernel
theorem dX12_keepsAhead_37 : decode cX12_keepsAhead 37 = .ok (.iload_n 1, 1) := by decide +kernel
theorem dX12_keepsAhead_38 : decode cX12_keepsAhead 38 = .ok (.aload_n 0, 1) := by decide +kernel
theorem dX12_keepsAhead_39 : decode cX12_keepsAhead 39 = .ok (.getfield 13, 3) := by decide +kernel
theorem dX12_keepsAhead_42 : decode cX12_keepsAhead 42 = .ok (.iload_n 1, 1) := by decide +kernel
theorem dX12_keepsAhead_43 : decode cX12_keepsAhead 43 = .ok (.sipush 160, 3) := by decide +kernel
theorem dX12_keepsAhead_46 : decode cX12_keepsAhead 46 = .ok (.iadd, 1) := by decide +kernel
theorem dX12_keepsAhead_47 : decode cX12_keepsAhead 47 = .ok (.iaload, 1) := by decide +kernel
theorem dX12_keepsAhead_48 : decode cX12_keepsAhead 48 = .ok (.iastore, 1) := by decide +kernel
theorem dX12_keepsAhead_49 : decode cX12_keepsAhead 49 = .ok (.iinc 1 1, 3) := by decide +kernel
theorem dX12_keepsAhead_52 : decode cX12_keepsAhead 52 = .ok (.goto (-31), 3) := by decide +kernel
theorem dX12_keepsAhead_55 : decode cX12_keepsAhead 55 = .ok (.aload_n 0, 1) := by decide +kernel
theorem dX12_keepsAhead_56 : decode cX12_keepsAhead 56 = .ok (.aload_n 0, 1) := by decide +kernel
theorem dX12_keepsAhead_57 : decode cX12_keepsAhead 57 = .ok (.getfield 123, 3) := by decide +kernel
theorem dX12_keepsAhead_60 : decode cX12_keepsAhead 60 = .ok (.invokevirtual 126, 3) := by decide +kernel
theorem dX12_keepsAhead_63 : decode cX12_keepsAhead 63 = .ok (.aload_n 0, 1) := by decide +kernel
theorem dX12_keepsAhead_64 : decode cX12_keepsAhead 64 = .ok (.aload_n 0, 1) := by decide +kernel
theorem dX12_keepsAhead_65 : decode cX12_keepsAhead 65 = .ok (.getfield 123, 3) := by decide +kernel
theorem dX12_keepsAhead_68 : decode cX12_keepsAhead 68 = .ok (.iconst 1, 1) := by decide +kernel
theorem dX12_keepsAhead_69 : decode cX12_keepsAhead 69 = .ok (.iadd, 1) := by decide +kernel
theorem dX12_keepsAhead_70 : decode cX12_keepsAhead 70 = .ok (.putfield 123, 3) := by decide +kernel
theorem dX12_keepsAhead_73 : decode cX12_keepsAhead 73 = .ok (.return_, 1) := by decide +kernel
theorem dX12_undo_0 : decode cX12_undo 0 = .ok (.aload_n 0, 1) := by decide +kernel
theorem dX12_undo_1 : decode cX12_undo 1 = .ok (.iconst 0, 1) := by decide +kernel
theorem dX12_undo_2 : decode cX12_undo 2 = .ok (.putfield 120, 3) := by decide +kernel
theorem dX12_undo_5 : decode cX12_undo 5 = .ok (.aload_n 0, 1) := by decide +kernel
theorem dX12_undo_6 : decode cX12_undo 6 = .ok (.getfield 123, 3) := by decide +kernel
theorem dX12_undo_9 : decode cX12_undo 9 = .ok (.ifCond .ne 5, 3) := by decide +kernel
theorem dX12_undo_12 : decode cX12_undo 12 = .ok (.iconst 0, 1) := by decide +kernel
theorem dX12_undo_13 : decode cX12_undo 13 = .ok (.ireturn, 1) := by decide +kernel
theorem dX12_undo_14 : decode cX12_undo 14 = .ok (.aload_n 0, 1) := by decide +kernel
theorem dX12_undo_15 : decode cX12_undo 15 = .ok (.aload_n 0, 1) := by decide +kernel
theorem dX12_undo_16 : decode cX12_undo 16 = .ok (.getfield 123, 3) := by decide +kernel
theorem dX12_undo_19 : decode cX12_undo 19 = .ok (.iconst 1, 1) := by decide +kernel
theorem dX12_undo_20 : decode cX12_undo 20 = .ok (.isub, 1) := by decide +kernel
theorem dX12_undo_21 : decode cX12_undo 21 = .ok (.putfield 123, 3) := by decide +kernel
theorem dX12_undo_24 : decode cX12_undo 24 = .ok (.aload_n 0, 1) := by decide +kernel
theorem dX12_undo_25 : decode cX12_undo 25 = .ok (.aload_n 0, 1) := by decide +kernel
theorem dX12_undo_26 : decode cX12_undo 26 = .ok (.getfield 123, 3) := by decide +kernel
theorem dX12_undo_29 : decode cX12_undo 29 = .ok (.invokevirtual 130, 3) := by decide +kernel
theorem dX12_undo_32 : decode cX12_undo 32 = .ok (.iconst 1, 1) := by decide +kernel
theorem dX12_undo_33 : decode cX12_undo 33 = .ok (.ireturn, 1) := by decide +kernel
theorem dX12_state_0 : decode cX12_state 0 = .ok (.aload_n 0, 1) := by decide +kernel
theorem dX12_state_1 : decode cX12_state 1 = .ok (.iconst 0, 1) := by decide +kernel
theorem dX12_state_2 : decode cX12_state 2 = .ok (.putfield 120, 3) := by decide +kernel
theorem dX12_state_5 : decode cX12_state 5 = .ok (.aload_n 0, 1) := by decide +kernel
theorem dX12_state_6 : decode cX12_state 6 = .ok (.getfield 7, 3) := by decide +kernel
theorem dX12_state_9 : decode cX12_state 9 = .ok (.iconst 5, 1) := by decide +kernel
theorem dX12_state_10 : decode cX12_state 10 = .ok (.iaload, 1) := by decide +kernel
theorem dX12_state_11 : decode cX12_state 11 = .ok (.istore_n 2, 1) := by decide +kernel
theorem dX12_state_12 : decode cX12_state 12 = .ok (.aload_n 0, 1) := by decide +kernel
theorem dX12_state_13 : decode cX12_state 13 = .ok (.getfield 7, 3) := by decide +kernel
theorem dX12_state_16 : decode cX12_state 16 = .ok (.iconst 5, 1) := by decide +kernel
theorem dX12_state_17 : decode cX12_state 17 = .ok (.iload_n 1, 1) := by decide +kernel
theorem dX12_state_18 : decode cX12_state 18 = .ok (.iastore, 1) := by decide +kernel
theorem dX12_state_19 : decode cX12_state 19 = .ok (.iload_n 2, 1) := by decide +kernel
theorem dX12_state_20 : decode cX12_state 20 = .ok (.ireturn, 1) := by decide +kernel
theorem dX12_draw_0 : decode cX12_draw 0 = .ok (.aload_n 0, 1) := by decide +kernel
theorem dX12_draw_1 : decode cX12_draw 1 = .ok (.getfield 7, 3) := by decide +kernel
theorem dX12_draw_4 : decode cX12_draw 4 = .ok (.iconst 5, 1) := by decide +kernel
theorem dX12_draw_5 : decode cX12_draw 5 = .ok (.ldc 133, 2) := by decide +kernel
theorem dX12_draw_7 : decode cX12_draw 7 = .ok (.aload_n 0, 1) := by decide +kernel
theorem dX12_draw_8 : decode cX12_draw 8 = .ok (.getfield 7, 3) := by decide +kernel
theorem dX12_draw_11 : decode cX12_draw 11 = .ok (.iconst 5, 1) := by decide +kernel
theorem dX12_draw_12 : decode cX12_draw 12 = .ok (.iaload, 1) := by decide +kernel
theorem dX12_draw_13 : decode cX12_draw 13 = .ok (.imul, 1) := by decide +kernel
theorem dX12_draw_14 : decode cX12_draw 14 = .ok (.ldc 134, 2) := by decide +kernel
theorem dX12_draw_16 : decode cX12_draw 16 = .ok (.iadd, 1) := by decide +kernel
theorem dX12_draw_17 : decode cX12_draw 17 = .ok (.iastore, 1) := by decide +kernel
theorem dX12_draw_18 : decode cX12_draw 18 = .ok (.aload_n 0, 1) := by decide +kernel
theorem dX12_draw_19 : decode cX12_draw 19 = .ok (.getfield 7, 3) := by decide +kernel
theorem dX12_draw_22 : decode cX12_draw 22 = .ok (.iconst 5, 1) := by decide +kernel
theorem dX12_draw_23 : decode cX12_draw 23 = .ok (.iaload, 1) := by decide +kernel
theorem dX12_draw_24 : decode cX12_draw 24 = .ok (.bipush 8, 2) := by decide +kernel
theorem dX12_draw_26 : decode cX12_draw 26 = .ok (.iushr, 1) := by decide +kernel
theorem dX12_draw_27 : decode cX12_draw 27 = .ok (.iload_n 1, 1) := by decide +kernel
theorem dX12_draw_28 : decode cX12_draw 28 = .ok (.irem, 1) := by decide +kernel
theorem dX12_draw_29 : decode cX12_draw 29 = .ok (.ireturn, 1) := by decide +kernel
theorem dX12_isFarm_0 : decode cX12_isFarm 0 = .ok (.iload_n 1, 1) := by decide +kernel
theorem dX12_isFarm_1 : decode cX12_isFarm 1 = .ok (.ifCond .lt 15, 3) := by decide +kernel
theorem dX12_isFarm_4 : decode cX12_isFarm 4 = .ok (.iload_n 1, 1) := by decide +kernel
theorem dX12_isFarm_5 : decode cX12_isFarm 5 = .ok (.aload_n 0, 1) := by decide +kernel
theorem dX12_isFarm_6 : decode cX12_isFarm 6 = .ok (.getfield 135, 3) := by decide +kernel
theorem dX12_isFarm_9 : decode cX12_isFarm 9 = .ok (.if_icmp .ge 7, 3) := by decide +kernel
theorem dX12_isFarm_12 : decode cX12_isFarm 12 = .ok (.iconst 1, 1) := by decide +kernel
theorem dX12_isFarm_13 : decode cX12_isFarm 13 = .ok (.goto 4, 3) := by decide +kernel
theorem dX12_isFarm_16 : decode cX12_isFarm 16 = .ok (.iconst 0, 1) := by decide +kernel
theorem dX12_isFarm_17 : decode cX12_isFarm 17 = .ok (.ireturn, 1) := by decide +kernel
theorem dX12_notches_0 : decode cX12_notches 0 = .ok (.aload_n 0, 1) := by decide +kernel
theorem dX12_notches_1 : decode cX12_notches 1 = .ok (.iconst 0, 1) := by decide +kernel
theorem dX12_notches_2 : decode cX12_notches 2 = .ok (.putfield 120, 3) := by decide +kernel
theorem dX12_notches_5 : decode cX12_notches 5 = .ok (.aload_n 0, 1) := by decide +kernel
theorem dX12_notches_6 : decode cX12_notches 6 = .ok (.iload_n 1, 1) := by decide +kernel
theorem dX12_notches_7 : decode cX12_notches 7 = .ok (.bipush 8, 2) := by decide +kernel
theorem dX12_notches_9 : decode cX12_notches 9 = .ok (.bipush 40, 2) := by decide +kernel
theorem dX12_notches_11 : decode cX12_notches 11 = .ok (.invokevirtual 138, 3) := by decide +kernel
theorem dX12_notches_14 : decode cX12_notches 14 = .ok (.ifCond .eq 10, 3) := by decide +kernel
theorem dX12_notches_17 : decode cX12_notches 17 = .ok (.iload_n 1, 1) := by decide +kernel
theorem dX12_notches_18 : decode cX12_notches 18 = .ok (.iconst 2, 1) := by decide +kernel
theorem dX12_notches_19 : decode cX12_notches 19 = .ok (.irem, 1) := by decide +kernel
theorem dX12_notches_20 : decode cX12_notches 20 = .ok (.iconst 1, 1) := by decide +kernel
theorem dX12_notches_21 : decode cX12_notches 21 = .ok (.if_icmp .ne 5, 3) := by decide +kernel
theorem dX12_notches_24 : decode cX12_notches 24 = .ok (.iconst 0, 1) := by decide +kernel
theorem dX12_notches_25 : decode cX12_notches 25 = .ok (.ireturn, 1) := by decide +kernel
theorem dX12_notches_26 : decode cX12_notches 26 = .ok (.aload_n 0, 1) := by decide +kernel
theorem dX12_notches_27 : decode cX12_notches 27 = .ok (.iload_n 1, 1) := by decide +kernel
theorem dX12_notches_28 : decode cX12_notches 28 = .ok (.putfield 16, 3) := by decide +kernel
theorem dX12_notches_31 : decode cX12_notches 31 = .ok (.aload_n 0, 1) := by decide +kernel
theorem dX12_notches_32 : decode cX12_notches 32 = .ok (.getfield 7, 3) := by decide +kernel
theorem dX12_notches_35 : decode cX12_notches 35 = .ok (.iconst 5, 1) := by decide +kernel
theorem dX12_notches_36 : decode cX12_notches 36 = .ok (.iaload, 1) := by decide +kernel
theorem dX12_notches_37 : decode cX12_notches 37 = .ok (.istore_n 2, 1) := by decide +kernel
theorem dX12_notches_38 : decode cX12_notches 38 = .ok (.iconst 0, 1) := by decide +kernel
theorem dX12_notches_39 : decode cX12_notches 39 = .ok (.istore_n 3, 1) := by decide +kernel
theorem dX12_notches_40 : decode cX12_notches 40 = .ok (.iload_n 3, 1) := by decide +kernel
theorem dX12_notches_41 : decode cX12_notches 41 = .ok (.sipush 160, 3) := by decide +kernel
theorem dX12_notches_44 : decode cX12_notches 44 = .ok (.if_icmp .ge 16, 3) := by decide +kernel
theorem dX12_notches_47 : decode cX12_notches 47 = .ok (.aload_n 0, 1) := by decide +kernel
theorem dX12_notches_48 : decode cX12_notches 48 = .ok (.getfield 7, 3) := by decide +kernel
theorem dX12_notches_51 : decode cX12_notches 51 = .ok (.iload_n 3, 1) := by decide +kernel
theorem dX12_notches_52 : decode cX12_notches 52 = .ok (.iconst 0, 1) := by decide +kernel
theorem dX12_notches_53 : decode cX12_notches 53 = .ok (.iastore, 1) := by decide +kernel
theorem dX12_notches_54 : decode cX12_notches 54 = .ok (.iinc 3 1, 3) := by decide +kernel
theorem dX12_notches_57 : decode cX12_notches 57 = .ok (.goto (-17), 3) := by decide +kernel
theorem dX12_notches_60 : decode cX12_notches 60 = .ok (.aload_n 0, 1) := by decide +kernel
theorem dX12_notches_61 : decode cX12_notches 61 = .ok (.getfield 7, 3) := by decide +kernel
theorem dX12_notches_64 : decode cX12_notches 64 = .ok (.iconst 5, 1) := by decide +kernel
theorem dX12_notches_65 : decode cX12_notches 65 = .ok (.iload_n 2, 1) := by decide +kernel
theorem dX12_notches_66 : decode cX12_notches 66 = .ok (.iastore, 1) := by decide +kernel
theorem dX12_notches_67 : decode cX12_notches 67 = .ok (.aload_n 0, 1) := by decide +kernel
theorem dX12_notches_68 : decode cX12_notches 68 = .ok (.iconst 0, 1) := by decide +kernel
theorem dX12_notches_69 : decode cX12_notches 69 = .ok (.putfield 123, 3) := by decide +kernel
theorem dX12_notches_72 : decode cX12_notches 72 = .ok (.aload_n 0, 1) := by decide +kernel
theorem dX12_notches_73 : decode cX12_notches 73 = .ok (.iconst 0, 1) := by decide +kernel
theorem dX12_notches_74 : decode cX12_notches 74 = .ok (.putfield 142, 3) := by decide +kernel
theorem dX12_notches_77 : decode cX12_notches 77 = .ok (.aload_n 0, 1) := by decide +kernel
theorem dX12_notches_78 : decode cX12_notches 78 = .ok (.iconst 0, 1) := by decide +kernel
theorem dX12_notches_79 : decode cX12_notches 79 = .ok (.putfield 135, 3) := by decide +kernel
theorem dX12_notches_82 : decode cX12_notches 82 = .ok (.aload_n 0, 1) := by decide +kernel
theorem dX12_notches_83 : decode cX12_notches 83 = .ok (.iconst 0, 1) := by decide +kernel
theorem dX12_notches_84 : decode cX12_notches 84 = .ok (.putfield 145, 3) := by decide +kernel
theorem dX12_notches_87 : decode cX12_notches 87 = .ok (.aload_n 0, 1) := by decide +kernel
theorem dX12_notches_88 : decode cX12_notches 88 = .ok (.iconst 0, 1) := by decide +kernel
theorem dX12_notches_89 : decode cX12_notches 89 = .ok (.putfield 148, 3) := by decide +kernel
theorem dX12_notches_92 : decode cX12_notches 92 = .ok (.aload_n 0, 1) := by decide +kernel
theorem dX12_notches_93 : decode cX12_notches 93 = .ok (.iconst 0, 1) := by decide +kernel
theorem dX12_notches_94 : decode cX12_notches 94 = .ok (.putfield 151, 3) := by decide +kernel
theorem dX12_notches_97 : decode cX12_notches 97 = .ok (.aload_n 0, 1) := by decide +kernel
theorem dX12_notches_98 : decode cX12_notches 98 = .ok (.iconst 0, 1) := by decide +kernel
theorem dX12_notches_99 : decode cX12_notches 99 = .ok (.putfield 154, 3) := by decide +kernel
theorem dX12_notches_102 : decode cX12_notches 102 = .ok (.aload_n 0, 1) := by decide +kernel
theorem dX12_notches_103 : decode cX12_notches 103 = .ok (.iconst 0, 1) := by decide +kernel
theorem dX12_notches_104 : decode cX12_notches 104 = .ok (.putfield 157, 3) := by decide +kernel
theorem dX12_notches_107 : decode cX12_notches 107 = .ok (.aload_n 0, 1) := by decide +kernel
theorem dX12_notches_108 : decode cX12_notches 108 = .ok (.iconst 0, 1) := by decide +kernel
theorem dX12_notches_109 : decode cX12_notches 109 = .ok (.putfield 160, 3) := by decide +kernel
theorem dX12_notches_112 : decode cX12_notches 112 = .ok (.iconst 0, 1) := by decide +kernel
theorem dX12_notches_113 : decode cX12_notches 113 = .ok (.istore_n 3, 1) := by decide +kernel
theorem dX12_notches_114 : decode cX12_notches 114 = .ok (.iload_n 3, 1) := by decide +kernel
theorem dX12_notches_115 : decode cX12_notches 115 = .ok (.bipush 40, 2) := by decide +kernel
theorem dX12_notches_117 : decode cX12_notches 117 = .ok (.if_icmp .ge 16, 3) := by decide +kernel
theorem dX12_notches_120 : decode cX12_notches 120 = .ok (.aload_n 0, 1) := by decide +kernel
theorem dX12_notches_121 : decode cX12_notches 121 = .ok (.getfield 41, 3) := by decide +kernel
theorem dX12_notches_124 : decode cX12_notches 124 = .ok (.iload_n 3, 1) := by decide +kernel
theorem dX12_notches_125 : decode cX12_notches 125 = .ok (.iconst 0, 1) := by decide +kernel
theorem dX12_notches_126 : decode cX12_notches 126 = .ok (.iastore, 1) := by decide +kernel
theorem dX12_notches_127 : decode cX12_notches 127 = .ok (.iinc 3 1, 3) := by decide +kernel
theorem dX12_notches_130 : decode cX12_notches 130 = .ok (.goto (-16), 3) := by decide +kernel
theorem dX12_notches_133 : decode cX12_notches 133 = .ok (.iconst 0, 1) := by decide +kernel
theorem dX12_notches_134 : decode cX12_notches 134 = .ok (.istore_n 3, 1) := by decide +kernel
theorem dX12_notches_135 : decode cX12_notches 135 = .ok (.iload_n 3, 1) := by decide +kernel
theorem dX12_notches_136 : decode cX12_notches 136 = .ok (.bipush 24, 2) := by decide +kernel
theorem dX12_notches_138 : decode cX12_notches 138 = .ok (.if_icmp .ge 16, 3) := by decide +kernel
theorem dX12_notches_141 : decode cX12_notches 141 = .ok (.aload_n 0, 1) := by decide +kernel
theorem dX12_notches_142 : decode cX12_notches 142 = .ok (.getfield 44, 3) := by decide +kernel
theorem dX12_notches_145 : decode cX12_notches 145 = .ok (.iload_n 3, 1) := by decide +kernel
theorem dX12_notches_146 : decode cX12_notches 146 = .ok (.iconst 0, 1) := by decide +kernel
theorem dX12_notches_147 : decode cX12_notches 147 = .ok (.iastore, 1) := by decide +kernel
theorem dX12_notches_148 : decode cX12_notches 148 = .ok (.iinc 3 1, 3) := by decide +kernel
theorem dX12_notches_151 : decode cX12_notches 151 = .ok (.goto (-16), 3) := by decide +kernel
theorem dX12_notches_154 : decode cX12_notches 154 = .ok (.iconst 0, 1) := by decide +kernel
theorem dX12_notches_155 : decode cX12_notches 155 = .ok (.istore_n 3, 1) := by decide +kernel
theorem dX12_notches_156 : decode cX12_notches 156 = .ok (.iload_n 3, 1) := by decide +kernel
theorem dX12_notches_157 : decode cX12_notches 157 = .ok (.bipush 9, 2) := by decide +kernel
theorem dX12_notches_159 : decode cX12_notches 159 = .ok (.if_icmp .ge 16, 3) := by decide +kernel
theorem dX12_notches_162 : decode cX12_notches 162 = .ok (.aload_n 0, 1) := by decide +kernel
theorem dX12_notches_163 : decode cX12_notches 163 = .ok (.getfield 62, 3) := by decide +kernel
theorem dX12_notches_166 : decode cX12_notches 166 = .ok (.iload_n 3, 1) := by decide +kernel
theorem dX12_notches_167 : decode cX12_notches 167 = .ok (.iconst 0, 1) := by decide +kernel
theorem dX12_notches_168 : decode cX12_notches 168 = .ok (.iastore, 1) := by decide +kernel
theorem dX12_notches_169 : decode cX12_notches 169 = .ok (.iinc 3 1, 3) := by decide +kernel
theorem dX12_notches_172 : decode cX12_notches 172 = .ok (.goto (-16), 3) := by decide +kernel
theorem dX12_notches_175 : decode cX12_notches 175 = .ok (.iconst 1, 1) := by decide +kernel
theorem dX12_notches_176 : decode cX12_notches 176 = .ok (.ireturn, 1) := by decide +kernel
theorem dX12_bucket_0 : decode cX12_bucket 0 = .ok (.aload_n 0, 1) := by decide +kernel
theorem dX12_bucket_1 : decode cX12_bucket 1 = .ok (.iconst 0, 1) := by decide +kernel
theorem dX12_bucket_2 : decode cX12_bucket 2 = .ok (.putfield 120, 3) := by decide +kernel
theorem dX12_bucket_5 : decode cX12_bucket 5 = .ok (.aload_n 0, 1) := by decide +kernel
theorem dX12_bucket_6 : decode cX12_bucket 6 = .ok (.iload_n 1, 1) := by decide +kernel
theorem dX12_bucket_7 : decode cX12_bucket 7 = .ok (.iconst 0, 1) := by decide +kernel
theorem dX12_bucket_8 : decode cX12_bucket 8 = .ok (.aload_n 0, 1) := by decide +kernel
theorem dX12_bucket_9 : decode cX12_bucket 9 = .ok (.getfield 16, 3) := by decide +kernel
theorem dX12_bucket_12 : decode cX12_bucket 12 = .ok (.iconst 1, 1) := by decide +kernel
theorem dX12_bucket_13 : decode cX12_bucket 13 = .ok (.isub, 1) := by decide +kernel
theorem dX12_bucket_14 : decode cX12_bucket 14 = .ok (.invokevirtual 138, 3) := by decide +kernel
theorem dX12_bucket_17 : decode cX12_bucket 17 = .ok (.ifCond .eq 34, 3) := by decide +kernel
theorem dX12_bucket_20 : decode cX12_bucket 20 = .ok (.aload_n 0, 1) := by decide +kernel
theorem dX12_bucket_21 : decode cX12_bucket 21 = .ok (.iload_n 2, 1) := by decide +kernel
theorem dX12_bucket_22 : decode cX12_bucket 22 = .ok (.iconst 1, 1) := by decide +kernel
theorem dX12_bucket_23 : decode cX12_bucket 23 = .ok (.bipush 99, 2) := by decide +kernel
theorem dX12_bucket_25 : decode cX12_bucket 25 = .ok (.invokevirtual 138, 3) := by decide +kernel
theorem dX12_bucket_28 : decode cX12_bucket 28 = .ok (.ifCond .eq 23, 3) := by decide +kernel
theorem dX12_bucket_31 : decode cX12_bucket 31 = .ok (.aload_n 0, 1) := by decide +kernel
theorem dX12_bucket_32 : decode cX12_bucket 32 = .ok (.iload_n 3, 1) := by decide +kernel
theorem dX12_bucket_33 : decode cX12_bucket 33 = .ok (.iconst 0, 1) := by decide +kernel
theorem dX12_bucket_34 : decode cX12_bucket 34 = .ok (.bipush 99, 2) := by decide +kernel
theorem dX12_bucket_36 : decode cX12_bucket 36 = .ok (.invokevirtual 138, 3) := by decide +kernel
theorem dX12_bucket_39 : decode cX12_bucket 39 = .ok (.ifCond .eq 12, 3) := by decide +kernel
theorem dX12_bucket_42 : decode cX12_bucket 42 = .ok (.aload_n 0, 1) := by decide +kernel
theorem dX12_bucket_43 : decode cX12_bucket 43 = .ok (.getfield 142, 3) := by decide +kernel
theorem dX12_bucket_46 : decode cX12_bucket 46 = .ok (.bipush 10, 2) := by decide +kernel
theorem dX12_bucket_48 : decode cX12_bucket 48 = .ok (.if_icmp .ne 5, 3) := by decide +kernel
theorem dX12_bucket_51 : decode cX12_bucket 51 = .ok (.iconst (-1), 1) := by decide +kernel
theorem dX12_bucket_52 : decode cX12_bucket 52 = .ok (.ireturn, 1) := by decide +kernel
theorem dX12_bucket_53 : decode cX12_bucket 53 = .ok (.iconst 0, 1) := by decide +kernel
theorem dX12_bucket_54 : decode cX12_bucket 54 = .ok (.istore 4, 2) := by decide +kernel
theorem dX12_bucket_56 : decode cX12_bucket 56 = .ok (.iload 4, 2) := by decide +kernel
theorem dX12_bucket_58 : decode cX12_bucket 58 = .ok (.aload_n 0, 1) := by decide +kernel
theorem dX12_bucket_59 : decode cX12_bucket 59 = .ok (.getfield 142, 3) := by decide +kernel
theorem dX12_bucket_62 : decode cX12_bucket 62 = .ok (.if_icmp .ge 22, 3) := by decide +kernel
theorem dX12_bucket_65 : decode cX12_bucket 65 = .ok (.aload_n 0, 1) := by decide +kernel
theorem dX12_bucket_66 : decode cX12_bucket 66 = .ok (.getfield 20, 3) := by decide +kernel
theorem dX12_bucket_69 : decode cX12_bucket 69 = .ok (.iload 4, 2) := by decide +kernel
theorem dX12_bucket_71 : decode cX12_bucket 71 = .ok (.iaload, 1) := by decide +kernel
theorem dX12_bucket_72 : decode cX12_bucket 72 = .ok (.iload_n 1, 1) := by decide +kernel
theorem dX12_bucket_73 : decode cX12_bucket 73 = .ok (.if_icmp .ne 5, 3) := by decide +kernel
theorem dX12_bucket_76 : decode cX12_bucket 76 = .ok (.iconst (-1), 1) := by decide +kernel
theorem dX12_bucket_77 : decode cX12_bucket 77 = .ok (.ireturn, 1) := by decide +kernel
theorem dX12_bucket_78 : decode cX12_bucket 78 = .ok (.iinc 4 1, 3) := by decide +kernel
theorem dX12_bucket_81 : decode cX12_bucket 81 = .ok (.goto (-25), 3) := by decide +kernel
theorem dX12_bucket_84 : decode cX12_bucket 84 = .ok (.aload_n 0, 1) := by decide +kernel
theorem dX12_bucket_85 : decode cX12_bucket 85 = .ok (.getfield 20, 3) := by decide +kernel
theorem dX12_bucket_88 : decode cX12_bucket 88 = .ok (.aload_n 0, 1) := by decide +kernel
theorem dX12_bucket_89 : decode cX12_bucket 89 = .ok (.getfield 142, 3) := by decide +kernel
theorem dX12_bucket_92 : decode cX12_bucket 92 = .ok (.iload_n 1, 1) := by decide +kernel
theorem dX12_bucket_93 : decode cX12_bucket 93 = .ok (.iastore, 1) := by decide +kernel
theorem dX12_bucket_94 : decode cX12_bucket 94 = .ok (.aload_n 0, 1) := by decide +kernel
theorem dX12_bucket_95 : decode cX12_bucket 95 = .ok (.getfield 23, 3) := by decide +kernel
theorem dX12_bucket_98 : decode cX12_bucket 98 = .ok (.aload_n 0, 1) := by decide +kernel
theorem dX12_bucket_99 : decode cX12_bucket 99 = .ok (.getfield 142, 3) := by decide +kernel
theorem dX12_bucket_102 : decode cX12_bucket 102 = .ok (.iload_n 2, 1) := by decide +kernel
theorem dX12_bucket_103 : decode cX12_bucket 103 = .ok (.iastore, 1) := by decide +kernel
theorem dX12_bucket_104 : decode cX12_bucket 104 = .ok (.aload_n 0, 1) := by decide +kernel
theorem dX12_bucket_105 : decode cX12_bucket 105 = .ok (.getfield 26, 3) := by decide +kernel
theorem dX12_bucket_108 : decode cX12_bucket 108 = .ok (.aload_n 0, 1) := by decide +kernel
theorem dX12_bucket_109 : decode cX12_bucket 109 = .ok (.getfield 142, 3) := by decide +kernel
theorem dX12_bucket_112 : decode cX12_bucket 112 = .ok (.iload_n 3, 1) := by decide +kernel
theorem dX12_bucket_113 : decode cX12_bucket 113 = .ok (.iastore, 1) := by decide +kernel
theorem dX12_bucket_114 : decode cX12_bucket 114 = .ok (.aload_n 0, 1) := by decide +kernel
theorem dX12_bucket_115 : decode cX12_bucket 115 = .ok (.getfield 7, 3) := by decide +kernel
theorem dX12_bucket_118 : decode cX12_bucket 118 = .ok (.bipush 7, 2) := by decide +kernel
theorem dX12_bucket_120 : decode cX12_bucket 120 = .ok (.aload_n 0, 1) := by decide +kernel
theorem dX12_bucket_121 : decode cX12_bucket 121 = .ok (.getfield 142, 3) := by decide +kernel
theorem dX12_bucket_124 : decode cX12_bucket 124 = .ok (.iadd, 1) := by decide +kernel
theorem dX12_bucket_125 : decode cX12_bucket 125 = .ok (.iconst 0, 1) := by decide +kernel
theorem dX12_bucket_126 : decode cX12_bucket 126 = .ok (.iastore, 1) := by decide +kernel
theorem dX12_bucket_127 : decode cX12_bucket 127 = .ok (.aload_n 0, 1) := by decide +kernel
theorem dX12_bucket_128 : decode cX12_bucket 128 = .ok (.aload_n 0, 1) := by decide +kernel
theorem dX12_bucket_129 : decode cX12_bucket 129 = .ok (.getfield 142, 3) := by decide +kernel
theorem dX12_bucket_132 : decode cX12_bucket 132 = .ok (.iconst 1, 1) := by decide +kernel
theorem dX12_bucket_133 : decode cX12_bucket 133 = .ok (.iadd, 1) := by decide +kernel
theorem dX12_bucket_134 : decode cX12_bucket 134 = .ok (.putfield 142, 3) := by decide +kernel
theorem dX12_bucket_137 : decode cX12_bucket 137 = .ok (.aload_n 0, 1) := by decide +kernel
theorem dX12_bucket_138 : decode cX12_bucket 138 = .ok (.iconst 0, 1) := by decide +kernel
theorem dX12_bucket_139 : decode cX12_bucket 139 = .ok (.putfield 123, 3) := by decide +kernel
theorem dX12_bucket_142 : decode cX12_bucket 142 = .ok (.aload_n 0, 1) := by decide +kernel
theorem dX12_bucket_143 : decode cX12_bucket 143 = .ok (.getfield 142, 3) := by decide +kernel
theorem dX12_bucket_146 : decode cX12_bucket 146 = .ok (.iconst 1, 1) := by decide +kernel
theorem dX12_bucket_147 : decode cX12_bucket 147 = .ok (.isub, 1) := by decide +kernel
theorem dX12_bucket_148 : decode cX12_bucket 148 = .ok (.ireturn, 1) := by decide +kernel
theorem dX12_farm_0 : decode cX12_farm 0 = .ok (.aload_n 0, 1) := by decide +kernel
theorem dX12_farm_1 : decode cX12_farm 1 = .ok (.iconst 0, 1) := by decide +kernel
theorem dX12_farm_2 : decode cX12_farm 2 = .ok (.putfield 120, 3) := by decide +kernel
theorem dX12_farm_5 : decode cX12_farm 5 = .ok (.aload_n 0, 1) := by decide +kernel
theorem dX12_farm_6 : decode cX12_farm 6 = .ok (.iload_n 1, 1) := by decide +kernel
theorem dX12_farm_7 : decode cX12_farm 7 = .ok (.iconst 0, 1) := by decide +kernel
theorem dX12_farm_8 : decode cX12_farm 8 = .ok (.bipush 60, 2) := by decide +kernel
theorem dX12_farm_10 : decode cX12_farm 10 = .ok (.invokevirtual 138, 3) := by decide +kernel
theorem dX12_farm_13 : decode cX12_farm 13 = .ok (.ifCond .eq 47, 3) := by decide +kernel
theorem dX12_farm_16 : decode cX12_farm 16 = .ok (.aload_n 0, 1) := by decide +kernel
theorem dX12_farm_17 : decode cX12_farm 17 = .ok (.iload_n 2, 1) := by decide +kernel
theorem dX12_farm_18 : decode cX12_farm 18 = .ok (.iconst 0, 1) := by decide +kernel
theorem dX12_farm_19 : decode cX12_farm 19 = .ok (.bipush 60, 2) := by decide +kernel
theorem dX12_farm_21 : decode cX12_farm 21 = .ok (.invokevirtual 138, 3) := by decide +kernel
theorem dX12_farm_24 : decode cX12_farm 24 = .ok (.ifCond .eq 36, 3) := by decide +kernel
theorem dX12_farm_27 : decode cX12_farm 27 = .ok (.aload_n 0, 1) := by decide +kernel
theorem dX12_farm_28 : decode cX12_farm 28 = .ok (.iload_n 3, 1) := by decide +kernel
theorem dX12_farm_29 : decode cX12_farm 29 = .ok (.iconst 0, 1) := by decide +kernel
theorem dX12_farm_30 : decode cX12_farm 30 = .ok (.bipush 9, 2) := by decide +kernel
theorem dX12_farm_32 : decode cX12_farm 32 = .ok (.invokevirtual 138, 3) := by decide +kernel
theorem dX12_farm_35 : decode cX12_farm 35 = .ok (.ifCond .eq 25, 3) := by decide +kernel
theorem dX12_farm_38 : decode cX12_farm 38 = .ok (.aload_n 0, 1) := by decide +kernel
theorem dX12_farm_39 : decode cX12_farm 39 = .ok (.iload 4, 2) := by decide +kernel
theorem dX12_farm_41 : decode cX12_farm 41 = .ok (.iconst 0, 1) := by decide +kernel
theorem dX12_farm_42 : decode cX12_farm 42 = .ok (.sipush 9999, 3) := by decide +kernel
theorem dX12_farm_45 : decode cX12_farm 45 = .ok (.invokevirtual 138, 3) := by decide +kernel
theorem dX12_farm_48 : decode cX12_farm 48 = .ok (.ifCond .eq 12, 3) := by decide +kernel
theorem dX12_farm_51 : decode cX12_farm 51 = .ok (.aload_n 0, 1) := by decide +kernel
theorem dX12_farm_52 : decode cX12_farm 52 = .ok (.getfield 135, 3) := by decide +kernel
theorem dX12_farm_55 : decode cX12_farm 55 = .ok (.bipush 9, 2) := by decide +kernel
theorem dX12_farm_57 : decode cX12_farm 57 = .ok (.if_icmp .ne 5, 3) := by decide +kernel
theorem dX12_farm_60 : decode cX12_farm 60 = .ok (.iconst (-1), 1) := by decide +kernel
theorem dX12_farm_61 : decode cX12_farm 61 = .ok (.ireturn, 1) := by decide +kernel
theorem dX12_farm_62 : decode cX12_farm 62 = .ok (.aload_n 0, 1) := by decide +kernel
theorem dX12_farm_63 : decode cX12_farm 63 = .ok (.getfield 29, 3) := by decide +kernel
theorem dX12_farm_66 : decode cX12_farm 66 = .ok (.aload_n 0, 1) := by decide +kernel
theorem dX12_farm_67 : decode cX12_farm 67 = .ok (.getfield 135, 3) := by decide +kernel
theorem dX12_farm_70 : decode cX12_farm 70 = .ok (.iload_n 1, 1) := by decide +kernel
theorem dX12_farm_71 : decode cX12_farm 71 = .ok (.iastore, 1) := by decide +kernel
theorem dX12_farm_72 : decode cX12_farm 72 = .ok (.aload_n 0, 1) := by decide +kernel
theorem dX12_farm_73 : decode cX12_farm 73 = .ok (.getfield 32, 3) := by decide +kernel
theorem dX12_farm_76 : decode cX12_farm 76 = .ok (.aload_n 0, 1) := by decide +kernel
theorem dX12_farm_77 : decode cX12_farm 77 = .ok (.getfield 135, 3) := by decide +kernel
theorem dX12_farm_80 : decode cX12_farm 80 = .ok (.iload_n 2, 1) := by decide +kernel
theorem dX12_farm_81 : decode cX12_farm 81 = .ok (.iastore, 1) := by decide +kernel
theorem dX12_farm_82 : decode cX12_farm 82 = .ok (.aload_n 0, 1) := by decide +kernel
theorem dX12_farm_83 : decode cX12_farm 83 = .ok (.getfield 35, 3) := by decide +kernel
theorem dX12_farm_86 : decode cX12_farm 86 = .ok (.aload_n 0, 1) := by decide +kernel
theorem dX12_farm_87 : decode cX12_farm 87 = .ok (.getfield 135, 3) := by decide +kernel
theorem dX12_farm_90 : decode cX12_farm 90 = .ok (.iload_n 3, 1) := by decide +kernel
theorem dX12_farm_91 : decode cX12_farm 91 = .ok (.iastore, 1) := by decide +kernel
theorem dX12_farm_92 : decode cX12_farm 92 = .ok (.aload_n 0, 1) := by decide +kernel
theorem dX12_farm_93 : decode cX12_farm 93 = .ok (.getfield 38, 3) := by decide +kernel
theorem dX12_farm_96 : decode cX12_farm 96 = .ok (.aload_n 0, 1) := by decide +kernel
theorem dX12_farm_97 : decode cX12_farm 97 = .ok (.getfield 135, 3) := by decide +kernel
theorem dX12_farm_100 : decode cX12_farm 100 = .ok (.iload 4, 2) := by decide +kernel
theorem dX12_farm_102 : decode cX12_farm 102 = .ok (.iastore, 1) := by decide +kernel
theorem dX12_farm_103 : decode cX12_farm 103 = .ok (.aload_n 0, 1) := by decide +kernel
theorem dX12_farm_104 : decode cX12_farm 104 = .ok (.aload_n 0, 1) := by decide +kernel
theorem dX12_farm_105 : decode cX12_farm 105 = .ok (.getfield 135, 3) := by decide +kernel
theorem dX12_farm_108 : decode cX12_farm 108 = .ok (.iconst 1, 1) := by decide +kernel
theorem dX12_farm_109 : decode cX12_farm 109 = .ok (.iadd, 1) := by decide +kernel
theorem dX12_farm_110 : decode cX12_farm 110 = .ok (.putfield 135, 3) := by decide +kernel
theorem dX12_farm_113 : decode cX12_farm 113 = .ok (.aload_n 0, 1) := by decide +kernel
theorem dX12_farm_114 : decode cX12_farm 114 = .ok (.iconst 0, 1) := by decide +kernel
theorem dX12_farm_115 : decode cX12_farm 115 = .ok (.putfield 123, 3) := by decide +kernel
theorem dX12_farm_118 : decode cX12_farm 118 = .ok (.aload_n 0, 1) := by decide +kernel
theorem dX12_farm_119 : decode cX12_farm 119 = .ok (.getfield 135, 3) := by decide +kernel
theorem dX12_farm_122 : decode cX12_farm 122 = .ok (.iconst 1, 1) := by decide +kernel
theorem dX12_farm_123 : decode cX12_farm 123 = .ok (.isub, 1) := by decide +kernel
theorem dX12_farm_124 : decode cX12_farm 124 = .ok (.ireturn, 1) := by decide +kernel
theorem dX12_allDrops_0 : decode cX12_allDrops 0 = .ok (.aload_n 0, 1) := by decide +kernel
theorem dX12_allDrops_1 : decode cX12_allDrops 1 = .ok (.getfield 7, 3) := by decide +kernel
theorem dX12_allDrops_4 : decode cX12_allDrops 4 = .ok (.iconst 0, 1) := by decide +kernel
theorem dX12_allDrops_5 : decode cX12_allDrops 5 = .ok (.iaload, 1) := by decide +kernel
theorem dX12_allDrops_6 : decode cX12_allDrops 6 = .ok (.aload_n 0, 1) := by decide +kernel
theorem dX12_allDrops_7 : decode cX12_allDrops 7 = .ok (.getfield 7, 3) := by decide +kernel
theorem dX12_allDrops_10 : decode cX12_allDrops 10 = .ok (.iconst 1, 1) := by decide +kernel
theorem dX12_allDrops_11 : decode cX12_allDrops 11 = .ok (.iaload, 1) := by decide +kernel
theorem dX12_allDrops_12 : decode cX12_allDrops 12 = .ok (.iadd, 1) := by decide +kernel
theorem dX12_allDrops_13 : decode cX12_allDrops 13 = .ok (.istore_n 1, 1) := by decide +kernel
theorem dX12_allDrops_14 : decode cX12_allDrops 14 = .ok (.iconst 0, 1) := by decide +kernel
theorem dX12_allDrops_15 : decode cX12_allDrops 15 = .ok (.istore_n 2, 1) := by decide +kernel
theorem dX12_allDrops_16 : decode cX12_allDrops 16 = .ok (.iload_n 2, 1) := by decide +kernel
theorem dX12_allDrops_17 : decode cX12_allDrops 17 = .ok (.aload_n 0, 1) := by decide +kernel
theorem dX12_allDrops_18 : decode cX12_allDrops 18 = .ok (.getfield 142, 3) := by decide +kernel
theorem dX12_allDrops_21 : decode cX12_allDrops 21 = .ok (.if_icmp .ge 21, 3) := by decide +kernel
theorem dX12_allDrops_24 : decode cX12_allDrops 24 = .ok (.iload_n 1, 1) := by decide +kernel
theorem dX12_allDrops_25 : decode cX12_allDrops 25 = .ok (.aload_n 0, 1) := by decide +kernel
theorem dX12_allDrops_26 : decode cX12_allDrops 26 = .ok (.getfield 7, 3) := by decide +kernel
theorem dX12_allDrops_29 : decode cX12_allDrops 29 = .ok (.bipush 7, 2) := by decide +kernel
theorem dX12_allDrops_31 : decode cX12_allDrops 31 = .ok (.iload_n 2, 1) := by decide +kernel
theorem dX12_allDrops_32 : decode cX12_allDrops 32 = .ok (.iadd, 1) := by decide +kernel
theorem dX12_allDrops_33 : decode cX12_allDrops 33 = .ok (.iaload, 1) := by decide +kernel
theorem dX12_allDrops_34 : decode cX12_allDrops 34 = .ok (.iadd, 1) := by decide +kernel
theorem dX12_allDrops_35 : decode cX12_allDrops 35 = .ok (.istore_n 1, 1) := by decide +kernel
theorem dX12_allDrops_36 : decode cX12_allDrops 36 = .ok (.iinc 2 1, 3) := by decide +kernel
theorem dX12_allDrops_39 : decode cX12_allDrops 39 = .ok (.goto (-23), 3) := by decide +kernel
theorem dX12_allDrops_42 : decode cX12_allDrops 42 = .ok (.iconst 0, 1) := by decide +kernel
theorem dX12_allDrops_43 : decode cX12_allDrops 43 = .ok (.istore_n 2, 1) := by decide +kernel
theorem dX12_allDrops_44 : decode cX12_allDrops 44 = .ok (.iload_n 2, 1) := by decide +kernel
theorem dX12_allDrops_45 : decode cX12_allDrops 45 = .ok (.aload_n 0, 1) := by decide +kernel
theorem dX12_allDrops_46 : decode cX12_allDrops 46 = .ok (.getfield 135, 3) := by decide +kernel
theorem dX12_allDrops_49 : decode cX12_allDrops 49 = .ok (.if_icmp .ge 21, 3) := by decide +kernel
theorem dX12_allDrops_52 : decode cX12_allDrops 52 = .ok (.iload_n 1, 1) := by decide +kernel
theorem dX12_allDrops_53 : decode cX12_allDrops 53 = .ok (.aload_n 0, 1) := by decide +kernel
theorem dX12_allDrops_54 : decode cX12_allDrops 54 = .ok (.getfield 7, 3) := by decide +kernel
theorem dX12_allDrops_57 : decode cX12_allDrops 57 = .ok (.bipush 17, 2) := by decide +kernel
theorem dX12_allDrops_59 : decode cX12_allDrops 59 = .ok (.iload_n 2, 1) := by decide +kernel
theorem dX12_allDrops_60 : decode cX12_allDrops 60 = .ok (.iadd, 1) := by decide +kernel
theorem dX12_allDrops_61 : decode cX12_allDrops 61 = .ok (.iaload, 1) := by decide +kernel
theorem dX12_allDrops_62 : decode cX12_allDrops 62 = .ok (.iadd, 1) := by decide +kernel
theorem dX12_allDrops_63 : decode cX12_allDrops 63 = .ok (.istore_n 1, 1) := by decide +kernel
theorem dX12_allDrops_64 : decode cX12_allDrops 64 = .ok (.iinc 2 1, 3) := by decide +kernel
theorem dX12_allDrops_67 : decode cX12_allDrops 67 = .ok (.goto (-23), 3) := by decide +kernel
theorem dX12_allDrops_70 : decode cX12_allDrops 70 = .ok (.iload_n 1, 1) := by decide +kernel
theorem dX12_allDrops_71 : decode cX12_allDrops 71 = .ok (.ireturn, 1) := by decide +kernel
theorem dX12_canTell_0 : decode cX12_canTell 0 = .ok (.iload_n 1, 1) := by decide +kernel
theorem dX12_canTell_1 : decode cX12_canTell 1 = .ok (.ifCond .lt 36, 3) := by decide +kernel
theorem dX12_canTell_4 : decode cX12_canTell 4 = .ok (.iload_n 1, 1) := by decide +kernel
theorem dX12_canTell_5 : decode cX12_canTell 5 = .ok (.iconst 4, 1) := by decide +kernel
theorem dX12_canTell_6 : decode cX12_canTell 6 = .ok (.if_icmp .ge 11, 3) := by decide +kernel
theorem dX12_canTell_9 : decode cX12_canTell 9 = .ok (.aload_n 0, 1) := by decide +kernel
theorem dX12_canTell_10 : decode cX12_canTell 10 = .ok (.iload_n 2, 1) := by decide +kernel
theorem dX12_canTell_11 : decode cX12_canTell 11 = .ok (.invokevirtual 163, 3) := by decide +kernel
theorem dX12_canTell_14 : decode cX12_canTell 14 = .ok (.ifCond .eq 23, 3) := by decide +kernel
theorem dX12_canTell_17 : decode cX12_canTell 17 = .ok (.iload_n 1, 1) := by decide +kernel
theorem dX12_canTell_18 : decode cX12_canTell 18 = .ok (.iconst 4, 1) := by decide +kernel
theorem dX12_canTell_19 : decode cX12_canTell 19 = .ok (.if_icmp .ne 20, 3) := by decide +kernel
theorem dX12_canTell_22 : decode cX12_canTell 22 = .ok (.aload_n 0, 1) := by decide +kernel
theorem dX12_canTell_23 : decode cX12_canTell 23 = .ok (.iload_n 2, 1) := by decide +kernel
theorem dX12_canTell_24 : decode cX12_canTell 24 = .ok (.iconst 0, 1) := by decide +kernel
theorem dX12_canTell_25 : decode cX12_canTell 25 = .ok (.aload_n 0, 1) := by decide +kernel
theorem dX12_canTell_26 : decode cX12_canTell 26 = .ok (.getfield 142, 3) := by decide +kernel
theorem dX12_canTell_29 : decode cX12_canTell 29 = .ok (.iconst 1, 1) := by decide +kernel
theorem dX12_canTell_30 : decode cX12_canTell 30 = .ok (.isub, 1) := by decide +kernel
theorem dX12_canTell_31 : decode cX12_canTell 31 = .ok (.invokevirtual 138, 3) := by decide +kernel
theorem dX12_canTell_34 : decode cX12_canTell 34 = .ok (.ifCond .ne 5, 3) := by decide +kernel
theorem dX12_canTell_37 : decode cX12_canTell 37 = .ok (.iconst 0, 1) := by decide +kernel
theorem dX12_canTell_38 : decode cX12_canTell 38 = .ok (.ireturn, 1) := by decide +kernel
theorem dX12_canTell_39 : decode cX12_canTell 39 = .ok (.iload_n 1, 1) := by decide +kernel
theorem dX12_canTell_40 : decode cX12_canTell 40 = .ok (.iconst 2, 1) := by decide +kernel
theorem dX12_canTell_41 : decode cX12_canTell 41 = .ok (.if_icmp .ge 12, 3) := by decide +kernel
theorem dX12_canTell_44 : decode cX12_canTell 44 = .ok (.aload_n 0, 1) := by decide +kernel
theorem dX12_canTell_45 : decode cX12_canTell 45 = .ok (.iload_n 3, 1) := by decide +kernel
theorem dX12_canTell_46 : decode cX12_canTell 46 = .ok (.iconst 0, 1) := by decide +kernel
theorem dX12_canTell_47 : decode cX12_canTell 47 = .ok (.bipush 60, 2) := by decide +kernel
theorem dX12_canTell_49 : decode cX12_canTell 49 = .ok (.invokevirtual 138, 3) := by decide +kernel
theorem dX12_canTell_52 : decode cX12_canTell 52 = .ok (.ireturn, 1) := by decide +kernel
theorem dX12_canTell_53 : decode cX12_canTell 53 = .ok (.iload_n 1, 1) := by decide +kernel
theorem dX12_canTell_54 : decode cX12_canTell 54 = .ok (.iconst 2, 1) := by decide +kernel
theorem dX12_canTell_55 : decode cX12_canTell 55 = .ok (.if_icmp .ne 12, 3) := by decide +kernel
theorem dX12_canTell_58 : decode cX12_canTell 58 = .ok (.aload_n 0, 1) := by decide +kernel
theorem dX12_canTell_59 : decode cX12_canTell 59 = .ok (.iload_n 3, 1) := by decide +kernel
theorem dX12_canTell_60 : decode cX12_canTell 60 = .ok (.iconst 0, 1) := by decide +kernel
theorem dX12_canTell_61 : decode cX12_canTell 61 = .ok (.bipush 9, 2) := by decide +kernel
theorem dX12_canTell_63 : decode cX12_canTell 63 = .ok (.invokevirtual 138, 3) := by decide +kernel
theorem dX12_canTell_66 : decode cX12_canTell 66 = .ok (.ireturn, 1) := by decide +kernel
theorem dX12_canTell_67 : decode cX12_canTell 67 = .ok (.iload_n 1, 1) := by decide +kernel
theorem dX12_canTell_68 : decode cX12_canTell 68 = .ok (.iconst 3, 1) := by decide +kernel
theorem dX12_canTell_69 : decode cX12_canTell 69 = .ok (.if_icmp .ne 13, 3) := by decide +kernel
theorem dX12_canTell_72 : decode cX12_canTell 72 = .ok (.aload_n 0, 1) := by decide +kernel
theorem dX12_canTell_73 : decode cX12_canTell 73 = .ok (.iload_n 3, 1) := by decide +kernel
theorem dX12_canTell_74 : decode cX12_canTell 74 = .ok (.iconst 0, 1) := by decide +kernel
theorem dX12_canTell_75 : decode cX12_canTell 75 = .ok (.sipush 9999, 3) := by decide +kernel
theorem dX12_canTell_78 : decode cX12_canTell 78 = .ok (.invokevirtual 138, 3) := by decide +kernel
theorem dX12_canTell_81 : decode cX12_canTell 81 = .ok (.ireturn, 1) := by decide +kernel
theorem dX12_canTell_82 : decode cX12_canTell 82 = .ok (.iload_n 1, 1) := by decide +kernel
theorem dX12_canTell_83 : decode cX12_canTell 83 = .ok (.iconst 4, 1) := by decide +kernel
theorem dX12_canTell_84 : decode cX12_canTell 84 = .ok (.if_icmp .ne 12, 3) := by decide +kernel
theorem dX12_canTell_87 : decode cX12_canTell 87 = .ok (.aload_n 0, 1) := by decide +kernel
theorem dX12_canTell_88 : decode cX12_canTell 88 = .ok (.iload_n 3, 1) := by decide +kernel
theorem dX12_canTell_89 : decode cX12_canTell 89 = .ok (.iconst 0, 1) := by decide +kernel
theorem dX12_canTell_90 : decode cX12_canTell 90 = .ok (.bipush 99, 2) := by decide +kernel
theorem dX12_canTell_92 : decode cX12_canTell 92 = .ok (.invokevirtual 138, 3) := by decide +kernel
theorem dX12_canTell_95 : decode cX12_canTell 95 = .ok (.ireturn, 1) := by decide +kernel
theorem dX12_canTell_96 : decode cX12_canTell 96 = .ok (.iload_n 1, 1) := by decide +kernel
theorem dX12_canTell_97 : decode cX12_canTell 97 = .ok (.iconst 5, 1) := by decide +kernel
theorem dX12_canTell_98 : decode cX12_canTell 98 = .ok (.if_icmp .ne 47, 3) := by decide +kernel
theorem dX12_canTell_101 : decode cX12_canTell 101 = .ok (.aload_n 0, 1) := by decide +kernel
theorem dX12_canTell_102 : decode cX12_canTell 102 = .ok (.iload_n 2, 1) := by decide +kernel
theorem dX12_canTell_103 : decode cX12_canTell 103 = .ok (.iconst 1, 1) := by decide +kernel
theorem dX12_canTell_104 : decode cX12_canTell 104 = .ok (.aload_n 0, 1) := by decide +kernel
theorem dX12_canTell_105 : decode cX12_canTell 105 = .ok (.getfield 16, 3) := by decide +kernel
theorem dX12_canTell_108 : decode cX12_canTell 108 = .ok (.iconst 1, 1) := by decide +kernel
theorem dX12_canTell_109 : decode cX12_canTell 109 = .ok (.isub, 1) := by decide +kernel
theorem dX12_canTell_110 : decode cX12_canTell 110 = .ok (.invokevirtual 138, 3) := by decide +kernel
theorem dX12_canTell_113 : decode cX12_canTell 113 = .ok (.ifCond .eq 30, 3) := by decide +kernel
theorem dX12_canTell_116 : decode cX12_canTell 116 = .ok (.iload_n 2, 1) := by decide +kernel
theorem dX12_canTell_117 : decode cX12_canTell 117 = .ok (.aload_n 0, 1) := by decide +kernel
theorem dX12_canTell_118 : decode cX12_canTell 118 = .ok (.getfield 16, 3) := by decide +kernel
theorem dX12_canTell_121 : decode cX12_canTell 121 = .ok (.iconst 2, 1) := by decide +kernel
theorem dX12_canTell_122 : decode cX12_canTell 122 = .ok (.idiv, 1) := by decide +kernel
theorem dX12_canTell_123 : decode cX12_canTell 123 = .ok (.if_icmp .eq 20, 3) := by decide +kernel
theorem dX12_canTell_126 : decode cX12_canTell 126 = .ok (.iload_n 3, 1) := by decide +kernel
theorem dX12_canTell_127 : decode cX12_canTell 127 = .ok (.iconst (-1), 1) := by decide +kernel
theorem dX12_canTell_128 : decode cX12_canTell 128 = .ok (.if_icmp .eq 11, 3) := by decide +kernel
theorem dX12_canTell_131 : decode cX12_canTell 131 = .ok (.aload_n 0, 1) := by decide +kernel
theorem dX12_canTell_132 : decode cX12_canTell 132 = .ok (.iload_n 3, 1) := by decide +kernel
theorem dX12_canTell_133 : decode cX12_canTell 133 = .ok (.invokevirtual 163, 3) := by decide +kernel
theorem dX12_canTell_136 : decode cX12_canTell 136 = .ok (.ifCond .eq 7, 3) := by decide +kernel
theorem dX12_canTell_139 : decode cX12_canTell 139 = .ok (.iconst 1, 1) := by decide +kernel
theorem dX12_canTell_140 : decode cX12_canTell 140 = .ok (.goto 4, 3) := by decide +kernel
theorem dX12_canTell_143 : decode cX12_canTell 143 = .ok (.iconst 0, 1) := by decide +kernel
theorem dX12_canTell_144 : decode cX12_canTell 144 = .ok (.ireturn, 1) := by decide +kernel
theorem dX12_canTell_145 : decode cX12_canTell 145 = .ok (.iload_n 1, 1) := by decide +kernel
theorem dX12_canTell_146 : decode cX12_canTell 146 = .ok (.bipush 6, 2) := by decide +kernel
theorem dX12_canTell_148 : decode cX12_canTell 148 = .ok (.if_icmp .ne 38, 3) := by decide +kernel
theorem dX12_canTell_151 : decode cX12_canTell 151 = .ok (.aload_n 0, 1) := by decide +kernel
theorem dX12_canTell_152 : decode cX12_canTell 152 = .ok (.iload_n 3, 1) := by decide +kernel
theorem dX12_canTell_153 : decode cX12_canTell 153 = .ok (.iconst 0, 1) := by decide +kernel
theorem dX12_canTell_154 : decode cX12_canTell 154 = .ok (.ldc 167, 2) := by decide +kernel
theorem dX12_canTell_156 : decode cX12_canTell 156 = .ok (.invokevirtual 138, 3) := by decide +kernel
theorem dX12_canTell_159 : decode cX12_canTell 159 = .ok (.ifCond .eq 25, 3) := by decide +kernel
theorem dX12_canTell_162 : decode cX12_canTell 162 = .ok (.aload_n 0, 1) := by decide +kernel
theorem dX12_canTell_163 : decode cX12_canTell 163 = .ok (.invokevirtual 168, 3) := by decide +kernel
theorem dX12_canTell_166 : decode cX12_canTell 166 = .ok (.aload_n 0, 1) := by decide +kernel
theorem dX12_canTell_167 : decode cX12_canTell 167 = .ok (.getfield 7, 3) := by decide +kernel
theorem dX12_canTell_170 : decode cX12_canTell 170 = .ok (.iconst 0, 1) := by decide +kernel
theorem dX12_canTell_171 : decode cX12_canTell 171 = .ok (.iaload, 1) := by decide +kernel
theorem dX12_canTell_172 : decode cX12_canTell 172 = .ok (.isub, 1) := by decide +kernel
theorem dX12_canTell_173 : decode cX12_canTell 173 = .ok (.iload_n 3, 1) := by decide +kernel
theorem dX12_canTell_174 : decode cX12_canTell 174 = .ok (.iadd, 1) := by decide +kernel
theorem dX12_canTell_175 : decode cX12_canTell 175 = .ok (.ldc 172, 2) := by decide +kernel
theorem dX12_canTell_177 : decode cX12_canTell 177 = .ok (.if_icmp .gt 7, 3) := by decide +kernel
theorem dX12_canTell_180 : decode cX12_canTell 180 = .ok (.iconst 1, 1) := by decide +kernel
theorem dX12_canTell_181 : decode cX12_canTell 181 = .ok (.goto 4, 3) := by decide +kernel
theorem dX12_canTell_184 : decode cX12_canTell 184 = .ok (.iconst 0, 1) := by decide +kernel
theorem dX12_canTell_185 : decode cX12_canTell 185 = .ok (.ireturn, 1) := by decide +kernel
theorem dX12_canTell_186 : decode cX12_canTell 186 = .ok (.iload_n 1, 1) := by decide +kernel
theorem dX12_canTell_187 : decode cX12_canTell 187 = .ok (.bipush 7, 2) := by decide +kernel
theorem dX12_canTell_189 : decode cX12_canTell 189 = .ok (.if_icmp .ne 14, 3) := by decide +kernel
theorem dX12_canTell_192 : decode cX12_canTell 192 = .ok (.aload_n 0, 1) := by decide +kernel
theorem dX12_canTell_193 : decode cX12_canTell 193 = .ok (.iload_n 3, 1) := by decide +kernel
theorem dX12_canTell_194 : decode cX12_canTell 194 = .ok (.iconst 0, 1) := by decide +kernel
theorem dX12_canTell_195 : decode cX12_canTell 195 = .ok (.bipush 60, 2) := by decide +kernel
theorem dX12_canTell_197 : decode cX12_canTell 197 = .ok (.invokevirtual 138, 3) := by decide +kernel
theorem dX12_canTell_200 : decode cX12_canTell 200 = .ok (.goto 26, 3) := by decide +kernel
theorem dX12_canTell_203 : decode cX12_canTell 203 = .ok (.iload_n 1, 1) := by decide +kernel
theorem dX12_canTell_204 : decode cX12_canTell 204 = .ok (.bipush 8, 2) := by decide +kernel
theorem dX12_canTell_206 : decode cX12_canTell 206 = .ok (.if_icmp .ne 19, 3) := by decide +kernel
theorem dX12_canTell_209 : decode cX12_canTell 209 = .ok (.aload_n 0, 1) := by decide +kernel
theorem dX12_canTell_210 : decode cX12_canTell 210 = .ok (.iload_n 3, 1) := by decide +kernel
theorem dX12_canTell_211 : decode cX12_canTell 211 = .ok (.iconst 0, 1) := by decide +kernel
theorem dX12_canTell_212 : decode cX12_canTell 212 = .ok (.sipush 1000, 3) := by decide +kernel
theorem dX12_canTell_215 : decode cX12_canTell 215 = .ok (.invokevirtual 138, 3) := by decide +kernel
theorem dX12_canTell_218 : decode cX12_canTell 218 = .ok (.ifCond .eq 7, 3) := by decide +kernel
theorem dX12_canTell_221 : decode cX12_canTell 221 = .ok (.iconst 1, 1) := by decide +kernel
theorem dX12_canTell_222 : decode cX12_canTell 222 = .ok (.goto 4, 3) := by decide +kernel
theorem dX12_canTell_225 : decode cX12_canTell 225 = .ok (.iconst 0, 1) := by decide +kernel
theorem dX12_canTell_226 : decode cX12_canTell 226 = .ok (.ireturn, 1) := by decide +kernel
theorem dX12_tell_0 : decode cX12_tell 0 = .ok (.aload_n 0, 1) := by decide +kernel
theorem dX12_tell_1 : decode cX12_tell 1 = .ok (.iconst 0, 1) := by decide +kernel
theorem dX12_tell_2 : decode cX12_tell 2 = .ok (.putfield 120, 3) := by decide +kernel
theorem dX12_tell_5 : decode cX12_tell 5 = .ok (.aload_n 0, 1) := by decide +kernel
theorem dX12_tell_6 : decode cX12_tell 6 = .ok (.iload_n 1, 1) := by decide +kernel
theorem dX12_tell_7 : decode cX12_tell 7 = .ok (.iload_n 2, 1) := by decide +kernel
theorem dX12_tell_8 : decode cX12_tell 8 = .ok (.iload_n 3, 1) := by decide +kernel
theorem dX12_tell_9 : decode cX12_tell 9 = .ok (.invokevirtual 173, 3) := by decide +kernel
theorem dX12_tell_12 : decode cX12_tell 12 = .ok (.ifCond .ne 5, 3) := by decide +kernel
theorem dX12_tell_15 : decode cX12_tell 15 = .ok (.iconst 0, 1) := by decide +kernel
theorem dX12_tell_16 : decode cX12_tell 16 = .ok (.ireturn, 1) := by decide +kernel
theorem dX12_tell_17 : decode cX12_tell 17 = .ok (.iload_n 1, 1) := by decide +kernel
theorem dX12_tell_18 : decode cX12_tell 18 = .ok (.ifCond .ne 10, 3) := by decide +kernel
theorem dX12_tell_21 : decode cX12_tell 21 = .ok (.aload_n 0, 1) := by decide +kernel
theorem dX12_tell_22 : decode cX12_tell 22 = .ok (.getfield 29, 3) := by decide +kernel
theorem dX12_tell_25 : decode cX12_tell 25 = .ok (.iload_n 2, 1) := by decide +kernel
theorem dX12_tell_26 : decode cX12_tell 26 = .ok (.iload_n 3, 1) := by decide +kernel
theorem dX12_tell_27 : decode cX12_tell 27 = .ok (.iastore, 1) := by decide +kernel
theorem dX12_tell_28 : decode cX12_tell 28 = .ok (.iload_n 1, 1) := by decide +kernel
theorem dX12_tell_29 : decode cX12_tell 29 = .ok (.iconst 1, 1) := by decide +kernel
theorem dX12_tell_30 : decode cX12_tell 30 = .ok (.if_icmp .ne 10, 3) := by decide +kernel
theorem dX12_tell_33 : decode cX12_tell 33 = .ok (.aload_n 0, 1) := by decide +kernel
theorem dX12_tell_34 : decode cX12_tell 34 = .ok (.getfield 32, 3) := by decide +kernel
theorem dX12_tell_37 : decode cX12_tell 37 = .ok (.iload_n 2, 1) := by decide +kernel
theorem dX12_tell_38 : decode cX12_tell 38 = .ok (.iload_n 3, 1) := by decide +kernel
theorem dX12_tell_39 : decode cX12_tell 39 = .ok (.iastore, 1) := by decide +kernel
theorem dX12_tell_40 : decode cX12_tell 40 = .ok (.iload_n 1, 1) := by decide +kernel
theorem dX12_tell_41 : decode cX12_tell 41 = .ok (.iconst 2, 1) := by decide +kernel
theorem dX12_tell_42 : decode cX12_tell 42 = .ok (.if_icmp .ne 10, 3) := by decide +kernel
theorem dX12_tell_45 : decode cX12_tell 45 = .ok (.aload_n 0, 1) := by decide +kernel
theorem dX12_tell_46 : decode cX12_tell 46 = .ok (.getfield 35, 3) := by decide +kernel
theorem dX12_tell_49 : decode cX12_tell 49 = .ok (.iload_n 2, 1) := by decide +kernel
theorem dX12_tell_50 : decode cX12_tell 50 = .ok (.iload_n 3, 1) := by decide +kernel
theorem dX12_tell_51 : decode cX12_tell 51 = .ok (.iastore, 1) := by decide +kernel
theorem dX12_tell_52 : decode cX12_tell 52 = .ok (.iload_n 1, 1) := by decide +kernel
theorem dX12_tell_53 : decode cX12_tell 53 = .ok (.iconst 3, 1) := by decide +kernel
theorem dX12_tell_54 : decode cX12_tell 54 = .ok (.if_icmp .ne 10, 3) := by decide +kernel
theorem dX12_tell_57 : decode cX12_tell 57 = .ok (.aload_n 0, 1) := by decide +kernel
theorem dX12_tell_58 : decode cX12_tell 58 = .ok (.getfield 38, 3) := by decide +kernel
theorem dX12_tell_61 : decode cX12_tell 61 = .ok (.iload_n 2, 1) := by decide +kernel
theorem dX12_tell_62 : decode cX12_tell 62 = .ok (.iload_n 3, 1) := by decide +kernel
theorem dX12_tell_63 : decode cX12_tell 63 = .ok (.iastore, 1) := by decide +kernel
theorem dX12_tell_64 : decode cX12_tell 64 = .ok (.iload_n 1, 1) := by decide +kernel
theorem dX12_tell_65 : decode cX12_tell 65 = .ok (.iconst 4, 1) := by decide +kernel
theorem dX12_tell_66 : decode cX12_tell 66 = .ok (.if_icmp .ne 10, 3) := by decide +kernel
theorem dX12_tell_69 : decode cX12_tell 69 = .ok (.aload_n 0, 1) := by decide +kernel
theorem dX12_tell_70 : decode cX12_tell 70 = .ok (.getfield 26, 3) := by decide +kernel
theorem dX12_tell_73 : decode cX12_tell 73 = .ok (.iload_n 2, 1) := by decide +kernel
theorem dX12_tell_74 : decode cX12_tell 74 = .ok (.iload_n 3, 1) := by decide +kernel
theorem dX12_tell_75 : decode cX12_tell 75 = .ok (.iastore, 1) := by decide +kernel
theorem dX12_tell_76 : decode cX12_tell 76 = .ok (.iload_n 1, 1) := by decide +kernel
theorem dX12_tell_77 : decode cX12_tell 77 = .ok (.iconst 5, 1) := by decide +kernel
theorem dX12_tell_78 : decode cX12_tell 78 = .ok (.if_icmp .ne 12, 3) := by decide +kernel
theorem dX12_tell_81 : decode cX12_tell 81 = .ok (.aload_n 0, 1) := by decide +kernel
theorem dX12_tell_82 : decode cX12_tell 82 = .ok (.getfield 41, 3) := by decide +kernel
theorem dX12_tell_85 : decode cX12_tell 85 = .ok (.iload_n 2, 1) := by decide +kernel
theorem dX12_tell_86 : decode cX12_tell 86 = .ok (.iload_n 3, 1) := by decide +kernel
theorem dX12_tell_87 : decode cX12_tell 87 = .ok (.iconst 1, 1) := by decide +kernel
theorem dX12_tell_88 : decode cX12_tell 88 = .ok (.iadd, 1) := by decide +kernel
theorem dX12_tell_89 : decode cX12_tell 89 = .ok (.iastore, 1) := by decide +kernel
theorem dX12_tell_90 : decode cX12_tell 90 = .ok (.iload_n 1, 1) := by decide +kernel
theorem dX12_tell_91 : decode cX12_tell 91 = .ok (.bipush 6, 2) := by decide +kernel
theorem dX12_tell_93 : decode cX12_tell 93 = .ok (.if_icmp .ne 10, 3) := by decide +kernel
theorem dX12_tell_96 : decode cX12_tell 96 = .ok (.aload_n 0, 1) := by decide +kernel
theorem dX12_tell_97 : decode cX12_tell 97 = .ok (.getfield 7, 3) := by decide +kernel
theorem dX12_tell_100 : decode cX12_tell 100 = .ok (.iconst 0, 1) := by decide +kernel
theorem dX12_tell_101 : decode cX12_tell 101 = .ok (.iload_n 3, 1) := by decide +kernel
theorem dX12_tell_102 : decode cX12_tell 102 = .ok (.iastore, 1) := by decide +kernel
theorem dX12_tell_103 : decode cX12_tell 103 = .ok (.iload_n 1, 1) := by decide +kernel
theorem dX12_tell_104 : decode cX12_tell 104 = .ok (.bipush 7, 2) := by decide +kernel
theorem dX12_tell_106 : decode cX12_tell 106 = .ok (.if_icmp .ne 8, 3) := by decide +kernel
theorem dX12_tell_109 : decode cX12_tell 109 = .ok (.aload_n 0, 1) := by decide +kernel
theorem dX12_tell_110 : decode cX12_tell 110 = .ok (.iload_n 3, 1) := by decide +kernel
theorem dX12_tell_111 : decode cX12_tell 111 = .ok (.putfield 154, 3) := by decide +kernel
theorem dX12_tell_114 : decode cX12_tell 114 = .ok (.iload_n 1, 1) := by decide +kernel
theorem dX12_tell_115 : decode cX12_tell 115 = .ok (.bipush 8, 2) := by decide +kernel
theorem dX12_tell_117 : decode cX12_tell 117 = .ok (.if_icmp .ne 8, 3) := by decide +kernel
theorem dX12_tell_120 : decode cX12_tell 120 = .ok (.aload_n 0, 1) := by decide +kernel
theorem dX12_tell_121 : decode cX12_tell 121 = .ok (.iload_n 3, 1) := by decide +kernel
theorem dX12_tell_122 : decode cX12_tell 122 = .ok (.putfield 157, 3) := by decide +kernel
theorem dX12_tell_125 : decode cX12_tell 125 = .ok (.aload_n 0, 1) := by decide +kernel
theorem dX12_tell_126 : decode cX12_tell 126 = .ok (.iconst 0, 1) := by decide +kernel
theorem dX12_tell_127 : decode cX12_tell 127 = .ok (.putfield 123, 3) := by decide +kernel
theorem dX12_tell_130 : decode cX12_tell 130 = .ok (.iconst 1, 1) := by decide +kernel
theorem dX12_tell_131 : decode cX12_tell 131 = .ok (.ireturn, 1) := by decide +kernel
theorem dX12_turn_0 : decode cX12_turn 0 = .ok (.aload_n 0, 1) := by decide +kernel
theorem dX12_turn_1 : decode cX12_turn 1 = .ok (.iconst 0, 1) := by decide +kernel
theorem dX12_turn_2 : decode cX12_turn 2 = .ok (.putfield 120, 3) := by decide +kernel
theorem dX12_turn_5 : decode cX12_turn 5 = .ok (.aload_n 0, 1) := by decide +kernel
theorem dX12_turn_6 : decode cX12_turn 6 = .ok (.iload_n 1, 1) := by decide +kernel
theorem dX12_turn_7 : decode cX12_turn 7 = .ok (.iconst 0, 1) := by decide +kernel
theorem dX12_turn_8 : decode cX12_turn 8 = .ok (.bipush 23, 2) := by decide +kernel
theorem dX12_turn_10 : decode cX12_turn 10 = .ok (.invokevirtual 138, 3) := by decide +kernel
theorem dX12_turn_13 : decode cX12_turn 13 = .ok (.ifCond .eq 16, 3) := by decide +kernel
theorem dX12_turn_16 : decode cX12_turn 16 = .ok (.iload_n 2, 1) := by decide +kernel
theorem dX12_turn_17 : decode cX12_turn 17 = .ok (.iconst (-1), 1) := by decide +kernel
theorem dX12_turn_18 : decode cX12_turn 18 = .ok (.if_icmp .eq 13, 3) := by decide +kernel
theorem dX12_turn_21 : decode cX12_turn 21 = .ok (.aload_n 0, 1) := by decide +kernel
theorem dX12_turn_22 : decode cX12_turn 22 = .ok (.iload_n 2, 1) := by decide +kernel
theorem dX12_turn_23 : decode cX12_turn 23 = .ok (.invokevirtual 163, 3) := by decide +kernel
theorem dX12_turn_26 : decode cX12_turn 26 = .ok (.ifCond .ne 5, 3) := by decide +kernel
theorem dX12_turn_29 : decode cX12_turn 29 = .ok (.iconst 0, 1) := by decide +kernel
theorem dX12_turn_30 : decode cX12_turn 30 = .ok (.ireturn, 1) := by decide +kernel
theorem dX12_turn_31 : decode cX12_turn 31 = .ok (.aload_n 0, 1) := by decide +kernel
theorem dX12_turn_32 : decode cX12_turn 32 = .ok (.getfield 44, 3) := by decide +kernel
theorem dX12_turn_35 : decode cX12_turn 35 = .ok (.iload_n 1, 1) := by decide +kernel
theorem dX12_turn_36 : decode cX12_turn 36 = .ok (.iload_n 2, 1) := by decide +kernel
theorem dX12_turn_37 : decode cX12_turn 37 = .ok (.iconst 1, 1) := by decide +kernel
theorem dX12_turn_38 : decode cX12_turn 38 = .ok (.iadd, 1) := by decide +kernel
theorem dX12_turn_39 : decode cX12_turn 39 = .ok (.iastore, 1) := by decide +kernel
theorem dX12_turn_40 : decode cX12_turn 40 = .ok (.iconst 1, 1) := by decide +kernel
theorem dX12_turn_41 : decode cX12_turn 41 = .ok (.ireturn, 1) := by decide +kernel
theorem dX12_absent_0 : decode cX12_absent 0 = .ok (.aload_n 0, 1) := by decide +kernel
theorem dX12_absent_1 : decode cX12_absent 1 = .ok (.iconst 0, 1) := by decide +kernel
theorem dX12_absent_2 : decode cX12_absent 2 = .ok (.putfield 120, 3) := by decide +kernel
theorem dX12_absent_5 : decode cX12_absent 5 = .ok (.aload_n 0, 1) := by decide +kernel
theorem dX12_absent_6 : decode cX12_absent 6 = .ok (.iload_n 1, 1) := by decide +kernel
theorem dX12_absent_7 : decode cX12_absent 7 = .ok (.invokevirtual 163, 3) := by decide +kernel
theorem dX12_absent_10 : decode cX12_absent 10 = .ok (.ifCond .eq 37, 3) := by decide +kernel
theorem dX12_absent_13 : decode cX12_absent 13 = .ok (.aload_n 0, 1) := by decide +kernel
theorem dX12_absent_14 : decode cX12_absent 14 = .ok (.iload_n 3, 1) := by decide +kernel
theorem dX12_absent_15 : decode cX12_absent 15 = .ok (.invokevirtual 163, 3) := by decide +kernel
theorem dX12_absent_18 : decode cX12_absent 18 = .ok (.ifCond .eq 29, 3) := by decide +kernel
theorem dX12_absent_21 : decode cX12_absent 21 = .ok (.iload_n 1, 1) := by decide +kernel
theorem dX12_absent_22 : decode cX12_absent 22 = .ok (.iload_n 3, 1) := by decide +kernel
theorem dX12_absent_23 : decode cX12_absent 23 = .ok (.if_icmp .eq 24, 3) := by decide +kernel
theorem dX12_absent_26 : decode cX12_absent 26 = .ok (.aload_n 0, 1) := by decide +kernel
theorem dX12_absent_27 : decode cX12_absent 27 = .ok (.iload_n 2, 1) := by decide +kernel
theorem dX12_absent_28 : decode cX12_absent 28 = .ok (.iconst 0, 1) := by decide +kernel
theorem dX12_absent_29 : decode cX12_absent 29 = .ok (.sipush 9999, 3) := by decide +kernel
theorem dX12_absent_32 : decode cX12_absent 32 = .ok (.invokevirtual 138, 3) := by decide +kernel
theorem dX12_absent_35 : decode cX12_absent 35 = .ok (.ifCond .eq 12, 3) := by decide +kernel
theorem dX12_absent_38 : decode cX12_absent 38 = .ok (.aload_n 0, 1) := by decide +kernel
theorem dX12_absent_39 : decode cX12_absent 39 = .ok (.getfield 148, 3) := by decide +kernel
theorem dX12_absent_42 : decode cX12_absent 42 = .ok (.bipush 30, 2) := by decide +kernel
theorem dX12_absent_44 : decode cX12_absent 44 = .ok (.if_icmp .ne 5, 3) := by decide +kernel
theorem dX12_absent_47 : decode cX12_absent 47 = .ok (.iconst 0, 1) := by decide +kernel
theorem dX12_absent_48 : decode cX12_absent 48 = .ok (.ireturn, 1) := by decide +kernel
theorem dX12_absent_49 : decode cX12_absent 49 = .ok (.iconst 0, 1) := by decide +kernel
theorem dX12_absent_50 : decode cX12_absent 50 = .ok (.istore 4, 2) := by decide +kernel
theorem dX12_absent_52 : decode cX12_absent 52 = .ok (.iload 4, 2) := by decide +kernel
theorem dX12_absent_54 : decode cX12_absent 54 = .ok (.aload_n 0, 1) := by decide +kernel
theorem dX12_absent_55 : decode cX12_absent 55 = .ok (.getfield 148, 3) := by decide +kernel
theorem dX12_absent_58 : decode cX12_absent 58 = .ok (.if_icmp .ge 69, 3) := by decide +kernel
theorem dX12_absent_61 : decode cX12_absent 61 = .ok (.aload_n 0, 1) := by decide +kernel
theorem dX12_absent_62 : decode cX12_absent 62 = .ok (.getfield 56, 3) := by decide +kernel
theorem dX12_absent_65 : decode cX12_absent 65 = .ok (.iload 4, 2) := by decide +kernel
theorem dX12_absent_67 : decode cX12_absent 67 = .ok (.iaload, 1) := by decide +kernel
theorem dX12_absent_68 : decode cX12_absent 68 = .ok (.iload_n 2, 1) := by decide +kernel
theorem dX12_absent_69 : decode cX12_absent 69 = .ok (.if_icmp .eq 6, 3) := by decide +kernel
theorem dX12_absent_72 : decode cX12_absent 72 = .ok (.goto 49, 3) := by decide +kernel
theorem dX12_absent_75 : decode cX12_absent 75 = .ok (.aload_n 0, 1) := by decide +kernel
theorem dX12_absent_76 : decode cX12_absent 76 = .ok (.getfield 53, 3) := by decide +kernel
theorem dX12_absent_79 : decode cX12_absent 79 = .ok (.iload 4, 2) := by decide +kernel
theorem dX12_absent_81 : decode cX12_absent 81 = .ok (.iaload, 1) := by decide +kernel
theorem dX12_absent_82 : decode cX12_absent 82 = .ok (.iload_n 1, 1) := by decide +kernel
theorem dX12_absent_83 : decode cX12_absent 83 = .ok (.if_icmp .eq 36, 3) := by decide +kernel
theorem dX12_absent_86 : decode cX12_absent 86 = .ok (.aload_n 0, 1) := by decide +kernel
theorem dX12_absent_87 : decode cX12_absent 87 = .ok (.getfield 53, 3) := by decide +kernel
theorem dX12_absent_90 : decode cX12_absent 90 = .ok (.iload 4, 2) := by decide +kernel
theorem dX12_absent_92 : decode cX12_absent 92 = .ok (.iaload, 1) := by decide +kernel
theorem dX12_absent_93 : decode cX12_absent 93 = .ok (.iload_n 3, 1) := by decide +kernel
theorem dX12_absent_94 : decode cX12_absent 94 = .ok (.if_icmp .eq 25, 3) := by decide +kernel
theorem dX12_absent_97 : decode cX12_absent 97 = .ok (.aload_n 0, 1) := by decide +kernel
theorem dX12_absent_98 : decode cX12_absent 98 = .ok (.getfield 59, 3) := by decide +kernel
theorem dX12_absent_101 : decode cX12_absent 101 = .ok (.iload 4, 2) := by decide +kernel
theorem dX12_absent_103 : decode cX12_absent 103 = .ok (.iaload, 1) := by decide +kernel
theorem dX12_absent_104 : decode cX12_absent 104 = .ok (.iload_n 1, 1) := by decide +kernel
theorem dX12_absent_105 : decode cX12_absent 105 = .ok (.if_icmp .eq 14, 3) := by decide +kernel
theorem dX12_absent_108 : decode cX12_absent 108 = .ok (.aload_n 0, 1) := by decide +kernel
theorem dX12_absent_109 : decode cX12_absent 109 = .ok (.getfield 59, 3) := by decide +kernel
theorem dX12_absent_112 : decode cX12_absent 112 = .ok (.iload 4, 2) := by decide +kernel
theorem dX12_absent_114 : decode cX12_absent 114 = .ok (.iaload, 1) := by decide +kernel
theorem dX12_absent_115 : decode cX12_absent 115 = .ok (.iload_n 3, 1) := by decide +kernel
theorem dX12_absent_116 : decode cX12_absent 116 = .ok (.if_icmp .ne 5, 3) := by decide +kernel
theorem dX12_absent_119 : decode cX12_absent 119 = .ok (.iconst 0, 1) := by decide +kernel
theorem dX12_absent_120 : decode cX12_absent 120 = .ok (.ireturn, 1) := by decide +kernel
theorem dX12_absent_121 : decode cX12_absent 121 = .ok (.iinc 4 1, 3) := by decide +kernel
theorem dX12_absent_124 : decode cX12_absent 124 = .ok (.goto (-72), 3) := by decide +kernel
theorem dX12_absent_127 : decode cX12_absent 127 = .ok (.aload_n 0, 1) := by decide +kernel
theorem dX12_absent_128 : decode cX12_absent 128 = .ok (.getfield 53, 3) := by decide +kernel
theorem dX12_absent_131 : decode cX12_absent 131 = .ok (.aload_n 0, 1) := by decide +kernel
theorem dX12_absent_132 : decode cX12_absent 132 = .ok (.getfield 148, 3) := by decide +kernel
theorem dX12_absent_135 : decode cX12_absent 135 = .ok (.iload_n 1, 1) := by decide +kernel
theorem dX12_absent_136 : decode cX12_absent 136 = .ok (.iastore, 1) := by decide +kernel
theorem dX12_absent_137 : decode cX12_absent 137 = .ok (.aload_n 0, 1) := by decide +kernel
theorem dX12_absent_138 : decode cX12_absent 138 = .ok (.getfield 56, 3) := by decide +kernel
theorem dX12_absent_141 : decode cX12_absent 141 = .ok (.aload_n 0, 1) := by decide +kernel
theorem dX12_absent_142 : decode cX12_absent 142 = .ok (.getfield 148, 3) := by decide +kernel
theorem dX12_absent_145 : decode cX12_absent 145 = .ok (.iload_n 2, 1) := by decide +kernel
theorem dX12_absent_146 : decode cX12_absent 146 = .ok (.iastore, 1) := by decide +kernel
theorem dX12_absent_147 : decode cX12_absent 147 = .ok (.aload_n 0, 1) := by decide +kernel
theorem dX12_absent_148 : decode cX12_absent 148 = .ok (.getfield 59, 3) := by decide +kernel
theorem dX12_absent_151 : decode cX12_absent 151 = .ok (.aload_n 0, 1) := by decide +kernel
theorem dX12_absent_152 : decode cX12_absent 152 = .ok (.getfield 148, 3) := by decide +kernel
theorem dX12_absent_155 : decode cX12_absent 155 = .ok (.iload_n 3, 1) := by decide +kernel
theorem dX12_absent_156 : decode cX12_absent 156 = .ok (.iastore, 1) := by decide +kernel
theorem dX12_absent_157 : decode cX12_absent 157 = .ok (.aload_n 0, 1) := by decide +kernel
theorem dX12_absent_158 : decode cX12_absent 158 = .ok (.aload_n 0, 1) := by decide +kernel
theorem dX12_absent_159 : decode cX12_absent 159 = .ok (.getfield 148, 3) := by decide +kernel
theorem dX12_absent_162 : decode cX12_absent 162 = .ok (.iconst 1, 1) := by decide +kernel
theorem dX12_absent_163 : decode cX12_absent 163 = .ok (.iadd, 1) := by decide +kernel
theorem dX12_absent_164 : decode cX12_absent 164 = .ok (.putfield 148, 3) := by decide +kernel
theorem dX12_absent_167 : decode cX12_absent 167 = .ok (.aload_n 0, 1) := by decide +kernel
theorem dX12_absent_168 : decode cX12_absent 168 = .ok (.iconst 0, 1) := by decide +kernel
theorem dX12_absent_169 : decode cX12_absent 169 = .ok (.putfield 123, 3) := by decide +kernel
theorem dX12_absent_172 : decode cX12_absent 172 = .ok (.iconst 1, 1) := by decide +kernel
theorem dX12_absent_173 : decode cX12_absent 173 = .ok (.ireturn, 1) := by decide +kernel
theorem dX12_splice_0 : decode cX12_splice 0 = .ok (.aload_n 0, 1) := by decide +kernel
theorem dX12_splice_1 : decode cX12_splice 1 = .ok (.iconst 0, 1) := by decide +kernel
theorem dX12_splice_2 : decode cX12_splice 2 = .ok (.putfield 120, 3) := by decide +kernel
theorem dX12_splice_5 : decode cX12_splice 5 = .ok (.aload_n 0, 1) := by decide +kernel
theorem dX12_splice_6 : decode cX12_splice 6 = .ok (.iload_n 1, 1) := by decide +kernel
theorem dX12_splice_7 : decode cX12_splice 7 = .ok (.iconst 0, 1) := by decide +kernel
theorem dX12_splice_8 : decode cX12_splice 8 = .ok (.ldc 176, 2) := by decide +kernel
theorem dX12_splice_10 : decode cX12_splice 10 = .ok (.invokevirtual 138, 3) := by decide +kernel
theorem dX12_splice_13 : decode cX12_splice 13 = .ok (.ifCond .eq 35, 3) := by decide +kernel
theorem dX12_splice_16 : decode cX12_splice 16 = .ok (.aload_n 0, 1) := by decide +kernel
theorem dX12_splice_17 : decode cX12_splice 17 = .ok (.iload_n 2, 1) := by decide +kernel
theorem dX12_splice_18 : decode cX12_splice 18 = .ok (.iconst 0, 1) := by decide +kernel
theorem dX12_splice_19 : decode cX12_splice 19 = .ok (.bipush 99, 2) := by decide +kernel
theorem dX12_splice_21 : decode cX12_splice 21 = .ok (.invokevirtual 138, 3) := by decide +kernel
theorem dX12_splice_24 : decode cX12_splice 24 = .ok (.ifCond .eq 24, 3) := by decide +kernel
theorem dX12_splice_27 : decode cX12_splice 27 = .ok (.aload_n 0, 1) := by decide +kernel
theorem dX12_splice_28 : decode cX12_splice 28 = .ok (.iload_n 3, 1) := by decide +kernel
theorem dX12_splice_29 : decode cX12_splice 29 = .ok (.iconst 0, 1) := by decide +kernel
theorem dX12_splice_30 : decode cX12_splice 30 = .ok (.sipush 9999, 3) := by decide +kernel
theorem dX12_splice_33 : decode cX12_splice 33 = .ok (.invokevirtual 138, 3) := by decide +kernel
theorem dX12_splice_36 : decode cX12_splice 36 = .ok (.ifCond .eq 12, 3) := by decide +kernel
theorem dX12_splice_39 : decode cX12_splice 39 = .ok (.aload_n 0, 1) := by decide +kernel
theorem dX12_splice_40 : decode cX12_splice 40 = .ok (.getfield 145, 3) := by decide +kernel
theorem dX12_splice_43 : decode cX12_splice 43 = .ok (.bipush 8, 2) := by decide +kernel
theorem dX12_splice_45 : decode cX12_splice 45 = .ok (.if_icmp .ne 5, 3) := by decide +kernel
theorem dX12_splice_48 : decode cX12_splice 48 = .ok (.iconst (-1), 1) := by decide +kernel
theorem dX12_splice_49 : decode cX12_splice 49 = .ok (.ireturn, 1) := by decide +kernel
theorem dX12_splice_50 : decode cX12_splice 50 = .ok (.aload_n 0, 1) := by decide +kernel
theorem dX12_splice_51 : decode cX12_splice 51 = .ok (.getfield 7, 3) := by decide +kernel
theorem dX12_splice_54 : decode cX12_splice 54 = .ok (.sipush 152, 3) := by decide +kernel
theorem dX12_splice_57 : decode cX12_splice 57 = .ok (.aload_n 0, 1) := by decide +kernel
theorem dX12_splice_58 : decode cX12_splice 58 = .ok (.getfield 145, 3) := by decide +kernel
theorem dX12_splice_61 : decode cX12_splice 61 = .ok (.iadd, 1) := by decide +kernel
theorem dX12_splice_62 : decode cX12_splice 62 = .ok (.iload_n 1, 1) := by decide +kernel
theorem dX12_splice_63 : decode cX12_splice 63 = .ok (.iastore, 1) := by decide +kernel
theorem dX12_splice_64 : decode cX12_splice 64 = .ok (.aload_n 0, 1) := by decide +kernel
theorem dX12_splice_65 : decode cX12_splice 65 = .ok (.getfield 47, 3) := by decide +kernel
theorem dX12_splice_68 : decode cX12_splice 68 = .ok (.aload_n 0, 1) := by decide +kernel
theorem dX12_splice_69 : decode cX12_splice 69 = .ok (.getfield 145, 3) := by decide +kernel
theorem dX12_splice_72 : decode cX12_splice 72 = .ok (.iload_n 2, 1) := by decide +kernel
theorem dX12_splice_73 : decode cX12_splice 73 = .ok (.iastore, 1) := by decide +kernel
theorem dX12_splice_74 : decode cX12_splice 74 = .ok (.aload_n 0, 1) := by decide +kernel
theorem dX12_splice_75 : decode cX12_splice 75 = .ok (.getfield 50, 3) := by decide +kernel
theorem dX12_splice_78 : decode cX12_splice 78 = .ok (.aload_n 0, 1) := by decide +kernel
theorem dX12_splice_79 : decode cX12_splice 79 = .ok (.getfield 145, 3) := by decide +kernel
theorem dX12_splice_82 : decode cX12_splice 82 = .ok (.iload_n 3, 1) := by decide +kernel
theorem dX12_splice_83 : decode cX12_splice 83 = .ok (.iastore, 1) := by decide +kernel
theorem dX12_splice_84 : decode cX12_splice 84 = .ok (.aload_n 0, 1) := by decide +kernel
theorem dX12_splice_85 : decode cX12_splice 85 = .ok (.aload_n 0, 1) := by decide +kernel
theorem dX12_splice_86 : decode cX12_splice 86 = .ok (.getfield 145, 3) := by decide +kernel
theorem dX12_splice_89 : decode cX12_splice 89 = .ok (.iconst 1, 1) := by decide +kernel
theorem dX12_splice_90 : decode cX12_splice 90 = .ok (.iadd, 1) := by decide +kernel
theorem dX12_splice_91 : decode cX12_splice 91 = .ok (.putfield 145, 3) := by decide +kernel
theorem dX12_splice_94 : decode cX12_splice 94 = .ok (.aload_n 0, 1) := by decide +kernel
theorem dX12_splice_95 : decode cX12_splice 95 = .ok (.iconst 0, 1) := by decide +kernel
theorem dX12_splice_96 : decode cX12_splice 96 = .ok (.putfield 123, 3) := by decide +kernel
theorem dX12_splice_99 : decode cX12_splice 99 = .ok (.aload_n 0, 1) := by decide +kernel
theorem dX12_splice_100 : decode cX12_splice 100 = .ok (.getfield 145, 3) := by decide +kernel
theorem dX12_splice_103 : decode cX12_splice 103 = .ok (.iconst 1, 1) := by decide +kernel
theorem dX12_splice_104 : decode cX12_splice 104 = .ok (.isub, 1) := by decide +kernel
theorem dX12_splice_105 : decode cX12_splice 105 = .ok (.ireturn, 1) := by decide +kernel
theorem dX12_mend_0 : decode cX12_mend 0 = .ok (.aload_n 0, 1) := by decide +kernel
theorem dX12_mend_1 : decode cX12_mend 1 = .ok (.iconst 0, 1) := by decide +kernel
theorem dX12_mend_2 : decode cX12_mend 2 = .ok (.putfield 120, 3) := by decide +kernel
theorem dX12_mend_5 : decode cX12_mend 5 = .ok (.aload_n 0, 1) := by decide +kernel
theorem dX12_mend_6 : decode cX12_mend 6 = .ok (.iload_n 1, 1) := by decide +kernel
theorem dX12_mend_7 : decode cX12_mend 7 = .ok (.iconst 0, 1) := by decide +kernel
theorem dX12_mend_8 : decode cX12_mend 8 = .ok (.aload_n 0, 1) := by decide +kernel
theorem dX12_mend_9 : decode cX12_mend 9 = .ok (.getfield 145, 3) := by decide +kernel
theorem dX12_mend_12 : decode cX12_mend 12 = .ok (.iconst 1, 1) := by decide +kernel
theorem dX12_mend_13 : decode cX12_mend 13 = .ok (.isub, 1) := by decide +kernel
theorem dX12_mend_14 : decode cX12_mend 14 = .ok (.invokevirtual 138, 3) := by decide +kernel
theorem dX12_mend_17 : decode cX12_mend 17 = .ok (.ifCond .eq 14, 3) := by decide +kernel
theorem dX12_mend_20 : decode cX12_mend 20 = .ok (.aload_n 0, 1) := by decide +kernel
theorem dX12_mend_21 : decode cX12_mend 21 = .ok (.iload_n 2, 1) := by decide +kernel
theorem dX12_mend_22 : decode cX12_mend 22 = .ok (.iconst 1, 1) := by decide +kernel
theorem dX12_mend_23 : decode cX12_mend 23 = .ok (.ldc 176, 2) := by decide +kernel
theorem dX12_mend_25 : decode cX12_mend 25 = .ok (.invokevirtual 138, 3) := by decide +kernel
theorem dX12_mend_28 : decode cX12_mend 28 = .ok (.ifCond .ne 5, 3) := by decide +kernel
theorem dX12_mend_31 : decode cX12_mend 31 = .ok (.iconst 0, 1) := by decide +kernel
theorem dX12_mend_32 : decode cX12_mend 32 = .ok (.ireturn, 1) := by decide +kernel
theorem dX12_mend_33 : decode cX12_mend 33 = .ok (.aload_n 0, 1) := by decide +kernel
theorem dX12_mend_34 : decode cX12_mend 34 = .ok (.getfield 7, 3) := by decide +kernel
theorem dX12_mend_37 : decode cX12_mend 37 = .ok (.sipush 152, 3) := by decide +kernel
theorem dX12_mend_40 : decode cX12_mend 40 = .ok (.iload_n 1, 1) := by decide +kernel
theorem dX12_mend_41 : decode cX12_mend 41 = .ok (.iadd, 1) := by decide +kernel
theorem dX12_mend_42 : decode cX12_mend 42 = .ok (.iload_n 2, 1) := by decide +kernel
theorem dX12_mend_43 : decode cX12_mend 43 = .ok (.iastore, 1) := by decide +kernel
theorem dX12_mend_44 : decode cX12_mend 44 = .ok (.aload_n 0, 1) := by decide +kernel
theorem dX12_mend_45 : decode cX12_mend 45 = .ok (.iconst 0, 1) := by decide +kernel
theorem dX12_mend_46 : decode cX12_mend 46 = .ok (.putfield 123, 3) := by decide +kernel
theorem dX12_mend_49 : decode cX12_mend 49 = .ok (.iconst 1, 1) := by decide +kernel
theorem dX12_mend_50 : decode cX12_mend 50 = .ok (.ireturn, 1) := by decide +kernel
theorem dX12_foes_0 : decode cX12_foes 0 = .ok (.aload_n 0, 1) := by decide +kernel
theorem dX12_foes_1 : decode cX12_foes 1 = .ok (.iconst 0, 1) := by decide +kernel
theorem dX12_foes_2 : decode cX12_foes 2 = .ok (.putfield 120, 3) := by decide +kernel
theorem dX12_foes_5 : decode cX12_foes 5 = .ok (.aload_n 0, 1) := by decide +kernel
theorem dX12_foes_6 : decode cX12_foes 6 = .ok (.iload_n 1, 1) := by decide +kernel
theorem dX12_foes_7 : decode cX12_foes 7 = .ok (.invokevirtual 163, 3) := by decide +kernel
theorem dX12_foes_10 : decode cX12_foes 10 = .ok (.ifCond .eq 16, 3) := by decide +kernel
theorem dX12_foes_13 : decode cX12_foes 13 = .ok (.aload_n 0, 1) := by decide +kernel
theorem dX12_foes_14 : decode cX12_foes 14 = .ok (.iload_n 2, 1) := by decide +kernel
theorem dX12_foes_15 : decode cX12_foes 15 = .ok (.invokevirtual 163, 3) := by decide +kernel
theorem dX12_foes_18 : decode cX12_foes 18 = .ok (.ifCond .eq 8, 3) := by decide +kernel
theorem dX12_foes_21 : decode cX12_foes 21 = .ok (.iload_n 1, 1) := by decide +kernel
theorem dX12_foes_22 : decode cX12_foes 22 = .ok (.iload_n 2, 1) := by decide +kernel
theorem dX12_foes_23 : decode cX12_foes 23 = .ok (.if_icmp .ne 5, 3) := by decide +kernel
theorem dX12_foes_26 : decode cX12_foes 26 = .ok (.iconst 0, 1) := by decide +kernel
theorem dX12_foes_27 : decode cX12_foes 27 = .ok (.ireturn, 1) := by decide +kernel
theorem dX12_foes_28 : decode cX12_foes 28 = .ok (.aload_n 0, 1) := by decide +kernel
theorem dX12_foes_29 : decode cX12_foes 29 = .ok (.getfield 62, 3) := by decide +kernel
theorem dX12_foes_32 : decode cX12_foes 32 = .ok (.iload_n 1, 1) := by decide +kernel
theorem dX12_foes_33 : decode cX12_foes 33 = .ok (.iload_n 3, 1) := by decide +kernel
theorem dX12_foes_34 : decode cX12_foes 34 = .ok (.ifCond .eq 16, 3) := by decide +kernel
theorem dX12_foes_37 : decode cX12_foes 37 = .ok (.aload_n 0, 1) := by decide +kernel
theorem dX12_foes_38 : decode cX12_foes 38 = .ok (.getfield 62, 3) := by decide +kernel
theorem dX12_foes_41 : decode cX12_foes 41 = .ok (.iload_n 1, 1) := by decide +kernel
theorem dX12_foes_42 : decode cX12_foes 42 = .ok (.iaload, 1) := by decide +kernel
theorem dX12_foes_43 : decode cX12_foes 43 = .ok (.iconst 1, 1) := by decide +kernel
theorem dX12_foes_44 : decode cX12_foes 44 = .ok (.iload_n 2, 1) := by decide +kernel
theorem dX12_foes_45 : decode cX12_foes 45 = .ok (.ishl, 1) := by decide +kernel
theorem dX12_foes_46 : decode cX12_foes 46 = .ok (.ior, 1) := by decide +kernel
theorem dX12_foes_47 : decode cX12_foes 47 = .ok (.goto 15, 3) := by decide +kernel
theorem dX12_foes_50 : decode cX12_foes 50 = .ok (.aload_n 0, 1) := by decide +kernel
theorem dX12_foes_51 : decode cX12_foes 51 = .ok (.getfield 62, 3) := by decide +kernel
theorem dX12_foes_54 : decode cX12_foes 54 = .ok (.iload_n 1, 1) := by decide +kernel
theorem dX12_foes_55 : decode cX12_foes 55 = .ok (.iaload, 1) := by decide +kernel
theorem dX12_foes_56 : decode cX12_foes 56 = .ok (.iconst 1, 1) := by decide +kernel
theorem dX12_foes_57 : decode cX12_foes 57 = .ok (.iload_n 2, 1) := by decide +kernel
theorem dX12_foes_58 : decode cX12_foes 58 = .ok (.ishl, 1) := by decide +kernel
theorem dX12_foes_59 : decode cX12_foes 59 = .ok (.iconst (-1), 1) := by decide +kernel
theorem dX12_foes_60 : decode cX12_foes 60 = .ok (.ixor, 1) := by decide +kernel
theorem dX12_foes_61 : decode cX12_foes 61 = .ok (.iand, 1) := by decide +kernel
theorem dX12_foes_62 : decode cX12_foes 62 = .ok (.iastore, 1) := by decide +kernel
theorem dX12_foes_63 : decode cX12_foes 63 = .ok (.aload_n 0, 1) := by decide +kernel
theorem dX12_foes_64 : decode cX12_foes 64 = .ok (.getfield 62, 3) := by decide +kernel
theorem dX12_foes_67 : decode cX12_foes 67 = .ok (.iload_n 2, 1) := by decide +kernel
theorem dX12_foes_68 : decode cX12_foes 68 = .ok (.iload_n 3, 1) := by decide +kernel
theorem dX12_foes_69 : decode cX12_foes 69 = .ok (.ifCond .eq 16, 3) := by decide +kernel
theorem dX12_foes_72 : decode cX12_foes 72 = .ok (.aload_n 0, 1) := by decide +kernel
theorem dX12_foes_73 : decode cX12_foes 73 = .ok (.getfield 62, 3) := by decide +kernel
theorem dX12_foes_76 : decode cX12_foes 76 = .ok (.iload_n 2, 1) := by decide +kernel
theorem dX12_foes_77 : decode cX12_foes 77 = .ok (.iaload, 1) := by decide +kernel
theorem dX12_foes_78 : decode cX12_foes 78 = .ok (.iconst 1, 1) := by decide +kernel
theorem dX12_foes_79 : decode cX12_foes 79 = .ok (.iload_n 1, 1) := by decide +kernel
theorem dX12_foes_80 : decode cX12_foes 80 = .ok (.ishl, 1) := by decide +kernel
theorem dX12_foes_81 : decode cX12_foes 81 = .ok (.ior, 1) := by decide +kernel
theorem dX12_foes_82 : decode cX12_foes 82 = .ok (.goto 15, 3) := by decide +kernel
theorem dX12_foes_85 : decode cX12_foes 85 = .ok (.aload_n 0, 1) := by decide +kernel
theorem dX12_foes_86 : decode cX12_foes 86 = .ok (.getfield 62, 3) := by decide +kernel
theorem dX12_foes_89 : decode cX12_foes 89 = .ok (.iload_n 2, 1) := by decide +kernel
theorem dX12_foes_90 : decode cX12_foes 90 = .ok (.iaload, 1) := by decide +kernel
theorem dX12_foes_91 : decode cX12_foes 91 = .ok (.iconst 1, 1) := by decide +kernel
theorem dX12_foes_92 : decode cX12_foes 92 = .ok (.iload_n 1, 1) := by decide +kernel
theorem dX12_foes_93 : decode cX12_foes 93 = .ok (.ishl, 1) := by decide +kernel
theorem dX12_foes_94 : decode cX12_foes 94 = .ok (.iconst (-1), 1) := by decide +kernel
theorem dX12_foes_95 : decode cX12_foes 95 = .ok (.ixor, 1) := by decide +kernel
theorem dX12_foes_96 : decode cX12_foes 96 = .ok (.iand, 1) := by decide +kernel
theorem dX12_foes_97 : decode cX12_foes 97 = .ok (.iastore, 1) := by decide +kernel
theorem dX12_foes_98 : decode cX12_foes 98 = .ok (.iconst 1, 1) := by decide +kernel
theorem dX12_foes_99 : decode cX12_foes 99 = .ok (.ireturn, 1) := by decide +kernel
theorem dX12_types_0 : decode cX12_types 0 = .ok (.bipush 24, 2) := by decide +kernel
theorem dX12_types_2 : decode cX12_types 2 = .ok (.istore_n 2, 1) := by decide +kernel
theorem dX12_types_3 : decode cX12_types 3 = .ok (.iload_n 2, 1) := by decide +kernel
theorem dX12_types_4 : decode cX12_types 4 = .ok (.ifCond .lt 35, 3) := by decide +kernel
theorem dX12_types_7 : decode cX12_types 7 = .ok (.aload_n 0, 1) := by decide +kernel
theorem dX12_types_8 : decode cX12_types 8 = .ok (.getfield 71, 3) := by decide +kernel
theorem dX12_types_11 : decode cX12_types 11 = .ok (.aload_n 0, 1) := by decide +kernel
theorem dX12_types_12 : decode cX12_types 12 = .ok (.getfield 177, 3) := by decide +kernel
theorem dX12_types_15 : decode cX12_types 15 = .ok (.iload_n 1, 1) := by decide +kernel
theorem dX12_types_16 : decode cX12_types 16 = .ok (.iload_n 2, 1) := by decide +kernel
theorem dX12_types_17 : decode cX12_types 17 = .ok (.ishr, 1) := by decide +kernel
theorem dX12_types_18 : decode cX12_types 18 = .ok (.sipush 255, 3) := by decide +kernel
theorem dX12_types_21 : decode cX12_types 21 = .ok (.iand, 1) := by decide +kernel
theorem dX12_types_22 : decode cX12_types 22 = .ok (.iastore, 1) := by decide +kernel
theorem dX12_types_23 : decode cX12_types 23 = .ok (.aload_n 0, 1) := by decide +kernel
theorem dX12_types_24 : decode cX12_types 24 = .ok (.aload_n 0, 1) := by decide +kernel
theorem dX12_types_25 : decode cX12_types 25 = .ok (.getfield 177, 3) := by decide +kernel
theorem dX12_types_28 : decode cX12_types 28 = .ok (.iconst 1, 1) := by decide +kernel
theorem dX12_types_29 : decode cX12_types 29 = .ok (.iadd, 1) := by decide +kernel
theorem dX12_types_30 : decode cX12_types 30 = .ok (.putfield 177, 3) := by decide +kernel
theorem dX12_types_33 : decode cX12_types 33 = .ok (.iinc 2 (-8), 3) := by decide +kernel
theorem dX12_types_36 : decode cX12_types 36 = .ok (.goto (-33), 3) := by decide +kernel
theorem dX12_types_39 : decode cX12_types 39 = .ok (.return_, 1) := by decide +kernel
theorem dX12_feed_0 : decode cX12_feed 0 = .ok (.aload_n 0, 1) := by decide +kernel
theorem dX12_feed_1 : decode cX12_feed 1 = .ok (.iconst 0, 1) := by decide +kernel
theorem dX12_feed_2 : decode cX12_feed 2 = .ok (.putfield 120, 3) := by decide +kernel
theorem dX12_feed_5 : decode cX12_feed 5 = .ok (.aload_n 0, 1) := by decide +kernel
theorem dX12_feed_6 : decode cX12_feed 6 = .ok (.getfield 177, 3) := by decide +kernel
theorem dX12_feed_9 : decode cX12_feed 9 = .ok (.sipush 380, 3) := by decide +kernel
theorem dX12_feed_12 : decode cX12_feed 12 = .ok (.if_icmp .le 5, 3) := by decide +kernel
theorem dX12_feed_15 : decode cX12_feed 15 = .ok (.iconst (-1), 1) := by decide +kernel
theorem dX12_feed_16 : decode cX12_feed 16 = .ok (.ireturn, 1) := by decide +kernel
theorem dX12_feed_17 : decode cX12_feed 17 = .ok (.aload_n 0, 1) := by decide +kernel
theorem dX12_feed_18 : decode cX12_feed 18 = .ok (.iload_n 1, 1) := by decide +kernel
theorem dX12_feed_19 : decode cX12_feed 19 = .ok (.invokevirtual 180, 3) := by decide +kernel
theorem dX12_feed_22 : decode cX12_feed 22 = .ok (.aload_n 0, 1) := by decide +kernel
theorem dX12_feed_23 : decode cX12_feed 23 = .ok (.iload_n 2, 1) := by decide +kernel
theorem dX12_feed_24 : decode cX12_feed 24 = .ok (.invokevirtual 180, 3) := by decide +kernel
theorem dX12_feed_27 : decode cX12_feed 27 = .ok (.aload_n 0, 1) := by decide +kernel
theorem dX12_feed_28 : decode cX12_feed 28 = .ok (.iload_n 3, 1) := by decide +kernel
theorem dX12_feed_29 : decode cX12_feed 29 = .ok (.invokevirtual 180, 3) := by decide +kernel
theorem dX12_feed_32 : decode cX12_feed 32 = .ok (.aload_n 0, 1) := by decide +kernel
theorem dX12_feed_33 : decode cX12_feed 33 = .ok (.iload 4, 2) := by decide +kernel
theorem dX12_feed_35 : decode cX12_feed 35 = .ok (.invokevirtual 180, 3) := by decide +kernel
theorem dX12_feed_38 : decode cX12_feed 38 = .ok (.aload_n 0, 1) := by decide +kernel
theorem dX12_feed_39 : decode cX12_feed 39 = .ok (.iload 5, 2) := by decide +kernel
theorem dX12_feed_41 : decode cX12_feed 41 = .ok (.invokevirtual 180, 3) := by decide +kernel
theorem dX12_feed_44 : decode cX12_feed 44 = .ok (.aload_n 0, 1) := by decide +kernel
theorem dX12_feed_45 : decode cX12_feed 45 = .ok (.getfield 177, 3) := by decide +kernel
theorem dX12_feed_48 : decode cX12_feed 48 = .ok (.ireturn, 1) := by decide +kernel
theorem dX12_end_0 : decode cX12_end 0 = .ok (.aload_n 0, 1) := by decide +kernel
theorem dX12_end_1 : decode cX12_end 1 = .ok (.iconst 0, 1) := by decide +kernel
theorem dX12_end_2 : decode cX12_end 2 = .ok (.putfield 120, 3) := by decide +kernel
theorem dX12_end_5 : decode cX12_end 5 = .ok (.aload_n 0, 1) := by decide +kernel
theorem dX12_end_6 : decode cX12_end 6 = .ok (.iload_n 1, 1) := by decide +kernel
theorem dX12_end_7 : decode cX12_end 7 = .ok (.iconst 0, 1) := by decide +kernel
theorem dX12_end_8 : decode cX12_end 8 = .ok (.aload_n 0, 1) := by decide +kernel
theorem dX12_end_9 : decode cX12_end 9 = .ok (.getfield 177, 3) := by decide +kernel
theorem dX12_end_12 : decode cX12_end 12 = .ok (.invokevirtual 138, 3) := by decide +kernel
theorem dX12_end_15 : decode cX12_end 15 = .ok (.ifCond .ne 5, 3) := by decide +kernel
theorem dX12_end_18 : decode cX12_end 18 = .ok (.iconst 0, 1) := by decide +kernel
theorem dX12_end_19 : decode cX12_end 19 = .ok (.ireturn, 1) := by decide +kernel
theorem dX12_end_20 : decode cX12_end 20 = .ok (.aload_n 0, 1) := by decide +kernel
theorem dX12_end_21 : decode cX12_end 21 = .ok (.iload_n 1, 1) := by decide +kernel
theorem dX12_end_22 : decode cX12_end 22 = .ok (.putfield 177, 3) := by decide +kernel
theorem dX12_end_25 : decode cX12_end 25 = .ok (.iconst 1, 1) := by decide +kernel
theorem dX12_end_26 : decode cX12_end 26 = .ok (.ireturn, 1) := by decide +kernel
theorem dX12_raw_0 : decode cX12_raw 0 = .ok (.iload_n 1, 1) := by decide +kernel
theorem dX12_raw_1 : decode cX12_raw 1 = .ok (.aload_n 0, 1) := by decide +kernel
theorem dX12_raw_2 : decode cX12_raw 2 = .ok (.getfield 177, 3) := by decide +kernel
theorem dX12_raw_5 : decode cX12_raw 5 = .ok (.if_icmp .ge 12, 3) := by decide +kernel
theorem dX12_raw_8 : decode cX12_raw 8 = .ok (.aload_n 0, 1) := by decide +kernel
theorem dX12_raw_9 : decode cX12_raw 9 = .ok (.getfield 71, 3) := by decide +kernel
theorem dX12_raw_12 : decode cX12_raw 12 = .ok (.iload_n 1, 1) := by decide +kernel
theorem dX12_raw_13 : decode cX12_raw 13 = .ok (.iaload, 1) := by decide +kernel
theorem dX12_raw_14 : decode cX12_raw 14 = .ok (.goto 4, 3) := by decide +kernel
theorem dX12_raw_17 : decode cX12_raw 17 = .ok (.iconst (-1), 1) := by decide +kernel
theorem dX12_raw_18 : decode cX12_raw 18 = .ok (.ireturn, 1) := by decide +kernel
theorem dX12_isLetter_0 : decode cX12_isLetter 0 = .ok (.aload_n 0, 1) := by decide +kernel
theorem dX12_isLetter_1 : decode cX12_isLetter 1 = .ok (.iload_n 1, 1) := by decide +kernel
theorem dX12_isLetter_2 : decode cX12_isLetter 2 = .ok (.bipush 97, 2) := by decide +kernel
theorem dX12_isLetter_4 : decode cX12_isLetter 4 = .ok (.bipush 122, 2) := by decide +kernel
theorem dX12_isLetter_6 : decode cX12_isLetter 6 = .ok (.invokevirtual 138, 3) := by decide +kernel
theorem dX12_isLetter_9 : decode cX12_isLetter 9 = .ok (.ifCond .ne 15, 3) := by decide +kernel
theorem dX12_isLetter_12 : decode cX12_isLetter 12 = .ok (.aload_n 0, 1) := by decide +kernel
theorem dX12_isLetter_13 : decode cX12_isLetter 13 = .ok (.iload_n 1, 1) := by decide +kernel
theorem dX12_isLetter_14 : decode cX12_isLetter 14 = .ok (.bipush 65, 2) := by decide +kernel
theorem dX12_isLetter_16 : decode cX12_isLetter 16 = .ok (.bipush 90, 2) := by decide +kernel
theorem dX12_isLetter_18 : decode cX12_isLetter 18 = .ok (.invokevirtual 138, 3) := by decide +kernel
theorem dX12_isLetter_21 : decode cX12_isLetter 21 = .ok (.ifCond .eq 7, 3) := by decide +kernel
theorem dX12_isLetter_24 : decode cX12_isLetter 24 = .ok (.iconst 1, 1) := by decide +kernel
theorem dX12_isLetter_25 : decode cX12_isLetter 25 = .ok (.goto 4, 3) := by decide +kernel
theorem dX12_isLetter_28 : decode cX12_isLetter 28 = .ok (.iconst 0, 1) := by decide +kernel
theorem dX12_isLetter_29 : decode cX12_isLetter 29 = .ok (.ireturn, 1) := by decide +kernel
theorem dX12_isDigit_0 : decode cX12_isDigit 0 = .ok (.aload_n 0, 1) := by decide +kernel
theorem dX12_isDigit_1 : decode cX12_isDigit 1 = .ok (.iload_n 1, 1) := by decide +kernel
theorem dX12_isDigit_2 : decode cX12_isDigit 2 = .ok (.bipush 48, 2) := by decide +kernel
theorem dX12_isDigit_4 : decode cX12_isDigit 4 = .ok (.bipush 57, 2) := by decide +kernel
theorem dX12_isDigit_6 : decode cX12_isDigit 6 = .ok (.invokevirtual 138, 3) := by decide +kernel
theorem dX12_isDigit_9 : decode cX12_isDigit 9 = .ok (.ireturn, 1) := by decide +kernel
theorem dX12_isMarkSign_0 : decode cX12_isMarkSign 0 = .ok (.iload_n 1, 1) := by decide +kernel
theorem dX12_isMarkSign_1 : decode cX12_isMarkSign 1 = .ok (.bipush 59, 2) := by decide +kernel
theorem dX12_isMarkSign_3 : decode cX12_isMarkSign 3 = .ok (.if_icmp .eq 57, 3) := by decide +kernel
theorem dX12_isMarkSign_6 : decode cX12_isMarkSign 6 = .ok (.iload_n 1, 1) := by decide +kernel
theorem dX12_isMarkSign_7 : decode cX12_isMarkSign 7 = .ok (.bipush 43, 2) := by decide +kernel
theorem dX12_isMarkSign_9 : decode cX12_isMarkSign 9 = .ok (.if_icmp .eq 51, 3) := by decide +kernel
theorem dX12_isMarkSign_12 : decode cX12_isMarkSign 12 = .ok (.iload_n 1, 1) := by decide +kernel
theorem dX12_isMarkSign_13 : decode cX12_isMarkSign 13 = .ok (.bipush 45, 2) := by decide +kernel
theorem dX12_isMarkSign_15 : decode cX12_isMarkSign 15 = .ok (.if_icmp .eq 45, 3) := by decide +kernel
theorem dX12_isMarkSign_18 : decode cX12_isMarkSign 18 = .ok (.iload_n 1, 1) := by decide +kernel
theorem dX12_isMarkSign_19 : decode cX12_isMarkSign 19 = .ok (.bipush 42, 2) := by decide +kernel
theorem dX12_isMarkSign_21 : decode cX12_isMarkSign 21 = .ok (.if_icmp .eq 39, 3) := by decide +kernel
theorem dX12_isMarkSign_24 : decode cX12_isMarkSign 24 = .ok (.iload_n 1, 1) := by decide +kernel
theorem dX12_isMarkSign_25 : decode cX12_isMarkSign 25 = .ok (.bipush 47, 2) := by decide +kernel
theorem dX12_isMarkSign_27 : decode cX12_isMarkSign 27 = .ok (.if_icmp .eq 33, 3) := by decide +kernel
theorem dX12_isMarkSign_30 : decode cX12_isMarkSign 30 = .ok (.iload_n 1, 1) := by decide +kernel
theorem dX12_isMarkSign_31 : decode cX12_isMarkSign 31 = .ok (.bipush 40, 2) := by decide +kernel
theorem dX12_isMarkSign_33 : decode cX12_isMarkSign 33 = .ok (.if_icmp .eq 27, 3) := by decide +kernel
theorem dX12_isMarkSign_36 : decode cX12_isMarkSign 36 = .ok (.iload_n 1, 1) := by decide +kernel
theorem dX12_isMarkSign_37 : decode cX12_isMarkSign 37 = .ok (.bipush 41, 2) := by decide +kernel
theorem dX12_isMarkSign_39 : decode cX12_isMarkSign 39 = .ok (.if_icmp .eq 21, 3) := by decide +kernel
theorem dX12_isMarkSign_42 : decode cX12_isMarkSign 42 = .ok (.iload_n 1, 1) := by decide +kernel
theorem dX12_isMarkSign_43 : decode cX12_isMarkSign 43 = .ok (.bipush 60, 2) := by decide +kernel
theorem dX12_isMarkSign_45 : decode cX12_isMarkSign 45 = .ok (.if_icmp .eq 15, 3) := by decide +kernel
theorem dX12_isMarkSign_48 : decode cX12_isMarkSign 48 = .ok (.iload_n 1, 1) := by decide +kernel
theorem dX12_isMarkSign_49 : decode cX12_isMarkSign 49 = .ok (.bipush 61, 2) := by decide +kernel
theorem dX12_isMarkSign_51 : decode cX12_isMarkSign 51 = .ok (.if_icmp .eq 9, 3) := by decide +kernel
theorem dX12_isMarkSign_54 : decode cX12_isMarkSign 54 = .ok (.iload_n 1, 1) := by decide +kernel
theorem dX12_isMarkSign_55 : decode cX12_isMarkSign 55 = .ok (.bipush 62, 2) := by decide +kernel
theorem dX12_isMarkSign_57 : decode cX12_isMarkSign 57 = .ok (.if_icmp .ne 7, 3) := by decide +kernel
theorem dX12_isMarkSign_60 : decode cX12_isMarkSign 60 = .ok (.iconst 1, 1) := by decide +kernel
theorem dX12_isMarkSign_61 : decode cX12_isMarkSign 61 = .ok (.goto 4, 3) := by decide +kernel
theorem dX12_isMarkSign_64 : decode cX12_isMarkSign 64 = .ok (.iconst 0, 1) := by decide +kernel
theorem dX12_isMarkSign_65 : decode cX12_isMarkSign 65 = .ok (.ireturn, 1) := by decide +kernel
theorem dX12_wordAt_0 : decode cX12_wordAt 0 = .ok (.iconst (-1), 1) := by decide +kernel
theorem dX12_wordAt_1 : decode cX12_wordAt 1 = .ok (.istore_n 3, 1) := by decide +kernel
theorem dX12_wordAt_2 : decode cX12_wordAt 2 = .ok (.iconst 0, 1) := by decide +kernel
theorem dX12_wordAt_3 : decode cX12_wordAt 3 = .ok (.istore 4, 2) := by decide +kernel
theorem dX12_wordAt_5 : decode cX12_wordAt 5 = .ok (.iload 4, 2) := by decide +kernel
theorem dX12_wordAt_7 : decode cX12_wordAt 7 = .ok (.bipush 73, 2) := by decide +kernel
theorem dX12_wordAt_9 : decode cX12_wordAt 9 = .ok (.if_icmp .ge 108, 3) := by decide +kernel
theorem dX12_wordAt_12 : decode cX12_wordAt 12 = .ok (.iconst 0, 1) := by decide +kernel
theorem dX12_wordAt_13 : decode cX12_wordAt 13 = .ok (.istore 5, 2) := by decide +kernel
theorem dX12_wordAt_15 : decode cX12_wordAt 15 = .ok (.iload_n 3, 1) := by decide +kernel
theorem dX12_wordAt_16 : decode cX12_wordAt 16 = .ok (.iconst 1, 1) := by decide +kernel
theorem dX12_wordAt_17 : decode cX12_wordAt 17 = .ok (.iadd, 1) := by decide +kernel
theorem dX12_wordAt_18 : decode cX12_wordAt 18 = .ok (.istore_n 3, 1) := by decide +kernel
theorem dX12_wordAt_19 : decode cX12_wordAt 19 = .ok (.iload_n 1, 1) := by decide +kernel
theorem dX12_wordAt_20 : decode cX12_wordAt 20 = .ok (.iload 5, 2) := by decide +kernel
theorem dX12_wordAt_22 : decode cX12_wordAt 22 = .ok (.iadd, 1) := by decide +kernel
theorem dX12_wordAt_23 : decode cX12_wordAt 23 = .ok (.iload_n 2, 1) := by decide +kernel
theorem dX12_wordAt_24 : decode cX12_wordAt 24 = .ok (.if_icmp .ge 36, 3) := by decide +kernel
theorem dX12_wordAt_27 : decode cX12_wordAt 27 = .ok (.aload_n 0, 1) := by decide +kernel
theorem dX12_wordAt_28 : decode cX12_wordAt 28 = .ok (.getfield 74, 3) := by decide +kernel
theorem dX12_wordAt_31 : decode cX12_wordAt 31 = .ok (.iload 4, 2) := by decide +kernel
theorem dX12_wordAt_33 : decode cX12_wordAt 33 = .ok (.iconst 1, 1) := by decide +kernel
theorem dX12_wordAt_34 : decode cX12_wordAt 34 = .ok (.iadd, 1) := by decide +kernel
theorem dX12_wordAt_35 : decode cX12_wordAt 35 = .ok (.iload 5, 2) := by decide +kernel
theorem dX12_wordAt_37 : decode cX12_wordAt 37 = .ok (.iadd, 1) := by decide +kernel
theorem dX12_wordAt_38 : decode cX12_wordAt 38 = .ok (.iaload, 1) := by decide +kernel
theorem dX12_wordAt_39 : decode cX12_wordAt 39 = .ok (.aload_n 0, 1) := by decide +kernel
theorem dX12_wordAt_40 : decode cX12_wordAt 40 = .ok (.getfield 71, 3) := by decide +kernel
theorem dX12_wordAt_43 : decode cX12_wordAt 43 = .ok (.iload_n 1, 1) := by decide +kernel
theorem dX12_wordAt_44 : decode cX12_wordAt 44 = .ok (.iload 5, 2) := by decide +kernel
theorem dX12_wordAt_46 : decode cX12_wordAt 46 = .ok (.iadd, 1) := by decide +kernel
theorem dX12_wordAt_47 : decode cX12_wordAt 47 = .ok (.iaload, 1) := by decide +kernel
theorem dX12_wordAt_48 : decode cX12_wordAt 48 = .ok (.if_icmp .ne 12, 3) := by decide +kernel
theorem dX12_wordAt_51 : decode cX12_wordAt 51 = .ok (.iload 5, 2) := by decide +kernel
theorem dX12_wordAt_53 : decode cX12_wordAt 53 = .ok (.iconst 1, 1) := by decide +kernel
theorem dX12_wordAt_54 : decode cX12_wordAt 54 = .ok (.iadd, 1) := by decide +kernel
theorem dX12_wordAt_55 : decode cX12_wordAt 55 = .ok (.istore 5, 2) := by decide +kernel
theorem dX12_wordAt_57 : decode cX12_wordAt 57 = .ok (.goto (-38), 3) := by decide +kernel
theorem dX12_wordAt_60 : decode cX12_wordAt 60 = .ok (.iload_n 1, 1) := by decide +kernel
theorem dX12_wordAt_61 : decode cX12_wordAt 61 = .ok (.iload 5, 2) := by decide +kernel
theorem dX12_wordAt_63 : decode cX12_wordAt 63 = .ok (.iadd, 1) := by decide +kernel
theorem dX12_wordAt_64 : decode cX12_wordAt 64 = .ok (.iload_n 2, 1) := by decide +kernel
theorem dX12_wordAt_65 : decode cX12_wordAt 65 = .ok (.if_icmp .ne 22, 3) := by decide +kernel
theorem dX12_wordAt_68 : decode cX12_wordAt 68 = .ok (.aload_n 0, 1) := by decide +kernel
theorem dX12_wordAt_69 : decode cX12_wordAt 69 = .ok (.getfield 74, 3) := by decide +kernel
theorem dX12_wordAt_72 : decode cX12_wordAt 72 = .ok (.iload 4, 2) := by decide +kernel
theorem dX12_wordAt_74 : decode cX12_wordAt 74 = .ok (.iconst 1, 1) := by decide +kernel
theorem dX12_wordAt_75 : decode cX12_wordAt 75 = .ok (.iadd, 1) := by decide +kernel
theorem dX12_wordAt_76 : decode cX12_wordAt 76 = .ok (.iload 5, 2) := by decide +kernel
theorem dX12_wordAt_78 : decode cX12_wordAt 78 = .ok (.iadd, 1) := by decide +kernel
theorem dX12_wordAt_79 : decode cX12_wordAt 79 = .ok (.iaload, 1) := by decide +kernel
theorem dX12_wordAt_80 : decode cX12_wordAt 80 = .ok (.bipush 32, 2) := by decide +kernel
theorem dX12_wordAt_82 : decode cX12_wordAt 82 = .ok (.if_icmp .ne 5, 3) := by decide +kernel
theorem dX12_wordAt_85 : decode cX12_wordAt 85 = .ok (.iload_n 3, 1) := by decide +kernel
theorem dX12_wordAt_86 : decode cX12_wordAt 86 = .ok (.ireturn, 1) := by decide +kernel
theorem dX12_wordAt_87 : decode cX12_wordAt 87 = .ok (.iload 4, 2) := by decide +kernel
theorem dX12_wordAt_89 : decode cX12_wordAt 89 = .ok (.iconst 1, 1) := by decide +kernel
theorem dX12_wordAt_90 : decode cX12_wordAt 90 = .ok (.iadd, 1) := by decide +kernel
theorem dX12_wordAt_91 : decode cX12_wordAt 91 = .ok (.istore 4, 2) := by decide +kernel
theorem dX12_wordAt_93 : decode cX12_wordAt 93 = .ok (.aload_n 0, 1) := by decide +kernel
theorem dX12_wordAt_94 : decode cX12_wordAt 94 = .ok (.getfield 74, 3) := by decide +kernel
theorem dX12_wordAt_97 : decode cX12_wordAt 97 = .ok (.iload 4, 2) := by decide +kernel
theorem dX12_wordAt_99 : decode cX12_wordAt 99 = .ok (.iaload, 1) := by decide +kernel
theorem dX12_wordAt_100 : decode cX12_wordAt 100 = .ok (.bipush 32, 2) := by decide +kernel
theorem dX12_wordAt_102 : decode cX12_wordAt 102 = .ok (.if_icmp .eq 12, 3) := by decide +kernel
theorem dX12_wordAt_105 : decode cX12_wordAt 105 = .ok (.iload 4, 2) := by decide +kernel
theorem dX12_wordAt_107 : decode cX12_wordAt 107 = .ok (.iconst 1, 1) := by decide +kernel
theorem dX12_wordAt_108 : decode cX12_wordAt 108 = .ok (.iadd, 1) := by decide +kernel
theorem dX12_wordAt_109 : decode cX12_wordAt 109 = .ok (.istore 4, 2) := by decide +kernel
theorem dX12_wordAt_111 : decode cX12_wordAt 111 = .ok (.goto (-18), 3) := by decide +kernel
theorem dX12_wordAt_114 : decode cX12_wordAt 114 = .ok (.goto (-109), 3) := by decide +kernel
theorem dX12_wordAt_117 : decode cX12_wordAt 117 = .ok (.iconst (-1), 1) := by decide +kernel
theorem dX12_wordAt_118 : decode cX12_wordAt 118 = .ok (.ireturn, 1) := by decide +kernel
theorem dX12_reads_0 : decode cX12_reads 0 = .ok (.aload_n 0, 1) := by decide +kernel
theorem dX12_reads_1 : decode cX12_reads 1 = .ok (.aload_n 0, 1) := by decide +kernel
theorem dX12_reads_2 : decode cX12_reads 2 = .ok (.getfield 183, 3) := by decide +kernel
theorem dX12_reads_5 : decode cX12_reads 5 = .ok (.invokevirtual 186, 3) := by decide +kernel
theorem dX12_reads_8 : decode cX12_reads 8 = .ok (.bipush 32, 2) := by decide +kernel
theorem dX12_reads_10 : decode cX12_reads 10 = .ok (.if_icmp .eq 16, 3) := by decide +kernel
theorem dX12_reads_13 : decode cX12_reads 13 = .ok (.aload_n 0, 1) := by decide +kernel
theorem dX12_reads_14 : decode cX12_reads 14 = .ok (.aload_n 0, 1) := by decide +kernel
theorem dX12_reads_15 : decode cX12_reads 15 = .ok (.getfield 183, 3) := by decide +kernel
theorem dX12_reads_18 : decode cX12_reads 18 = .ok (.invokevirtual 186, 3) := by decide +kernel
theorem dX12_reads_21 : decode cX12_reads 21 = .ok (.bipush 10, 2) := by decide +kernel
theorem dX12_reads_23 : decode cX12_reads 23 = .ok (.if_icmp .ne 16, 3) := by decide +kernel
theorem dX12_reads_26 : decode cX12_reads 26 = .ok (.aload_n 0, 1) := by decide +kernel
theorem dX12_reads_27 : decode cX12_reads 27 = .ok (.aload_n 0, 1) := by decide +kernel
theorem dX12_reads_28 : decode cX12_reads 28 = .ok (.getfield 183, 3) := by decide +kernel
theorem dX12_reads_31 : decode cX12_reads 31 = .ok (.iconst 1, 1) := by decide +kernel
theorem dX12_reads_32 : decode cX12_reads 32 = .ok (.iadd, 1) := by decide +kernel
theorem dX12_reads_33 : decode cX12_reads 33 = .ok (.putfield 183, 3) := by decide +kernel
theorem dX12_reads_36 : decode cX12_reads 36 = .ok (.goto (-36), 3) := by decide +kernel
theorem dX12_reads_39 : decode cX12_reads 39 = .ok (.aload_n 0, 1) := by decide +kernel
theorem dX12_reads_40 : decode cX12_reads 40 = .ok (.aload_n 0, 1) := by decide +kernel
theorem dX12_reads_41 : decode cX12_reads 41 = .ok (.getfield 183, 3) := by decide +kernel
theorem dX12_reads_44 : decode cX12_reads 44 = .ok (.putfield 190, 3) := by decide +kernel
theorem dX12_reads_47 : decode cX12_reads 47 = .ok (.aload_n 0, 1) := by decide +kernel
theorem dX12_reads_48 : decode cX12_reads 48 = .ok (.iconst 1, 1) := by decide +kernel
theorem dX12_reads_49 : decode cX12_reads 49 = .ok (.putfield 193, 3) := by decide +kernel
theorem dX12_reads_52 : decode cX12_reads 52 = .ok (.aload_n 0, 1) := by decide +kernel
theorem dX12_reads_53 : decode cX12_reads 53 = .ok (.aload_n 0, 1) := by decide +kernel
theorem dX12_reads_54 : decode cX12_reads 54 = .ok (.getfield 183, 3) := by decide +kernel
theorem dX12_reads_57 : decode cX12_reads 57 = .ok (.invokevirtual 186, 3) := by decide +kernel
theorem dX12_reads_60 : decode cX12_reads 60 = .ok (.istore_n 1, 1) := by decide +kernel
theorem dX12_reads_61 : decode cX12_reads 61 = .ok (.iload_n 1, 1) := by decide +kernel
theorem dX12_reads_62 : decode cX12_reads 62 = .ok (.iconst (-1), 1) := by decide +kernel
theorem dX12_reads_63 : decode cX12_reads 63 = .ok (.if_icmp .ne 9, 3) := by decide +kernel
theorem dX12_reads_66 : decode cX12_reads 66 = .ok (.aload_n 0, 1) := by decide +kernel
theorem dX12_reads_67 : decode cX12_reads 67 = .ok (.iconst 0, 1) := by decide +kernel
theorem dX12_reads_68 : decode cX12_reads 68 = .ok (.putfield 193, 3) := by decide +kernel
theorem dX12_reads_71 : decode cX12_reads 71 = .ok (.return_, 1) := by decide +kernel
theorem dX12_reads_72 : decode cX12_reads 72 = .ok (.aload_n 0, 1) := by decide +kernel
theorem dX12_reads_73 : decode cX12_reads 73 = .ok (.aload_n 0, 1) := by decide +kernel
theorem dX12_reads_74 : decode cX12_reads 74 = .ok (.getfield 183, 3) := by decide +kernel
theorem dX12_reads_77 : decode cX12_reads 77 = .ok (.iconst 1, 1) := by decide +kernel
theorem dX12_reads_78 : decode cX12_reads 78 = .ok (.iadd, 1) := by decide +kernel
theorem dX12_reads_79 : decode cX12_reads 79 = .ok (.putfield 183, 3) := by decide +kernel
theorem dX12_reads_82 : decode cX12_reads 82 = .ok (.aload_n 0, 1) := by decide +kernel
theorem dX12_reads_83 : decode cX12_reads 83 = .ok (.iload_n 1, 1) := by decide +kernel
theorem dX12_reads_84 : decode cX12_reads 84 = .ok (.putfield 196, 3) := by decide +kernel
theorem dX12_reads_87 : decode cX12_reads 87 = .ok (.aload_n 0, 1) := by decide +kernel
theorem dX12_reads_88 : decode cX12_reads 88 = .ok (.iload_n 1, 1) := by decide +kernel
theorem dX12_reads_89 : decode cX12_reads 89 = .ok (.invokevirtual 199, 3) := by decide +kernel
theorem dX12_reads_92 : decode cX12_reads 92 = .ok (.ifCond .eq 63, 3) := by decide +kernel
theorem dX12_reads_95 : decode cX12_reads 95 = .ok (.aload_n 0, 1) := by decide +kernel
theorem dX12_reads_96 : decode cX12_reads 96 = .ok (.aload_n 0, 1) := by decide +kernel
theorem dX12_reads_97 : decode cX12_reads 97 = .ok (.aload_n 0, 1) := by decide +kernel
theorem dX12_reads_98 : decode cX12_reads 98 = .ok (.getfield 183, 3) := by decide +kernel
theorem dX12_reads_101 : decode cX12_reads 101 = .ok (.invokevirtual 186, 3) := by decide +kernel
theorem dX12_reads_104 : decode cX12_reads 104 = .ok (.invokevirtual 199, 3) := by decide +kernel
theorem dX12_reads_107 : decode cX12_reads 107 = .ok (.ifCond .eq 16, 3) := by decide +kernel
theorem dX12_reads_110 : decode cX12_reads 110 = .ok (.aload_n 0, 1) := by decide +kernel
theorem dX12_reads_111 : decode cX12_reads 111 = .ok (.aload_n 0, 1) := by decide +kernel
theorem dX12_reads_112 : decode cX12_reads 112 = .ok (.getfield 183, 3) := by decide +kernel
theorem dX12_reads_115 : decode cX12_reads 115 = .ok (.iconst 1, 1) := by decide +kernel
theorem dX12_reads_116 : decode cX12_reads 116 = .ok (.iadd, 1) := by decide +kernel
theorem dX12_reads_117 : decode cX12_reads 117 = .ok (.putfield 183, 3) := by decide +kernel
theorem dX12_reads_120 : decode cX12_reads 120 = .ok (.goto (-25), 3) := by decide +kernel
theorem dX12_reads_123 : decode cX12_reads 123 = .ok (.aload_n 0, 1) := by decide +kernel
theorem dX12_reads_124 : decode cX12_reads 124 = .ok (.aload_n 0, 1) := by decide +kernel
theorem dX12_reads_125 : decode cX12_reads 125 = .ok (.aload_n 0, 1) := by decide +kernel
theorem dX12_reads_126 : decode cX12_reads 126 = .ok (.getfield 190, 3) := by decide +kernel
theorem dX12_reads_129 : decode cX12_reads 129 = .ok (.aload_n 0, 1) := by decide +kernel
theorem dX12_reads_130 : decode cX12_reads 130 = .ok (.getfield 183, 3) := by decide +kernel
theorem dX12_reads_133 : decode cX12_reads 133 = .ok (.invokevirtual 202, 3) := by decide +kernel
theorem dX12_reads_136 : decode cX12_reads 136 = .ok (.putfield 196, 3) := by decide +kernel
theorem dX12_reads_139 : decode cX12_reads 139 = .ok (.aload_n 0, 1) := by decide +kernel
theorem dX12_reads_140 : decode cX12_reads 140 = .ok (.getfield 196, 3) := by decide +kernel
theorem dX12_reads_143 : decode cX12_reads 143 = .ok (.iconst (-1), 1) := by decide +kernel
theorem dX12_reads_144 : decode cX12_reads 144 = .ok (.if_icmp .eq 129, 3) := by decide +kernel
theorem dX12_reads_147 : decode cX12_reads 147 = .ok (.aload_n 0, 1) := by decide +kernel
theorem dX12_reads_148 : decode cX12_reads 148 = .ok (.iconst 2, 1) := by decide +kernel
theorem dX12_reads_149 : decode cX12_reads 149 = .ok (.putfield 193, 3) := by decide +kernel
theorem dX12_reads_152 : decode cX12_reads 152 = .ok (.goto 121, 3) := by decide +kernel
theorem dX12_reads_155 : decode cX12_reads 155 = .ok (.aload_n 0, 1) := by decide +kernel
theorem dX12_reads_156 : decode cX12_reads 156 = .ok (.iload_n 1, 1) := by decide +kernel
theorem dX12_reads_157 : decode cX12_reads 157 = .ok (.invokevirtual 206, 3) := by decide +kernel
theorem dX12_reads_160 : decode cX12_reads 160 = .ok (.ifCond .eq 100, 3) := by decide +kernel
theorem dX12_reads_163 : decode cX12_reads 163 = .ok (.aload_n 0, 1) := by decide +kernel
theorem dX12_reads_164 : decode cX12_reads 164 = .ok (.iload_n 1, 1) := by decide +kernel
theorem dX12_reads_165 : decode cX12_reads 165 = .ok (.bipush 48, 2) := by decide +kernel
theorem dX12_reads_167 : decode cX12_reads 167 = .ok (.isub, 1) := by decide +kernel
theorem dX12_reads_168 : decode cX12_reads 168 = .ok (.putfield 196, 3) := by decide +kernel
theorem dX12_reads_171 : decode cX12_reads 171 = .ok (.aload_n 0, 1) := by decide +kernel
theorem dX12_reads_172 : decode cX12_reads 172 = .ok (.aload_n 0, 1) := by decide +kernel
theorem dX12_reads_173 : decode cX12_reads 173 = .ok (.aload_n 0, 1) := by decide +kernel
theorem dX12_reads_174 : decode cX12_reads 174 = .ok (.getfield 183, 3) := by decide +kernel
theorem dX12_reads_177 : decode cX12_reads 177 = .ok (.invokevirtual 186, 3) := by decide +kernel
theorem dX12_reads_180 : decode cX12_reads 180 = .ok (.invokevirtual 206, 3) := by decide +kernel
theorem dX12_reads_183 : decode cX12_reads 183 = .ok (.ifCond .eq 56, 3) := by decide +kernel
theorem dX12_reads_186 : decode cX12_reads 186 = .ok (.aload_n 0, 1) := by decide +kernel
theorem dX12_reads_187 : decode cX12_reads 187 = .ok (.aload_n 0, 1) := by decide +kernel
theorem dX12_reads_188 : decode cX12_reads 188 = .ok (.getfield 196, 3) := by decide +kernel
theorem dX12_reads_191 : decode cX12_reads 191 = .ok (.sipush 10000, 3) := by decide +kernel
theorem dX12_reads_194 : decode cX12_reads 194 = .ok (.if_icmp .ge 25, 3) := by decide +kernel
theorem dX12_reads_197 : decode cX12_reads 197 = .ok (.bipush 10, 2) := by decide +kernel
theorem dX12_reads_199 : decode cX12_reads 199 = .ok (.aload_n 0, 1) := by decide +kernel
theorem dX12_reads_200 : decode cX12_reads 200 = .ok (.getfield 196, 3) := by decide +kernel
theorem dX12_reads_203 : decode cX12_reads 203 = .ok (.imul, 1) := by decide +kernel
theorem dX12_reads_204 : decode cX12_reads 204 = .ok (.aload_n 0, 1) := by decide +kernel
theorem dX12_reads_205 : decode cX12_reads 205 = .ok (.aload_n 0, 1) := by decide +kernel
theorem dX12_reads_206 : decode cX12_reads 206 = .ok (.getfield 183, 3) := by decide +kernel
theorem dX12_reads_209 : decode cX12_reads 209 = .ok (.invokevirtual 186, 3) := by decide +kernel
theorem dX12_reads_212 : decode cX12_reads 212 = .ok (.iadd, 1) := by decide +kernel
theorem dX12_reads_213 : decode cX12_reads 213 = .ok (.bipush 48, 2) := by decide +kernel
theorem dX12_reads_215 : decode cX12_reads 215 = .ok (.isub, 1) := by decide +kernel
theorem dX12_reads_216 : decode cX12_reads 216 = .ok (.goto 7, 3) := by decide +kernel
theorem dX12_reads_219 : decode cX12_reads 219 = .ok (.aload_n 0, 1) := by decide +kernel
theorem dX12_reads_220 : decode cX12_reads 220 = .ok (.getfield 196, 3) := by decide +kernel
theorem dX12_reads_223 : decode cX12_reads 223 = .ok (.putfield 196, 3) := by decide +kernel
theorem dX12_reads_226 : decode cX12_reads 226 = .ok (.aload_n 0, 1) := by decide +kernel
theorem dX12_reads_227 : decode cX12_reads 227 = .ok (.aload_n 0, 1) := by decide +kernel
theorem dX12_reads_228 : decode cX12_reads 228 = .ok (.getfield 183, 3) := by decide +kernel
theorem dX12_reads_231 : decode cX12_reads 231 = .ok (.iconst 1, 1) := by decide +kernel
theorem dX12_reads_232 : decode cX12_reads 232 = .ok (.iadd, 1) := by decide +kernel
theorem dX12_reads_233 : decode cX12_reads 233 = .ok (.putfield 183, 3) := by decide +kernel
theorem dX12_reads_236 : decode cX12_reads 236 = .ok (.goto (-65), 3) := by decide +kernel
theorem dX12_reads_239 : decode cX12_reads 239 = .ok (.aload_n 0, 1) := by decide +kernel
theorem dX12_reads_240 : decode cX12_reads 240 = .ok (.getfield 183, 3) := by decide +kernel
theorem dX12_reads_243 : decode cX12_reads 243 = .ok (.aload_n 0, 1) := by decide +kernel
theorem dX12_reads_244 : decode cX12_reads 244 = .ok (.getfield 190, 3) := by decide +kernel
theorem dX12_reads_247 : decode cX12_reads 247 = .ok (.isub, 1) := by decide +kernel
theorem dX12_reads_248 : decode cX12_reads 248 = .ok (.iconst 5, 1) := by decide +kernel
theorem dX12_reads_249 : decode cX12_reads 249 = .ok (.if_icmp .ge 24, 3) := by decide +kernel
theorem dX12_reads_252 : decode cX12_reads 252 = .ok (.aload_n 0, 1) := by decide +kernel
theorem dX12_reads_253 : decode cX12_reads 253 = .ok (.iconst 3, 1) := by decide +kernel
theorem dX12_reads_254 : decode cX12_reads 254 = .ok (.putfield 193, 3) := by decide +kernel
theorem dX12_reads_257 : decode cX12_reads 257 = .ok (.goto 16, 3) := by decide +kernel
theorem dX12_reads_260 : decode cX12_reads 260 = .ok (.aload_n 0, 1) := by decide +kernel
theorem dX12_reads_261 : decode cX12_reads 261 = .ok (.iload_n 1, 1) := by decide +kernel
theorem dX12_reads_262 : decode cX12_reads 262 = .ok (.invokevirtual 209, 3) := by decide +kernel
theorem dX12_reads_265 : decode cX12_reads 265 = .ok (.ifCond .eq 8, 3) := by decide +kernel
theorem dX12_reads_268 : decode cX12_reads 268 = .ok (.aload_n 0, 1) := by decide +kernel
theorem dX12_reads_269 : decode cX12_reads 269 = .ok (.iconst 4, 1) := by decide +kernel
theorem dX12_reads_270 : decode cX12_reads 270 = .ok (.putfield 193, 3) := by decide +kernel
theorem dX12_reads_273 : decode cX12_reads 273 = .ok (.return_, 1) := by decide +kernel
theorem dX12_errs_0 : decode cX12_errs 0 = .ok (.aload_n 0, 1) := by decide +kernel
theorem dX12_errs_1 : decode cX12_errs 1 = .ok (.iload_n 1, 1) := by decide +kernel
theorem dX12_errs_2 : decode cX12_errs 2 = .ok (.putfield 212, 3) := by decide +kernel
theorem dX12_errs_5 : decode cX12_errs 5 = .ok (.aload_n 0, 1) := by decide +kernel
theorem dX12_errs_6 : decode cX12_errs 6 = .ok (.aload_n 0, 1) := by decide +kernel
theorem dX12_errs_7 : decode cX12_errs 7 = .ok (.getfield 190, 3) := by decide +kernel
theorem dX12_errs_10 : decode cX12_errs 10 = .ok (.putfield 215, 3) := by decide +kernel
theorem dX12_errs_13 : decode cX12_errs 13 = .ok (.iconst (-1), 1) := by decide +kernel
theorem dX12_errs_14 : decode cX12_errs 14 = .ok (.ireturn, 1) := by decide +kernel
theorem dX12_isWord_0 : decode cX12_isWord 0 = .ok (.aload_n 0, 1) := by decide +kernel
theorem dX12_isWord_1 : decode cX12_isWord 1 = .ok (.getfield 193, 3) := by decide +kernel
theorem dX12_isWord_4 : decode cX12_isWord 4 = .ok (.iconst 2, 1) := by decide +kernel
theorem dX12_isWord_5 : decode cX12_isWord 5 = .ok (.if_icmp .ne 15, 3) := by decide +kernel
theorem dX12_isWord_8 : decode cX12_isWord 8 = .ok (.aload_n 0, 1) := by decide +kernel
theorem dX12_isWord_9 : decode cX12_isWord 9 = .ok (.getfield 196, 3) := by decide +kernel
theorem dX12_isWord_12 : decode cX12_isWord 12 = .ok (.iload_n 1, 1) := by decide +kernel
theorem dX12_isWord_13 : decode cX12_isWord 13 = .ok (.if_icmp .ne 7, 3) := by decide +kernel
theorem dX12_isWord_16 : decode cX12_isWord 16 = .ok (.iconst 1, 1) := by decide +kernel
theorem dX12_isWord_17 : decode cX12_isWord 17 = .ok (.goto 4, 3) := by decide +kernel
theorem dX12_isWord_20 : decode cX12_isWord 20 = .ok (.iconst 0, 1) := by decide +kernel
theorem dX12_isWord_21 : decode cX12_isWord 21 = .ok (.ireturn, 1) := by decide +kernel
theorem dX12_isSign_0 : decode cX12_isSign 0 = .ok (.aload_n 0, 1) := by decide +kernel
theorem dX12_isSign_1 : decode cX12_isSign 1 = .ok (.getfield 193, 3) := by decide +kernel
theorem dX12_isSign_4 : decode cX12_isSign 4 = .ok (.iconst 4, 1) := by decide +kernel
theorem dX12_isSign_5 : decode cX12_isSign 5 = .ok (.if_icmp .ne 15, 3) := by decide +kernel
theorem dX12_isSign_8 : decode cX12_isSign 8 = .ok (.aload_n 0, 1) := by decide +kernel
theorem dX12_isSign_9 : decode cX12_isSign 9 = .ok (.getfield 196, 3) := by decide +kernel
theorem dX12_isSign_12 : decode cX12_isSign 12 = .ok (.iload_n 1, 1) := by decide +kernel
theorem dX12_isSign_13 : decode cX12_isSign 13 = .ok (.if_icmp .ne 7, 3) := by decide +kernel
theorem dX12_isSign_16 : decode cX12_isSign 16 = .ok (.iconst 1, 1) := by decide +kernel
theorem dX12_isSign_17 : decode cX12_isSign 17 = .ok (.goto 4, 3) := by decide +kernel
theorem dX12_isSign_20 : decode cX12_isSign 20 = .ok (.iconst 0, 1) := by decide +kernel
theorem dX12_isSign_21 : decode cX12_isSign 21 = .ok (.ireturn, 1) := by decide +kernel
theorem dX12_emits_0 : decode cX12_emits 0 = .ok (.aload_n 0, 1) := by decide +kernel
theorem dX12_emits_1 : decode cX12_emits 1 = .ok (.getfield 86, 3) := by decide +kernel
theorem dX12_emits_4 : decode cX12_emits 4 = .ok (.sipush 400, 3) := by decide +kernel
theorem dX12_emits_7 : decode cX12_emits 7 = .ok (.aload_n 0, 1) := by decide +kernel
theorem dX12_emits_8 : decode cX12_emits 8 = .ok (.getfield 218, 3) := by decide +kernel
theorem dX12_emits_11 : decode cX12_emits 11 = .ok (.iadd, 1) := by decide +kernel
theorem dX12_emits_12 : decode cX12_emits 12 = .ok (.iload_n 1, 1) := by decide +kernel
theorem dX12_emits_13 : decode cX12_emits 13 = .ok (.iastore, 1) := by decide +kernel
theorem dX12_emits_14 : decode cX12_emits 14 = .ok (.aload_n 0, 1) := by decide +kernel
theorem dX12_emits_15 : decode cX12_emits 15 = .ok (.getfield 89, 3) := by decide +kernel
theorem dX12_emits_18 : decode cX12_emits 18 = .ok (.sipush 400, 3) := by decide +kernel
theorem dX12_emits_21 : decode cX12_emits 21 = .ok (.aload_n 0, 1) := by decide +kernel
theorem dX12_emits_22 : decode cX12_emits 22 = .ok (.getfield 218, 3) := by decide +kernel
theorem dX12_emits_25 : decode cX12_emits 25 = .ok (.iadd, 1) := by decide +kernel
theorem dX12_emits_26 : decode cX12_emits 26 = .ok (.iload_n 2, 1) := by decide +kernel
theorem dX12_emits_27 : decode cX12_emits 27 = .ok (.iastore, 1) := by decide +kernel
theorem dX12_emits_28 : decode cX12_emits 28 = .ok (.aload_n 0, 1) := by decide +kernel
theorem dX12_emits_29 : decode cX12_emits 29 = .ok (.aload_n 0, 1) := by decide +kernel
theorem dX12_emits_30 : decode cX12_emits 30 = .ok (.getfield 218, 3) := by decide +kernel
theorem dX12_emits_33 : decode cX12_emits 33 = .ok (.iconst 1, 1) := by decide +kernel
theorem dX12_emits_34 : decode cX12_emits 34 = .ok (.iadd, 1) := by decide +kernel
theorem dX12_emits_35 : decode cX12_emits 35 = .ok (.putfield 218, 3) := by decide +kernel
theorem dX12_emits_38 : decode cX12_emits 38 = .ok (.return_, 1) := by decide +kernel
theorem dX12_readUnit_0 : decode cX12_readUnit 0 = .ok (.aload_n 0, 1) := by decide +kernel
theorem dX12_readUnit_1 : decode cX12_readUnit 1 = .ok (.getfield 193, 3) := by decide +kernel
theorem dX12_readUnit_4 : decode cX12_readUnit 4 = .ok (.iconst 2, 1) := by decide +kernel
theorem dX12_readUnit_5 : decode cX12_readUnit 5 = .ok (.if_icmp .ne 15, 3) := by decide +kernel
theorem dX12_readUnit_8 : decode cX12_readUnit 8 = .ok (.aload_n 0, 1) := by decide +kernel
theorem dX12_readUnit_9 : decode cX12_readUnit 9 = .ok (.getfield 196, 3) := by decide +kernel
theorem dX12_readUnit_12 : decode cX12_readUnit 12 = .ok (.iconst 5, 1) := by decide +kernel
theorem dX12_readUnit_13 : decode cX12_readUnit 13 = .ok (.if_icmp .lt 7, 3) := by decide +kernel
theorem dX12_readUnit_16 : decode cX12_readUnit 16 = .ok (.iconst 1, 1) := by decide +kernel
theorem dX12_readUnit_17 : decode cX12_readUnit 17 = .ok (.goto 4, 3) := by decide +kernel
theorem dX12_readUnit_20 : decode cX12_readUnit 20 = .ok (.iconst 0, 1) := by decide +kernel
theorem dX12_readUnit_21 : decode cX12_readUnit 21 = .ok (.istore_n 1, 1) := by decide +kernel
theorem dX12_readUnit_22 : decode cX12_readUnit 22 = .ok (.iload_n 1, 1) := by decide +kernel
theorem dX12_readUnit_23 : decode cX12_readUnit 23 = .ok (.ifCond .ne 17, 3) := by decide +kernel
theorem dX12_readUnit_26 : decode cX12_readUnit 26 = .ok (.aload_n 0, 1) := by decide +kernel
theorem dX12_readUnit_27 : decode cX12_readUnit 27 = .ok (.getfield 193, 3) := by decide +kernel
theorem dX12_readUnit_30 : decode cX12_readUnit 30 = .ok (.iconst 3, 1) := by decide +kernel
theorem dX12_readUnit_31 : decode cX12_readUnit 31 = .ok (.if_icmp .eq 9, 3) := by decide +kernel
theorem dX12_readUnit_34 : decode cX12_readUnit 34 = .ok (.aload_n 0, 1) := by decide +kernel
theorem dX12_readUnit_35 : decode cX12_readUnit 35 = .ok (.iconst 1, 1) := by decide +kernel
theorem dX12_readUnit_36 : decode cX12_readUnit 36 = .ok (.invokevirtual 221, 3) := by decide +kernel
theorem dX12_readUnit_39 : decode cX12_readUnit 39 = .ok (.ireturn, 1) := by decide +kernel
theorem dX12_readUnit_40 : decode cX12_readUnit 40 = .ok (.aload_n 0, 1) := by decide +kernel
theorem dX12_readUnit_41 : decode cX12_readUnit 41 = .ok (.iload_n 1, 1) := by decide +kernel
theorem dX12_readUnit_42 : decode cX12_readUnit 42 = .ok (.ifCond .eq 7, 3) := by decide +kernel
theorem dX12_readUnit_45 : decode cX12_readUnit 45 = .ok (.iconst 1, 1) := by decide +kernel
theorem dX12_readUnit_46 : decode cX12_readUnit 46 = .ok (.goto 4, 3) := by decide +kernel
theorem dX12_readUnit_49 : decode cX12_readUnit 49 = .ok (.iconst 0, 1) := by decide +kernel
theorem dX12_readUnit_50 : decode cX12_readUnit 50 = .ok (.iload_n 1, 1) := by decide +kernel
theorem dX12_readUnit_51 : decode cX12_readUnit 51 = .ok (.ifCond .eq 12, 3) := by decide +kernel
theorem dX12_readUnit_54 : decode cX12_readUnit 54 = .ok (.aload_n 0, 1) := by decide +kernel
theorem dX12_readUnit_55 : decode cX12_readUnit 55 = .ok (.getfield 196, 3) := by decide +kernel
theorem dX12_readUnit_58 : decode cX12_readUnit 58 = .ok (.iconst 5, 1) := by decide +kernel
theorem dX12_readUnit_59 : decode cX12_readUnit 59 = .ok (.isub, 1) := by decide +kernel
theorem dX12_readUnit_60 : decode cX12_readUnit 60 = .ok (.goto 7, 3) := by decide +kernel
theorem dX12_readUnit_63 : decode cX12_readUnit 63 = .ok (.aload_n 0, 1) := by decide +kernel
theorem dX12_readUnit_64 : decode cX12_readUnit 64 = .ok (.getfield 196, 3) := by decide +kernel
theorem dX12_readUnit_67 : decode cX12_readUnit 67 = .ok (.invokevirtual 224, 3) := by decide +kernel
theorem dX12_readUnit_70 : decode cX12_readUnit 70 = .ok (.aload_n 0, 1) := by decide +kernel
theorem dX12_readUnit_71 : decode cX12_readUnit 71 = .ok (.invokevirtual 228, 3) := by decide +kernel
theorem dX12_readUnit_74 : decode cX12_readUnit 74 = .ok (.iconst 0, 1) := by decide +kernel
theorem dX12_readUnit_75 : decode cX12_readUnit 75 = .ok (.ireturn, 1) := by decide +kernel
theorem dX12_readProduct_0 : decode cX12_readProduct 0 = .ok (.aload_n 0, 1) := by decide +kernel
theorem dX12_readProduct_1 : decode cX12_readProduct 1 = .ok (.invokevirtual 231, 3) := by decide +kernel
theorem dX12_readProduct_4 : decode cX12_readProduct 4 = .ok (.iconst (-1), 1) := by decide +kernel
theorem dX12_readProduct_5 : decode cX12_readProduct 5 = .ok (.if_icmp .ne 5, 3) := by decide +kernel
theorem dX12_readProduct_8 : decode cX12_readProduct 8 = .ok (.iconst (-1), 1) := by decide +kernel
theorem dX12_readProduct_9 : decode cX12_readProduct 9 = .ok (.ireturn, 1) := by decide +kernel
theorem dX12_readProduct_10 : decode cX12_readProduct 10 = .ok (.aload_n 0, 1) := by decide +kernel
theorem dX12_readProduct_11 : decode cX12_readProduct 11 = .ok (.bipush 42, 2) := by decide +kernel
theorem dX12_readProduct_13 : decode cX12_readProduct 13 = .ok (.invokevirtual 234, 3) := by decide +kernel
theorem dX12_readProduct_16 : decode cX12_readProduct 16 = .ok (.ifCond .ne 12, 3) := by decide +kernel
theorem dX12_readProduct_19 : decode cX12_readProduct 19 = .ok (.aload_n 0, 1) := by decide +kernel
theorem dX12_readProduct_20 : decode cX12_readProduct 20 = .ok (.bipush 47, 2) := by decide +kernel
theorem dX12_readProduct_22 : decode cX12_readProduct 22 = .ok (.invokevirtual 234, 3) := by decide +kernel
theorem dX12_readProduct_25 : decode cX12_readProduct 25 = .ok (.ifCond .eq 76, 3) := by decide +kernel
theorem dX12_readProduct_28 : decode cX12_readProduct 28 = .ok (.aload_n 0, 1) := by decide +kernel
theorem dX12_readProduct_29 : decode cX12_readProduct 29 = .ok (.bipush 42, 2) := by decide +kernel
theorem dX12_readProduct_31 : decode cX12_readProduct 31 = .ok (.invokevirtual 234, 3) := by decide +kernel
theorem dX12_readProduct_34 : decode cX12_readProduct 34 = .ok (.istore_n 1, 1) := by decide +kernel
theorem dX12_readProduct_35 : decode cX12_readProduct 35 = .ok (.aload_n 0, 1) := by decide +kernel
theorem dX12_readProduct_36 : decode cX12_readProduct 36 = .ok (.invokevirtual 228, 3) := by decide +kernel
theorem dX12_readProduct_39 : decode cX12_readProduct 39 = .ok (.iload_n 1, 1) := by decide +kernel
theorem dX12_readProduct_40 : decode cX12_readProduct 40 = .ok (.ifCond .ne 17, 3) := by decide +kernel
theorem dX12_readProduct_43 : decode cX12_readProduct 43 = .ok (.aload_n 0, 1) := by decide +kernel
theorem dX12_readProduct_44 : decode cX12_readProduct 44 = .ok (.getfield 193, 3) := by decide +kernel
theorem dX12_readProduct_47 : decode cX12_readProduct 47 = .ok (.iconst 3, 1) := by decide +kernel
theorem dX12_readProduct_48 : decode cX12_readProduct 48 = .ok (.if_icmp .eq 9, 3) := by decide +kernel
theorem dX12_readProduct_51 : decode cX12_readProduct 51 = .ok (.aload_n 0, 1) := by decide +kernel
theorem dX12_readProduct_52 : decode cX12_readProduct 52 = .ok (.iconst 1, 1) := by decide +kernel
theorem dX12_readProduct_53 : decode cX12_readProduct 53 = .ok (.invokevirtual 221, 3) := by decide +kernel
theorem dX12_readProduct_56 : decode cX12_readProduct 56 = .ok (.ireturn, 1) := by decide +kernel
theorem dX12_readProduct_57 : decode cX12_readProduct 57 = .ok (.iload_n 1, 1) := by decide +kernel
theorem dX12_readProduct_58 : decode cX12_readProduct 58 = .ok (.ifCond .ne 16, 3) := by decide +kernel
theorem dX12_readProduct_61 : decode cX12_readProduct 61 = .ok (.aload_n 0, 1) := by decide +kernel
theorem dX12_readProduct_62 : decode cX12_readProduct 62 = .ok (.getfield 196, 3) := by decide +kernel
theorem dX12_readProduct_65 : decode cX12_readProduct 65 = .ok (.ifCond .ne 9, 3) := by decide +kernel
theorem dX12_readProduct_68 : decode cX12_readProduct 68 = .ok (.aload_n 0, 1) := by decide +kernel
theorem dX12_readProduct_69 : decode cX12_readProduct 69 = .ok (.iconst 2, 1) := by decide +kernel
theorem dX12_readProduct_70 : decode cX12_readProduct 70 = .ok (.invokevirtual 221, 3) := by decide +kernel
theorem dX12_readProduct_73 : decode cX12_readProduct 73 = .ok (.ireturn, 1) := by decide +kernel
theorem dX12_readProduct_74 : decode cX12_readProduct 74 = .ok (.aload_n 0, 1) := by decide +kernel
theorem dX12_readProduct_75 : decode cX12_readProduct 75 = .ok (.invokevirtual 231, 3) := by decide +kernel
theorem dX12_readProduct_78 : decode cX12_readProduct 78 = .ok (.iconst (-1), 1) := by decide +kernel
theorem dX12_readProduct_79 : decode cX12_readProduct 79 = .ok (.if_icmp .ne 5, 3) := by decide +kernel
theorem dX12_readProduct_82 : decode cX12_readProduct 82 = .ok (.iconst (-1), 1) := by decide +kernel
theorem dX12_readProduct_83 : decode cX12_readProduct 83 = .ok (.ireturn, 1) := by decide +kernel
theorem dX12_readProduct_84 : decode cX12_readProduct 84 = .ok (.aload_n 0, 1) := by decide +kernel
theorem dX12_readProduct_85 : decode cX12_readProduct 85 = .ok (.iload_n 1, 1) := by decide +kernel
theorem dX12_readProduct_86 : decode cX12_readProduct 86 = .ok (.ifCond .eq 7, 3) := by decide +kernel
theorem dX12_readProduct_89 : decode cX12_readProduct 89 = .ok (.iconst 4, 1) := by decide +kernel
theorem dX12_readProduct_90 : decode cX12_readProduct 90 = .ok (.goto 4, 3) := by decide +kernel
theorem dX12_readProduct_93 : decode cX12_readProduct 93 = .ok (.iconst 5, 1) := by decide +kernel
theorem dX12_readProduct_94 : decode cX12_readProduct 94 = .ok (.iconst 0, 1) := by decide +kernel
theorem dX12_readProduct_95 : decode cX12_readProduct 95 = .ok (.invokevirtual 224, 3) := by decide +kernel
theorem dX12_readProduct_98 : decode cX12_readProduct 98 = .ok (.goto (-88), 3) := by decide +kernel
theorem dX12_readProduct_101 : decode cX12_readProduct 101 = .ok (.iconst 0, 1) := by decide +kernel
theorem dX12_readProduct_102 : decode cX12_readProduct 102 = .ok (.ireturn, 1) := by decide +kernel
theorem dX12_readSum_0 : decode cX12_readSum 0 = .ok (.aload_n 0, 1) := by decide +kernel
theorem dX12_readSum_1 : decode cX12_readSum 1 = .ok (.invokevirtual 237, 3) := by decide +kernel
theorem dX12_readSum_4 : decode cX12_readSum 4 = .ok (.iconst (-1), 1) := by decide +kernel
theorem dX12_readSum_5 : decode cX12_readSum 5 = .ok (.if_icmp .ne 5, 3) := by decide +kernel
theorem dX12_readSum_8 : decode cX12_readSum 8 = .ok (.iconst (-1), 1) := by decide +kernel
theorem dX12_readSum_9 : decode cX12_readSum 9 = .ok (.ireturn, 1) := by decide +kernel
theorem dX12_readSum_10 : decode cX12_readSum 10 = .ok (.aload_n 0, 1) := by decide +kernel
theorem dX12_readSum_11 : decode cX12_readSum 11 = .ok (.bipush 43, 2) := by decide +kernel
theorem dX12_readSum_13 : decode cX12_readSum 13 = .ok (.invokevirtual 234, 3) := by decide +kernel
theorem dX12_readSum_16 : decode cX12_readSum 16 = .ok (.ifCond .ne 12, 3) := by decide +kernel
theorem dX12_readSum_19 : decode cX12_readSum 19 = .ok (.aload_n 0, 1) := by decide +kernel
theorem dX12_readSum_20 : decode cX12_readSum 20 = .ok (.bipush 45, 2) := by decide +kernel
theorem dX12_readSum_22 : decode cX12_readSum 22 = .ok (.invokevirtual 234, 3) := by decide +kernel
theorem dX12_readSum_25 : decode cX12_readSum 25 = .ok (.ifCond .eq 41, 3) := by decide +kernel
theorem dX12_readSum_28 : decode cX12_readSum 28 = .ok (.aload_n 0, 1) := by decide +kernel
theorem dX12_readSum_29 : decode cX12_readSum 29 = .ok (.getfield 196, 3) := by decide +kernel
theorem dX12_readSum_32 : decode cX12_readSum 32 = .ok (.bipush 43, 2) := by decide +kernel
theorem dX12_readSum_34 : decode cX12_readSum 34 = .ok (.if_icmp .ne 7, 3) := by decide +kernel
theorem dX12_readSum_37 : decode cX12_readSum 37 = .ok (.iconst 2, 1) := by decide +kernel
theorem dX12_readSum_38 : decode cX12_readSum 38 = .ok (.goto 4, 3) := by decide +kernel
theorem dX12_readSum_41 : decode cX12_readSum 41 = .ok (.iconst 3, 1) := by decide +kernel
theorem dX12_readSum_42 : decode cX12_readSum 42 = .ok (.istore_n 1, 1) := by decide +kernel
theorem dX12_readSum_43 : decode cX12_readSum 43 = .ok (.aload_n 0, 1) := by decide +kernel
theorem dX12_readSum_44 : decode cX12_readSum 44 = .ok (.invokevirtual 228, 3) := by decide +kernel
theorem dX12_readSum_47 : decode cX12_readSum 47 = .ok (.aload_n 0, 1) := by decide +kernel
theorem dX12_readSum_48 : decode cX12_readSum 48 = .ok (.invokevirtual 237, 3) := by decide +kernel
theorem dX12_readSum_51 : decode cX12_readSum 51 = .ok (.iconst (-1), 1) := by decide +kernel
theorem dX12_readSum_52 : decode cX12_readSum 52 = .ok (.if_icmp .ne 5, 3) := by decide +kernel
theorem dX12_readSum_55 : decode cX12_readSum 55 = .ok (.iconst (-1), 1) := by decide +kernel
theorem dX12_readSum_56 : decode cX12_readSum 56 = .ok (.ireturn, 1) := by decide +kernel
theorem dX12_readSum_57 : decode cX12_readSum 57 = .ok (.aload_n 0, 1) := by decide +kernel
theorem dX12_readSum_58 : decode cX12_readSum 58 = .ok (.iload_n 1, 1) := by decide +kernel
theorem dX12_readSum_59 : decode cX12_readSum 59 = .ok (.iconst 0, 1) := by decide +kernel
theorem dX12_readSum_60 : decode cX12_readSum 60 = .ok (.invokevirtual 224, 3) := by decide +kernel
theorem dX12_readSum_63 : decode cX12_readSum 63 = .ok (.goto (-53), 3) := by decide +kernel
theorem dX12_readSum_66 : decode cX12_readSum 66 = .ok (.iconst 0, 1) := by decide +kernel
theorem dX12_readSum_67 : decode cX12_readSum 67 = .ok (.ireturn, 1) := by decide +kernel
theorem dX12_readCompared_0 : decode cX12_readCompared 0 = .ok (.aload_n 0, 1) := by decide +kernel
theorem dX12_readCompared_1 : decode cX12_readCompared 1 = .ok (.invokevirtual 240, 3) := by decide +kernel
theorem dX12_readCompared_4 : decode cX12_readCompared 4 = .ok (.iconst (-1), 1) := by decide +kernel
theorem dX12_readCompared_5 : decode cX12_readCompared 5 = .ok (.if_icmp .ne 5, 3) := by decide +kernel
theorem dX12_readCompared_8 : decode cX12_readCompared 8 = .ok (.iconst (-1), 1) := by decide +kernel
theorem dX12_readCompared_9 : decode cX12_readCompared 9 = .ok (.ireturn, 1) := by decide +kernel
theorem dX12_readCompared_10 : decode cX12_readCompared 10 = .ok (.aload_n 0, 1) := by decide +kernel
theorem dX12_readCompared_11 : decode cX12_readCompared 11 = .ok (.bipush 60, 2) := by decide +kernel
theorem dX12_readCompared_13 : decode cX12_readCompared 13 = .ok (.invokevirtual 234, 3) := by decide +kernel
theorem dX12_readCompared_16 : decode cX12_readCompared 16 = .ok (.ifCond .ne 27, 3) := by decide +kernel
theorem dX12_readCompared_19 : decode cX12_readCompared 19 = .ok (.aload_n 0, 1) := by decide +kernel
theorem dX12_readCompared_20 : decode cX12_readCompared 20 = .ok (.bipush 61, 2) := by decide +kernel
theorem dX12_readCompared_22 : decode cX12_readCompared 22 = .ok (.invokevirtual 234, 3) := by decide +kernel
theorem dX12_readCompared_25 : decode cX12_readCompared 25 = .ok (.ifCond .ne 18, 3) := by decide +kernel
theorem dX12_readCompared_28 : decode cX12_readCompared 28 = .ok (.aload_n 0, 1) := by decide +kernel
theorem dX12_readCompared_29 : decode cX12_readCompared 29 = .ok (.bipush 62, 2) := by decide +kernel
theorem dX12_readCompared_31 : decode cX12_readCompared 31 = .ok (.invokevirtual 234, 3) := by decide +kernel
theorem dX12_readCompared_34 : decode cX12_readCompared 34 = .ok (.ifCond .ne 9, 3) := by decide +kernel
theorem dX12_readCompared_37 : decode cX12_readCompared 37 = .ok (.aload_n 0, 1) := by decide +kernel
theorem dX12_readCompared_38 : decode cX12_readCompared 38 = .ok (.iconst 1, 1) := by decide +kernel
theorem dX12_readCompared_39 : decode cX12_readCompared 39 = .ok (.invokevirtual 221, 3) := by decide +kernel
theorem dX12_readCompared_42 : decode cX12_readCompared 42 = .ok (.ireturn, 1) := by decide +kernel
theorem dX12_readCompared_43 : decode cX12_readCompared 43 = .ok (.aload_n 0, 1) := by decide +kernel
theorem dX12_readCompared_44 : decode cX12_readCompared 44 = .ok (.getfield 196, 3) := by decide +kernel
theorem dX12_readCompared_47 : decode cX12_readCompared 47 = .ok (.bipush 60, 2) := by decide +kernel
theorem dX12_readCompared_49 : decode cX12_readCompared 49 = .ok (.if_icmp .ne 8, 3) := by decide +kernel
theorem dX12_readCompared_52 : decode cX12_readCompared 52 = .ok (.bipush 6, 2) := by decide +kernel
theorem dX12_readCompared_54 : decode cX12_readCompared 54 = .ok (.goto 19, 3) := by decide +kernel
theorem dX12_readCompared_57 : decode cX12_readCompared 57 = .ok (.aload_n 0, 1) := by decide +kernel
theorem dX12_readCompared_58 : decode cX12_readCompared 58 = .ok (.getfield 196, 3) := by decide +kernel
theorem dX12_readCompared_61 : decode cX12_readCompared 61 = .ok (.bipush 61, 2) := by decide +kernel
theorem dX12_readCompared_63 : decode cX12_readCompared 63 = .ok (.if_icmp .ne 8, 3) := by decide +kernel
theorem dX12_readCompared_66 : decode cX12_readCompared 66 = .ok (.bipush 7, 2) := by decide +kernel
theorem dX12_readCompared_68 : decode cX12_readCompared 68 = .ok (.goto 5, 3) := by decide +kernel
theorem dX12_readCompared_71 : decode cX12_readCompared 71 = .ok (.bipush 8, 2) := by decide +kernel
theorem dX12_readCompared_73 : decode cX12_readCompared 73 = .ok (.istore_n 1, 1) := by decide +kernel
theorem dX12_readCompared_74 : decode cX12_readCompared 74 = .ok (.aload_n 0, 1) := by decide +kernel
theorem dX12_readCompared_75 : decode cX12_readCompared 75 = .ok (.invokevirtual 228, 3) := by decide +kernel
theorem dX12_readCompared_78 : decode cX12_readCompared 78 = .ok (.aload_n 0, 1) := by decide +kernel
theorem dX12_readCompared_79 : decode cX12_readCompared 79 = .ok (.invokevirtual 240, 3) := by decide +kernel
theorem dX12_readCompared_82 : decode cX12_readCompared 82 = .ok (.iconst (-1), 1) := by decide +kernel
theorem dX12_readCompared_83 : decode cX12_readCompared 83 = .ok (.if_icmp .ne 5, 3) := by decide +kernel
theorem dX12_readCompared_86 : decode cX12_readCompared 86 = .ok (.iconst (-1), 1) := by decide +kernel
theorem dX12_readCompared_87 : decode cX12_readCompared 87 = .ok (.ireturn, 1) := by decide +kernel
theorem dX12_readCompared_88 : decode cX12_readCompared 88 = .ok (.aload_n 0, 1) := by decide +kernel
theorem dX12_readCompared_89 : decode cX12_readCompared 89 = .ok (.iload_n 1, 1) := by decide +kernel
theorem dX12_readCompared_90 : decode cX12_readCompared 90 = .ok (.iconst 0, 1) := by decide +kernel
theorem dX12_readCompared_91 : decode cX12_readCompared 91 = .ok (.invokevirtual 224, 3) := by decide +kernel
theorem dX12_readCompared_94 : decode cX12_readCompared 94 = .ok (.iconst 0, 1) := by decide +kernel
theorem dX12_readCompared_95 : decode cX12_readCompared 95 = .ok (.ireturn, 1) := by decide +kernel
theorem dX12_waits_0 : decode cX12_waits 0 = .ok (.aload_n 0, 1) := by decide +kernel
theorem dX12_waits_1 : decode cX12_waits 1 = .ok (.getfield 92, 3) := by decide +kernel
theorem dX12_waits_4 : decode cX12_waits 4 = .ok (.aload_n 0, 1) := by decide +kernel
theorem dX12_waits_5 : decode cX12_waits 5 = .ok (.getfield 243, 3) := by decide +kernel
theorem dX12_waits_8 : decode cX12_waits 8 = .ok (.iload_n 1, 1) := by decide +kernel
theorem dX12_waits_9 : decode cX12_waits 9 = .ok (.iastore, 1) := by decide +kernel
theorem dX12_waits_10 : decode cX12_waits 10 = .ok (.aload_n 0, 1) := by decide +kernel
theorem dX12_waits_11 : decode cX12_waits 11 = .ok (.aload_n 0, 1) := by decide +kernel
theorem dX12_waits_12 : decode cX12_waits 12 = .ok (.getfield 243, 3) := by decide +kernel
theorem dX12_waits_15 : decode cX12_waits 15 = .ok (.iconst 1, 1) := by decide +kernel
theorem dX12_waits_16 : decode cX12_waits 16 = .ok (.iadd, 1) := by decide +kernel
theorem dX12_waits_17 : decode cX12_waits 17 = .ok (.putfield 243, 3) := by decide +kernel
theorem dX12_waits_20 : decode cX12_waits 20 = .ok (.return_, 1) := by decide +kernel
theorem dX12_settles_0 : decode cX12_settles 0 = .ok (.aload_n 0, 1) := by decide +kernel
theorem dX12_settles_1 : decode cX12_settles 1 = .ok (.getfield 243, 3) := by decide +kernel
theorem dX12_settles_4 : decode cX12_settles 4 = .ok (.ifCond .le 53, 3) := by decide +kernel
theorem dX12_settles_7 : decode cX12_settles 7 = .ok (.aload_n 0, 1) := by decide +kernel
theorem dX12_settles_8 : decode cX12_settles 8 = .ok (.getfield 92, 3) := by decide +kernel
theorem dX12_settles_11 : decode cX12_settles 11 = .ok (.aload_n 0, 1) := by decide +kernel
theorem dX12_settles_12 : decode cX12_settles 12 = .ok (.getfield 243, 3) := by decide +kernel
theorem dX12_settles_15 : decode cX12_settles 15 = .ok (.iconst 1, 1) := by decide +kernel
theorem dX12_settles_16 : decode cX12_settles 16 = .ok (.isub, 1) := by decide +kernel
theorem dX12_settles_17 : decode cX12_settles 17 = .ok (.iaload, 1) := by decide +kernel
theorem dX12_settles_18 : decode cX12_settles 18 = .ok (.iload_n 1, 1) := by decide +kernel
theorem dX12_settles_19 : decode cX12_settles 19 = .ok (.if_icmp .ne 38, 3) := by decide +kernel
theorem dX12_settles_22 : decode cX12_settles 22 = .ok (.aload_n 0, 1) := by decide +kernel
theorem dX12_settles_23 : decode cX12_settles 23 = .ok (.aload_n 0, 1) := by decide +kernel
theorem dX12_settles_24 : decode cX12_settles 24 = .ok (.getfield 243, 3) := by decide +kernel
theorem dX12_settles_27 : decode cX12_settles 27 = .ok (.iconst 1, 1) := by decide +kernel
theorem dX12_settles_28 : decode cX12_settles 28 = .ok (.isub, 1) := by decide +kernel
theorem dX12_settles_29 : decode cX12_settles 29 = .ok (.putfield 243, 3) := by decide +kernel
theorem dX12_settles_32 : decode cX12_settles 32 = .ok (.aload_n 0, 1) := by decide +kernel
theorem dX12_settles_33 : decode cX12_settles 33 = .ok (.iload_n 1, 1) := by decide +kernel
theorem dX12_settles_34 : decode cX12_settles 34 = .ok (.iconst 0, 1) := by decide +kernel
theorem dX12_settles_35 : decode cX12_settles 35 = .ok (.invokevirtual 224, 3) := by decide +kernel
theorem dX12_settles_38 : decode cX12_settles 38 = .ok (.iload_n 1, 1) := by decide +kernel
theorem dX12_settles_39 : decode cX12_settles 39 = .ok (.bipush 9, 2) := by decide +kernel
theorem dX12_settles_41 : decode cX12_settles 41 = .ok (.if_icmp .ne (-41), 3) := by decide +kernel
theorem dX12_settles_44 : decode cX12_settles 44 = .ok (.aload_n 0, 1) := by decide +kernel
theorem dX12_settles_45 : decode cX12_settles 45 = .ok (.aload_n 0, 1) := by decide +kernel
theorem dX12_settles_46 : decode cX12_settles 46 = .ok (.getfield 246, 3) := by decide +kernel
theorem dX12_settles_49 : decode cX12_settles 49 = .ok (.iconst 1, 1) := by decide +kernel
theorem dX12_settles_50 : decode cX12_settles 50 = .ok (.isub, 1) := by decide +kernel
theorem dX12_settles_51 : decode cX12_settles 51 = .ok (.putfield 246, 3) := by decide +kernel
theorem dX12_settles_54 : decode cX12_settles 54 = .ok (.goto (-54), 3) := by decide +kernel
theorem dX12_settles_57 : decode cX12_settles 57 = .ok (.return_, 1) := by decide +kernel
theorem dX12_readAny_0 : decode cX12_readAny 0 = .ok (.iconst 0, 1) := by decide +kernel
theorem dX12_readAny_1 : decode cX12_readAny 1 = .ok (.istore_n 1, 1) := by decide +kernel
theorem dX12_readAny_2 : decode cX12_readAny 2 = .ok (.aload_n 0, 1) := by decide +kernel
theorem dX12_readAny_3 : decode cX12_readAny 3 = .ok (.iconst 0, 1) := by decide +kernel
theorem dX12_readAny_4 : decode cX12_readAny 4 = .ok (.putfield 243, 3) := by decide +kernel
theorem dX12_readAny_7 : decode cX12_readAny 7 = .ok (.iconst 1, 1) := by decide +kernel
theorem dX12_readAny_8 : decode cX12_readAny 8 = .ok (.istore_n 2, 1) := by decide +kernel
theorem dX12_readAny_9 : decode cX12_readAny 9 = .ok (.iload_n 2, 1) := by decide +kernel
theorem dX12_readAny_10 : decode cX12_readAny 10 = .ok (.ifCond .eq 98, 3) := by decide +kernel
theorem dX12_readAny_13 : decode cX12_readAny 13 = .ok (.aload_n 0, 1) := by decide +kernel
theorem dX12_readAny_14 : decode cX12_readAny 14 = .ok (.iconst 4, 1) := by decide +kernel
theorem dX12_readAny_15 : decode cX12_readAny 15 = .ok (.invokevirtual 249, 3) := by decide +kernel
theorem dX12_readAny_18 : decode cX12_readAny 18 = .ok (.istore_n 3, 1) := by decide +kernel
theorem dX12_readAny_19 : decode cX12_readAny 19 = .ok (.iload_n 3, 1) := by decide +kernel
theorem dX12_readAny_20 : decode cX12_readAny 20 = .ok (.ifCond .ne 12, 3) := by decide +kernel
theorem dX12_readAny_23 : decode cX12_readAny 23 = .ok (.aload_n 0, 1) := by decide +kernel
theorem dX12_readAny_24 : decode cX12_readAny 24 = .ok (.bipush 40, 2) := by decide +kernel
theorem dX12_readAny_26 : decode cX12_readAny 26 = .ok (.invokevirtual 234, 3) := by decide +kernel
theorem dX12_readAny_29 : decode cX12_readAny 29 = .ok (.ifCond .eq 58, 3) := by decide +kernel
theorem dX12_readAny_32 : decode cX12_readAny 32 = .ok (.aload_n 0, 1) := by decide +kernel
theorem dX12_readAny_33 : decode cX12_readAny 33 = .ok (.getfield 246, 3) := by decide +kernel
theorem dX12_readAny_36 : decode cX12_readAny 36 = .ok (.bipush 8, 2) := by decide +kernel
theorem dX12_readAny_38 : decode cX12_readAny 38 = .ok (.if_icmp .ne 9, 3) := by decide +kernel
theorem dX12_readAny_41 : decode cX12_readAny 41 = .ok (.aload_n 0, 1) := by decide +kernel
theorem dX12_readAny_42 : decode cX12_readAny 42 = .ok (.iconst 3, 1) := by decide +kernel
theorem dX12_readAny_43 : decode cX12_readAny 43 = .ok (.invokevirtual 221, 3) := by decide +kernel
theorem dX12_readAny_46 : decode cX12_readAny 46 = .ok (.ireturn, 1) := by decide +kernel
theorem dX12_readAny_47 : decode cX12_readAny 47 = .ok (.aload_n 0, 1) := by decide +kernel
theorem dX12_readAny_48 : decode cX12_readAny 48 = .ok (.aload_n 0, 1) := by decide +kernel
theorem dX12_readAny_49 : decode cX12_readAny 49 = .ok (.getfield 246, 3) := by decide +kernel
theorem dX12_readAny_52 : decode cX12_readAny 52 = .ok (.iconst 1, 1) := by decide +kernel
theorem dX12_readAny_53 : decode cX12_readAny 53 = .ok (.iadd, 1) := by decide +kernel
theorem dX12_readAny_54 : decode cX12_readAny 54 = .ok (.putfield 246, 3) := by decide +kernel
theorem dX12_readAny_57 : decode cX12_readAny 57 = .ok (.iload_n 3, 1) := by decide +kernel
theorem dX12_readAny_58 : decode cX12_readAny 58 = .ok (.ifCond .ne 7, 3) := by decide +kernel
theorem dX12_readAny_61 : decode cX12_readAny 61 = .ok (.iload_n 1, 1) := by decide +kernel
theorem dX12_readAny_62 : decode cX12_readAny 62 = .ok (.iconst 1, 1) := by decide +kernel
theorem dX12_readAny_63 : decode cX12_readAny 63 = .ok (.iadd, 1) := by decide +kernel
theorem dX12_readAny_64 : decode cX12_readAny 64 = .ok (.istore_n 1, 1) := by decide +kernel
theorem dX12_readAny_65 : decode cX12_readAny 65 = .ok (.aload_n 0, 1) := by decide +kernel
theorem dX12_readAny_66 : decode cX12_readAny 66 = .ok (.iload_n 3, 1) := by decide +kernel
theorem dX12_readAny_67 : decode cX12_readAny 67 = .ok (.ifCond .eq 8, 3) := by decide +kernel
theorem dX12_readAny_70 : decode cX12_readAny 70 = .ok (.bipush 9, 2) := by decide +kernel
theorem dX12_readAny_72 : decode cX12_readAny 72 = .ok (.goto 5, 3) := by decide +kernel
theorem dX12_readAny_75 : decode cX12_readAny 75 = .ok (.bipush 12, 2) := by decide +kernel
theorem dX12_readAny_77 : decode cX12_readAny 77 = .ok (.invokevirtual 252, 3) := by decide +kernel
theorem dX12_readAny_80 : decode cX12_readAny 80 = .ok (.aload_n 0, 1) := by decide +kernel
theorem dX12_readAny_81 : decode cX12_readAny 81 = .ok (.invokevirtual 228, 3) := by decide +kernel
theorem dX12_readAny_84 : decode cX12_readAny 84 = .ok (.goto (-75), 3) := by decide +kernel
theorem dX12_readAny_87 : decode cX12_readAny 87 = .ok (.aload_n 0, 1) := by decide +kernel
theorem dX12_readAny_88 : decode cX12_readAny 88 = .ok (.invokevirtual 255, 3) := by decide +kernel
theorem dX12_readAny_91 : decode cX12_readAny 91 = .ok (.iconst (-1), 1) := by decide +kernel
theorem dX12_readAny_92 : decode cX12_readAny 92 = .ok (.if_icmp .ne 5, 3) := by decide +kernel
theorem dX12_readAny_95 : decode cX12_readAny 95 = .ok (.iconst (-1), 1) := by decide +kernel
theorem dX12_readAny_96 : decode cX12_readAny 96 = .ok (.ireturn, 1) := by decide +kernel
theorem dX12_readAny_97 : decode cX12_readAny 97 = .ok (.aload_n 0, 1) := by decide +kernel
theorem dX12_readAny_98 : decode cX12_readAny 98 = .ok (.bipush 9, 2) := by decide +kernel
theorem dX12_readAny_100 : decode cX12_readAny 100 = .ok (.invokevirtual 258, 3) := by decide +kernel
theorem dX12_readAny_103 : decode cX12_readAny 103 = .ok (.iconst 0, 1) := by decide +kernel
theorem dX12_readAny_104 : decode cX12_readAny 104 = .ok (.istore_n 2, 1) := by decide +kernel
theorem dX12_readAny_105 : decode cX12_readAny 105 = .ok (.goto (-96), 3) := by decide +kernel
theorem dX12_readAny_108 : decode cX12_readAny 108 = .ok (.aload_n 0, 1) := by decide +kernel
theorem dX12_readAny_109 : decode cX12_readAny 109 = .ok (.iconst 3, 1) := by decide +kernel
theorem dX12_readAny_110 : decode cX12_readAny 110 = .ok (.invokevirtual 249, 3) := by decide +kernel
theorem dX12_readAny_113 : decode cX12_readAny 113 = .ok (.ifCond .eq 24, 3) := by decide +kernel
theorem dX12_readAny_116 : decode cX12_readAny 116 = .ok (.aload_n 0, 1) := by decide +kernel
theorem dX12_readAny_117 : decode cX12_readAny 117 = .ok (.bipush 10, 2) := by decide +kernel
theorem dX12_readAny_119 : decode cX12_readAny 119 = .ok (.invokevirtual 258, 3) := by decide +kernel
theorem dX12_readAny_122 : decode cX12_readAny 122 = .ok (.aload_n 0, 1) := by decide +kernel
theorem dX12_readAny_123 : decode cX12_readAny 123 = .ok (.bipush 10, 2) := by decide +kernel
theorem dX12_readAny_125 : decode cX12_readAny 125 = .ok (.invokevirtual 252, 3) := by decide +kernel
theorem dX12_readAny_128 : decode cX12_readAny 128 = .ok (.aload_n 0, 1) := by decide +kernel
theorem dX12_readAny_129 : decode cX12_readAny 129 = .ok (.invokevirtual 228, 3) := by decide +kernel
theorem dX12_readAny_132 : decode cX12_readAny 132 = .ok (.iconst 1, 1) := by decide +kernel
theorem dX12_readAny_133 : decode cX12_readAny 133 = .ok (.istore_n 2, 1) := by decide +kernel
theorem dX12_readAny_134 : decode cX12_readAny 134 = .ok (.goto (-125), 3) := by decide +kernel
theorem dX12_readAny_137 : decode cX12_readAny 137 = .ok (.aload_n 0, 1) := by decide +kernel
theorem dX12_readAny_138 : decode cX12_readAny 138 = .ok (.iconst 2, 1) := by decide +kernel
theorem dX12_readAny_139 : decode cX12_readAny 139 = .ok (.invokevirtual 249, 3) := by decide +kernel
theorem dX12_readAny_142 : decode cX12_readAny 142 = .ok (.ifCond .eq 30, 3) := by decide +kernel
theorem dX12_readAny_145 : decode cX12_readAny 145 = .ok (.aload_n 0, 1) := by decide +kernel
theorem dX12_readAny_146 : decode cX12_readAny 146 = .ok (.bipush 10, 2) := by decide +kernel
theorem dX12_readAny_148 : decode cX12_readAny 148 = .ok (.invokevirtual 258, 3) := by decide +kernel
theorem dX12_readAny_151 : decode cX12_readAny 151 = .ok (.aload_n 0, 1) := by decide +kernel
theorem dX12_readAny_152 : decode cX12_readAny 152 = .ok (.bipush 11, 2) := by decide +kernel
theorem dX12_readAny_154 : decode cX12_readAny 154 = .ok (.invokevirtual 258, 3) := by decide +kernel
theorem dX12_readAny_157 : decode cX12_readAny 157 = .ok (.aload_n 0, 1) := by decide +kernel
theorem dX12_readAny_158 : decode cX12_readAny 158 = .ok (.bipush 11, 2) := by decide +kernel
theorem dX12_readAny_160 : decode cX12_readAny 160 = .ok (.invokevirtual 252, 3) := by decide +kernel
theorem dX12_readAny_163 : decode cX12_readAny 163 = .ok (.aload_n 0, 1) := by decide +kernel
theorem dX12_readAny_164 : decode cX12_readAny 164 = .ok (.invokevirtual 228, 3) := by decide +kernel
theorem dX12_readAny_167 : decode cX12_readAny 167 = .ok (.iconst 1, 1) := by decide +kernel
theorem dX12_readAny_168 : decode cX12_readAny 168 = .ok (.istore_n 2, 1) := by decide +kernel
theorem dX12_readAny_169 : decode cX12_readAny 169 = .ok (.goto (-160), 3) := by decide +kernel
theorem dX12_readAny_172 : decode cX12_readAny 172 = .ok (.aload_n 0, 1) := by decide +kernel
theorem dX12_readAny_173 : decode cX12_readAny 173 = .ok (.bipush 10, 2) := by decide +kernel
theorem dX12_readAny_175 : decode cX12_readAny 175 = .ok (.invokevirtual 258, 3) := by decide +kernel
theorem dX12_readAny_178 : decode cX12_readAny 178 = .ok (.aload_n 0, 1) := by decide +kernel
theorem dX12_readAny_179 : decode cX12_readAny 179 = .ok (.bipush 11, 2) := by decide +kernel
theorem dX12_readAny_181 : decode cX12_readAny 181 = .ok (.invokevirtual 258, 3) := by decide +kernel
theorem dX12_readAny_184 : decode cX12_readAny 184 = .ok (.iload_n 1, 1) := by decide +kernel
theorem dX12_readAny_185 : decode cX12_readAny 185 = .ok (.ifCond .ne 5, 3) := by decide +kernel
theorem dX12_readAny_188 : decode cX12_readAny 188 = .ok (.iconst 0, 1) := by decide +kernel
theorem dX12_readAny_189 : decode cX12_readAny 189 = .ok (.ireturn, 1) := by decide +kernel
theorem dX12_readAny_190 : decode cX12_readAny 190 = .ok (.aload_n 0, 1) := by decide +kernel
theorem dX12_readAny_191 : decode cX12_readAny 191 = .ok (.bipush 41, 2) := by decide +kernel
theorem dX12_readAny_193 : decode cX12_readAny 193 = .ok (.invokevirtual 234, 3) := by decide +kernel
theorem dX12_readAny_196 : decode cX12_readAny 196 = .ok (.ifCond .ne 9, 3) := by decide +kernel
theorem dX12_readAny_199 : decode cX12_readAny 199 = .ok (.aload_n 0, 1) := by decide +kernel
theorem dX12_readAny_200 : decode cX12_readAny 200 = .ok (.iconst 1, 1) := by decide +kernel
theorem dX12_readAny_201 : decode cX12_readAny 201 = .ok (.invokevirtual 221, 3) := by decide +kernel
theorem dX12_readAny_204 : decode cX12_readAny 204 = .ok (.ireturn, 1) := by decide +kernel
theorem dX12_readAny_205 : decode cX12_readAny 205 = .ok (.aload_n 0, 1) := by decide +kernel
theorem dX12_readAny_206 : decode cX12_readAny 206 = .ok (.aload_n 0, 1) := by decide +kernel
theorem dX12_readAny_207 : decode cX12_readAny 207 = .ok (.getfield 243, 3) := by decide +kernel
theorem dX12_readAny_210 : decode cX12_readAny 210 = .ok (.iconst 1, 1) := by decide +kernel
theorem dX12_readAny_211 : decode cX12_readAny 211 = .ok (.isub, 1) := by decide +kernel
theorem dX12_readAny_212 : decode cX12_readAny 212 = .ok (.putfield 243, 3) := by decide +kernel
theorem dX12_readAny_215 : decode cX12_readAny 215 = .ok (.iload_n 1, 1) := by decide +kernel
theorem dX12_readAny_216 : decode cX12_readAny 216 = .ok (.iconst 1, 1) := by decide +kernel
theorem dX12_readAny_217 : decode cX12_readAny 217 = .ok (.isub, 1) := by decide +kernel
theorem dX12_readAny_218 : decode cX12_readAny 218 = .ok (.istore_n 1, 1) := by decide +kernel
theorem dX12_readAny_219 : decode cX12_readAny 219 = .ok (.aload_n 0, 1) := by decide +kernel
theorem dX12_readAny_220 : decode cX12_readAny 220 = .ok (.aload_n 0, 1) := by decide +kernel
theorem dX12_readAny_221 : decode cX12_readAny 221 = .ok (.getfield 246, 3) := by decide +kernel
theorem dX12_readAny_224 : decode cX12_readAny 224 = .ok (.iconst 1, 1) := by decide +kernel
theorem dX12_readAny_225 : decode cX12_readAny 225 = .ok (.isub, 1) := by decide +kernel
theorem dX12_readAny_226 : decode cX12_readAny 226 = .ok (.putfield 246, 3) := by decide +kernel
theorem dX12_readAny_229 : decode cX12_readAny 229 = .ok (.aload_n 0, 1) := by decide +kernel
theorem dX12_readAny_230 : decode cX12_readAny 230 = .ok (.bipush 9, 2) := by decide +kernel
theorem dX12_readAny_232 : decode cX12_readAny 232 = .ok (.invokevirtual 258, 3) := by decide +kernel
theorem dX12_readAny_235 : decode cX12_readAny 235 = .ok (.aload_n 0, 1) := by decide +kernel
theorem dX12_readAny_236 : decode cX12_readAny 236 = .ok (.invokevirtual 228, 3) := by decide +kernel
theorem dX12_readAny_239 : decode cX12_readAny 239 = .ok (.goto (-230), 3) := by decide +kernel
theorem dX12_readText_0 : decode cX12_readText 0 = .ok (.iconst 0, 1) := by decide +kernel
theorem dX12_readText_1 : decode cX12_readText 1 = .ok (.istore_n 1, 1) := by decide +kernel
theorem dX12_readText_2 : decode cX12_readText 2 = .ok (.aload_n 0, 1) := by decide +kernel
theorem dX12_readText_3 : decode cX12_readText 3 = .ok (.iconst 0, 1) := by decide +kernel
theorem dX12_readText_4 : decode cX12_readText 4 = .ok (.invokevirtual 249, 3) := by decide +kernel
theorem dX12_readText_7 : decode cX12_readText 7 = .ok (.ifCond .eq 112, 3) := by decide +kernel
theorem dX12_readText_10 : decode cX12_readText 10 = .ok (.iload_n 1, 1) := by decide +kernel
theorem dX12_readText_11 : decode cX12_readText 11 = .ok (.bipush 16, 2) := by decide +kernel
theorem dX12_readText_13 : decode cX12_readText 13 = .ok (.if_icmp .ne 9, 3) := by decide +kernel
theorem dX12_readText_16 : decode cX12_readText 16 = .ok (.aload_n 0, 1) := by decide +kernel
theorem dX12_readText_17 : decode cX12_readText 17 = .ok (.iconst 3, 1) := by decide +kernel
theorem dX12_readText_18 : decode cX12_readText 18 = .ok (.invokevirtual 221, 3) := by decide +kernel
theorem dX12_readText_21 : decode cX12_readText 21 = .ok (.ireturn, 1) := by decide +kernel
theorem dX12_readText_22 : decode cX12_readText 22 = .ok (.bipush 16, 2) := by decide +kernel
theorem dX12_readText_24 : decode cX12_readText 24 = .ok (.iload_n 1, 1) := by decide +kernel
theorem dX12_readText_25 : decode cX12_readText 25 = .ok (.iadd, 1) := by decide +kernel
theorem dX12_readText_26 : decode cX12_readText 26 = .ok (.istore_n 2, 1) := by decide +kernel
theorem dX12_readText_27 : decode cX12_readText 27 = .ok (.aload_n 0, 1) := by decide +kernel
theorem dX12_readText_28 : decode cX12_readText 28 = .ok (.invokevirtual 228, 3) := by decide +kernel
theorem dX12_readText_31 : decode cX12_readText 31 = .ok (.aload_n 0, 1) := by decide +kernel
theorem dX12_readText_32 : decode cX12_readText 32 = .ok (.getfield 80, 3) := by decide +kernel
theorem dX12_readText_35 : decode cX12_readText 35 = .ok (.iload_n 2, 1) := by decide +kernel
theorem dX12_readText_36 : decode cX12_readText 36 = .ok (.aload_n 0, 1) := by decide +kernel
theorem dX12_readText_37 : decode cX12_readText 37 = .ok (.getfield 218, 3) := by decide +kernel
theorem dX12_readText_40 : decode cX12_readText 40 = .ok (.iastore, 1) := by decide +kernel
theorem dX12_readText_41 : decode cX12_readText 41 = .ok (.aload_n 0, 1) := by decide +kernel
theorem dX12_readText_42 : decode cX12_readText 42 = .ok (.invokevirtual 240, 3) := by decide +kernel
theorem dX12_readText_45 : decode cX12_readText 45 = .ok (.iconst (-1), 1) := by decide +kernel
theorem dX12_readText_46 : decode cX12_readText 46 = .ok (.if_icmp .ne 5, 3) := by decide +kernel
theorem dX12_readText_49 : decode cX12_readText 49 = .ok (.iconst (-1), 1) := by decide +kernel
theorem dX12_readText_50 : decode cX12_readText 50 = .ok (.ireturn, 1) := by decide +kernel
theorem dX12_readText_51 : decode cX12_readText 51 = .ok (.aload_n 0, 1) := by decide +kernel
theorem dX12_readText_52 : decode cX12_readText 52 = .ok (.getfield 77, 3) := by decide +kernel
theorem dX12_readText_55 : decode cX12_readText 55 = .ok (.iload_n 2, 1) := by decide +kernel
theorem dX12_readText_56 : decode cX12_readText 56 = .ok (.aload_n 0, 1) := by decide +kernel
theorem dX12_readText_57 : decode cX12_readText 57 = .ok (.getfield 218, 3) := by decide +kernel
theorem dX12_readText_60 : decode cX12_readText 60 = .ok (.iastore, 1) := by decide +kernel
theorem dX12_readText_61 : decode cX12_readText 61 = .ok (.aload_n 0, 1) := by decide +kernel
theorem dX12_readText_62 : decode cX12_readText 62 = .ok (.iconst 1, 1) := by decide +kernel
theorem dX12_readText_63 : decode cX12_readText 63 = .ok (.invokevirtual 249, 3) := by decide +kernel
theorem dX12_readText_66 : decode cX12_readText 66 = .ok (.ifCond .eq 17, 3) := by decide +kernel
theorem dX12_readText_69 : decode cX12_readText 69 = .ok (.aload_n 0, 1) := by decide +kernel
theorem dX12_readText_70 : decode cX12_readText 70 = .ok (.invokevirtual 228, 3) := by decide +kernel
theorem dX12_readText_73 : decode cX12_readText 73 = .ok (.aload_n 0, 1) := by decide +kernel
theorem dX12_readText_74 : decode cX12_readText 74 = .ok (.invokevirtual 261, 3) := by decide +kernel
theorem dX12_readText_77 : decode cX12_readText 77 = .ok (.iconst (-1), 1) := by decide +kernel
theorem dX12_readText_78 : decode cX12_readText 78 = .ok (.if_icmp .ne 5, 3) := by decide +kernel
theorem dX12_readText_81 : decode cX12_readText 81 = .ok (.iconst (-1), 1) := by decide +kernel
theorem dX12_readText_82 : decode cX12_readText 82 = .ok (.ireturn, 1) := by decide +kernel
theorem dX12_readText_83 : decode cX12_readText 83 = .ok (.aload_n 0, 1) := by decide +kernel
theorem dX12_readText_84 : decode cX12_readText 84 = .ok (.getfield 83, 3) := by decide +kernel
theorem dX12_readText_87 : decode cX12_readText 87 = .ok (.iload_n 2, 1) := by decide +kernel
theorem dX12_readText_88 : decode cX12_readText 88 = .ok (.aload_n 0, 1) := by decide +kernel
theorem dX12_readText_89 : decode cX12_readText 89 = .ok (.getfield 218, 3) := by decide +kernel
theorem dX12_readText_92 : decode cX12_readText 92 = .ok (.iastore, 1) := by decide +kernel
theorem dX12_readText_93 : decode cX12_readText 93 = .ok (.aload_n 0, 1) := by decide +kernel
theorem dX12_readText_94 : decode cX12_readText 94 = .ok (.bipush 59, 2) := by decide +kernel
theorem dX12_readText_96 : decode cX12_readText 96 = .ok (.invokevirtual 234, 3) := by decide +kernel
theorem dX12_readText_99 : decode cX12_readText 99 = .ok (.ifCond .ne 9, 3) := by decide +kernel
theorem dX12_readText_102 : decode cX12_readText 102 = .ok (.aload_n 0, 1) := by decide +kernel
theorem dX12_readText_103 : decode cX12_readText 103 = .ok (.iconst 1, 1) := by decide +kernel
theorem dX12_readText_104 : decode cX12_readText 104 = .ok (.invokevirtual 221, 3) := by decide +kernel
theorem dX12_readText_107 : decode cX12_readText 107 = .ok (.ireturn, 1) := by decide +kernel
theorem dX12_readText_108 : decode cX12_readText 108 = .ok (.aload_n 0, 1) := by decide +kernel
theorem dX12_readText_109 : decode cX12_readText 109 = .ok (.invokevirtual 228, 3) := by decide +kernel
theorem dX12_readText_112 : decode cX12_readText 112 = .ok (.iload_n 1, 1) := by decide +kernel
theorem dX12_readText_113 : decode cX12_readText 113 = .ok (.iconst 1, 1) := by decide +kernel
theorem dX12_readText_114 : decode cX12_readText 114 = .ok (.iadd, 1) := by decide +kernel
theorem dX12_readText_115 : decode cX12_readText 115 = .ok (.istore_n 1, 1) := by decide +kernel
theorem dX12_readText_116 : decode cX12_readText 116 = .ok (.goto (-114), 3) := by decide +kernel
theorem dX12_readText_119 : decode cX12_readText 119 = .ok (.aload_n 0, 1) := by decide +kernel
theorem dX12_readText_120 : decode cX12_readText 120 = .ok (.getfield 193, 3) := by decide +kernel
theorem dX12_readText_123 : decode cX12_readText 123 = .ok (.ifCond .ne 7, 3) := by decide +kernel
theorem dX12_readText_126 : decode cX12_readText 126 = .ok (.iload_n 1, 1) := by decide +kernel
theorem dX12_readText_127 : decode cX12_readText 127 = .ok (.goto 8, 3) := by decide +kernel
theorem dX12_readText_130 : decode cX12_readText 130 = .ok (.aload_n 0, 1) := by decide +kernel
theorem dX12_readText_131 : decode cX12_readText 131 = .ok (.iconst 1, 1) := by decide +kernel
theorem dX12_readText_132 : decode cX12_readText 132 = .ok (.invokevirtual 221, 3) := by decide +kernel
theorem dX12_readText_135 : decode cX12_readText 135 = .ok (.ireturn, 1) := by decide +kernel
theorem dX12_text_0 : decode cX12_text 0 = .ok (.aload_n 0, 1) := by decide +kernel
theorem dX12_text_1 : decode cX12_text 1 = .ok (.iconst 0, 1) := by decide +kernel
theorem dX12_text_2 : decode cX12_text 2 = .ok (.putfield 120, 3) := by decide +kernel
theorem dX12_text_5 : decode cX12_text 5 = .ok (.aload_n 0, 1) := by decide +kernel
theorem dX12_text_6 : decode cX12_text 6 = .ok (.iconst 0, 1) := by decide +kernel
theorem dX12_text_7 : decode cX12_text 7 = .ok (.putfield 264, 3) := by decide +kernel
theorem dX12_text_10 : decode cX12_text 10 = .ok (.aload_n 0, 1) := by decide +kernel
theorem dX12_text_11 : decode cX12_text 11 = .ok (.iconst (-1), 1) := by decide +kernel
theorem dX12_text_12 : decode cX12_text 12 = .ok (.putfield 95, 3) := by decide +kernel
theorem dX12_text_15 : decode cX12_text 15 = .ok (.aload_n 0, 1) := by decide +kernel
theorem dX12_text_16 : decode cX12_text 16 = .ok (.iconst 0, 1) := by decide +kernel
theorem dX12_text_17 : decode cX12_text 17 = .ok (.putfield 183, 3) := by decide +kernel
theorem dX12_text_20 : decode cX12_text 20 = .ok (.aload_n 0, 1) := by decide +kernel
theorem dX12_text_21 : decode cX12_text 21 = .ok (.iconst 0, 1) := by decide +kernel
theorem dX12_text_22 : decode cX12_text 22 = .ok (.putfield 218, 3) := by decide +kernel
theorem dX12_text_25 : decode cX12_text 25 = .ok (.aload_n 0, 1) := by decide +kernel
theorem dX12_text_26 : decode cX12_text 26 = .ok (.iconst 0, 1) := by decide +kernel
theorem dX12_text_27 : decode cX12_text 27 = .ok (.putfield 246, 3) := by decide +kernel
theorem dX12_text_30 : decode cX12_text 30 = .ok (.aload_n 0, 1) := by decide +kernel
theorem dX12_text_31 : decode cX12_text 31 = .ok (.invokevirtual 228, 3) := by decide +kernel
theorem dX12_text_34 : decode cX12_text 34 = .ok (.aload_n 0, 1) := by decide +kernel
theorem dX12_text_35 : decode cX12_text 35 = .ok (.invokevirtual 267, 3) := by decide +kernel
theorem dX12_text_38 : decode cX12_text 38 = .ok (.istore_n 1, 1) := by decide +kernel
theorem dX12_text_39 : decode cX12_text 39 = .ok (.aload_n 0, 1) := by decide +kernel
theorem dX12_text_40 : decode cX12_text 40 = .ok (.iconst 0, 1) := by decide +kernel
theorem dX12_text_41 : decode cX12_text 41 = .ok (.putfield 177, 3) := by decide +kernel
theorem dX12_text_44 : decode cX12_text 44 = .ok (.iload_n 1, 1) := by decide +kernel
theorem dX12_text_45 : decode cX12_text 45 = .ok (.iconst (-1), 1) := by decide +kernel
theorem dX12_text_46 : decode cX12_text 46 = .ok (.if_icmp .ne 21, 3) := by decide +kernel
theorem dX12_text_49 : decode cX12_text 49 = .ok (.aload_n 0, 1) := by decide +kernel
theorem dX12_text_50 : decode cX12_text 50 = .ok (.aload_n 0, 1) := by decide +kernel
theorem dX12_text_51 : decode cX12_text 51 = .ok (.getfield 212, 3) := by decide +kernel
theorem dX12_text_54 : decode cX12_text 54 = .ok (.putfield 264, 3) := by decide +kernel
theorem dX12_text_57 : decode cX12_text 57 = .ok (.aload_n 0, 1) := by decide +kernel
theorem dX12_text_58 : decode cX12_text 58 = .ok (.aload_n 0, 1) := by decide +kernel
theorem dX12_text_59 : decode cX12_text 59 = .ok (.getfield 215, 3) := by decide +kernel
theorem dX12_text_62 : decode cX12_text 62 = .ok (.putfield 95, 3) := by decide +kernel
theorem dX12_text_65 : decode cX12_text 65 = .ok (.iconst (-1), 1) := by decide +kernel
theorem dX12_text_66 : decode cX12_text 66 = .ok (.ireturn, 1) := by decide +kernel
theorem dX12_text_67 : decode cX12_text 67 = .ok (.iconst 0, 1) := by decide +kernel
theorem dX12_text_68 : decode cX12_text 68 = .ok (.istore_n 2, 1) := by decide +kernel
theorem dX12_text_69 : decode cX12_text 69 = .ok (.iload_n 2, 1) := by decide +kernel
theorem dX12_text_70 : decode cX12_text 70 = .ok (.iload_n 1, 1) := by decide +kernel
theorem dX12_text_71 : decode cX12_text 71 = .ok (.if_icmp .ge 54, 3) := by decide +kernel
theorem dX12_text_74 : decode cX12_text 74 = .ok (.aload_n 0, 1) := by decide +kernel
theorem dX12_text_75 : decode cX12_text 75 = .ok (.getfield 77, 3) := by decide +kernel
theorem dX12_text_78 : decode cX12_text 78 = .ok (.iload_n 2, 1) := by decide +kernel
theorem dX12_text_79 : decode cX12_text 79 = .ok (.aload_n 0, 1) := by decide +kernel
theorem dX12_text_80 : decode cX12_text 80 = .ok (.getfield 77, 3) := by decide +kernel
theorem dX12_text_83 : decode cX12_text 83 = .ok (.bipush 16, 2) := by decide +kernel
theorem dX12_text_85 : decode cX12_text 85 = .ok (.iload_n 2, 1) := by decide +kernel
theorem dX12_text_86 : decode cX12_text 86 = .ok (.iadd, 1) := by decide +kernel
theorem dX12_text_87 : decode cX12_text 87 = .ok (.iaload, 1) := by decide +kernel
theorem dX12_text_88 : decode cX12_text 88 = .ok (.iastore, 1) := by decide +kernel
theorem dX12_text_89 : decode cX12_text 89 = .ok (.aload_n 0, 1) := by decide +kernel
theorem dX12_text_90 : decode cX12_text 90 = .ok (.getfield 80, 3) := by decide +kernel
theorem dX12_text_93 : decode cX12_text 93 = .ok (.iload_n 2, 1) := by decide +kernel
theorem dX12_text_94 : decode cX12_text 94 = .ok (.aload_n 0, 1) := by decide +kernel
theorem dX12_text_95 : decode cX12_text 95 = .ok (.getfield 80, 3) := by decide +kernel
theorem dX12_text_98 : decode cX12_text 98 = .ok (.bipush 16, 2) := by decide +kernel
theorem dX12_text_100 : decode cX12_text 100 = .ok (.iload_n 2, 1) := by decide +kernel
theorem dX12_text_101 : decode cX12_text 101 = .ok (.iadd, 1) := by decide +kernel
theorem dX12_text_102 : decode cX12_text 102 = .ok (.iaload, 1) := by decide +kernel
theorem dX12_text_103 : decode cX12_text 103 = .ok (.iastore, 1) := by decide +kernel
theorem dX12_text_104 : decode cX12_text 104 = .ok (.aload_n 0, 1) := by decide +kernel
theorem dX12_text_105 : decode cX12_text 105 = .ok (.getfield 83, 3) := by decide +kernel
theorem dX12_text_108 : decode cX12_text 108 = .ok (.iload_n 2, 1) := by decide +kernel
theorem dX12_text_109 : decode cX12_text 109 = .ok (.aload_n 0, 1) := by decide +kernel
theorem dX12_text_110 : decode cX12_text 110 = .ok (.getfield 83, 3) := by decide +kernel
theorem dX12_text_113 : decode cX12_text 113 = .ok (.bipush 16, 2) := by decide +kernel
theorem dX12_text_115 : decode cX12_text 115 = .ok (.iload_n 2, 1) := by decide +kernel
theorem dX12_text_116 : decode cX12_text 116 = .ok (.iadd, 1) := by decide +kernel
theorem dX12_text_117 : decode cX12_text 117 = .ok (.iaload, 1) := by decide +kernel
theorem dX12_text_118 : decode cX12_text 118 = .ok (.iastore, 1) := by decide +kernel
theorem dX12_text_119 : decode cX12_text 119 = .ok (.iinc 2 1, 3) := by decide +kernel
theorem dX12_text_122 : decode cX12_text 122 = .ok (.goto (-53), 3) := by decide +kernel
theorem dX12_text_125 : decode cX12_text 125 = .ok (.iconst 0, 1) := by decide +kernel
theorem dX12_text_126 : decode cX12_text 126 = .ok (.istore_n 2, 1) := by decide +kernel
theorem dX12_text_127 : decode cX12_text 127 = .ok (.iload_n 2, 1) := by decide +kernel
theorem dX12_text_128 : decode cX12_text 128 = .ok (.aload_n 0, 1) := by decide +kernel
theorem dX12_text_129 : decode cX12_text 129 = .ok (.getfield 218, 3) := by decide +kernel
theorem dX12_text_132 : decode cX12_text 132 = .ok (.if_icmp .ge 41, 3) := by decide +kernel
theorem dX12_text_135 : decode cX12_text 135 = .ok (.aload_n 0, 1) := by decide +kernel
theorem dX12_text_136 : decode cX12_text 136 = .ok (.getfield 86, 3) := by decide +kernel
theorem dX12_text_139 : decode cX12_text 139 = .ok (.iload_n 2, 1) := by decide +kernel
theorem dX12_text_140 : decode cX12_text 140 = .ok (.aload_n 0, 1) := by decide +kernel
theorem dX12_text_141 : decode cX12_text 141 = .ok (.getfield 86, 3) := by decide +kernel
theorem dX12_text_144 : decode cX12_text 144 = .ok (.sipush 400, 3) := by decide +kernel
theorem dX12_text_147 : decode cX12_text 147 = .ok (.iload_n 2, 1) := by decide +kernel
theorem dX12_text_148 : decode cX12_text 148 = .ok (.iadd, 1) := by decide +kernel
theorem dX12_text_149 : decode cX12_text 149 = .ok (.iaload, 1) := by decide +kernel
theorem dX12_text_150 : decode cX12_text 150 = .ok (.iastore, 1) := by decide +kernel
theorem dX12_text_151 : decode cX12_text 151 = .ok (.aload_n 0, 1) := by decide +kernel
theorem dX12_text_152 : decode cX12_text 152 = .ok (.getfield 89, 3) := by decide +kernel
theorem dX12_text_155 : decode cX12_text 155 = .ok (.iload_n 2, 1) := by decide +kernel
theorem dX12_text_156 : decode cX12_text 156 = .ok (.aload_n 0, 1) := by decide +kernel
theorem dX12_text_157 : decode cX12_text 157 = .ok (.getfield 89, 3) := by decide +kernel
theorem dX12_text_160 : decode cX12_text 160 = .ok (.sipush 400, 3) := by decide +kernel
theorem dX12_text_163 : decode cX12_text 163 = .ok (.iload_n 2, 1) := by decide +kernel
theorem dX12_text_164 : decode cX12_text 164 = .ok (.iadd, 1) := by decide +kernel
theorem dX12_text_165 : decode cX12_text 165 = .ok (.iaload, 1) := by decide +kernel
theorem dX12_text_166 : decode cX12_text 166 = .ok (.iastore, 1) := by decide +kernel
theorem dX12_text_167 : decode cX12_text 167 = .ok (.iinc 2 1, 3) := by decide +kernel
theorem dX12_text_170 : decode cX12_text 170 = .ok (.goto (-43), 3) := by decide +kernel
theorem dX12_text_173 : decode cX12_text 173 = .ok (.aload_n 0, 1) := by decide +kernel
theorem dX12_text_174 : decode cX12_text 174 = .ok (.iload_n 1, 1) := by decide +kernel
theorem dX12_text_175 : decode cX12_text 175 = .ok (.putfield 160, 3) := by decide +kernel
theorem dX12_text_178 : decode cX12_text 178 = .ok (.iload_n 1, 1) := by decide +kernel
theorem dX12_text_179 : decode cX12_text 179 = .ok (.ireturn, 1) := by decide +kernel
theorem dX12_fault_0 : decode cX12_fault 0 = .ok (.aload_n 0, 1) := by decide +kernel
theorem dX12_fault_1 : decode cX12_fault 1 = .ok (.iconst 0, 1) := by decide +kernel
theorem dX12_fault_2 : decode cX12_fault 2 = .ok (.putfield 120, 3) := by decide +kernel
theorem dX12_fault_5 : decode cX12_fault 5 = .ok (.iload_n 1, 1) := by decide +kernel
theorem dX12_fault_6 : decode cX12_fault 6 = .ok (.ifCond .ne 10, 3) := by decide +kernel
theorem dX12_fault_9 : decode cX12_fault 9 = .ok (.aload_n 0, 1) := by decide +kernel
theorem dX12_fault_10 : decode cX12_fault 10 = .ok (.getfield 264, 3) := by decide +kernel
theorem dX12_fault_13 : decode cX12_fault 13 = .ok (.goto 16, 3) := by decide +kernel
theorem dX12_fault_16 : decode cX12_fault 16 = .ok (.iload_n 1, 1) := by decide +kernel
theorem dX12_fault_17 : decode cX12_fault 17 = .ok (.iconst 1, 1) := by decide +kernel
theorem dX12_fault_18 : decode cX12_fault 18 = .ok (.if_icmp .ne 10, 3) := by decide +kernel
theorem dX12_fault_21 : decode cX12_fault 21 = .ok (.aload_n 0, 1) := by decide +kernel
theorem dX12_fault_22 : decode cX12_fault 22 = .ok (.getfield 95, 3) := by decide +kernel
theorem dX12_fault_25 : decode cX12_fault 25 = .ok (.goto 4, 3) := by decide +kernel
theorem dX12_fault_28 : decode cX12_fault 28 = .ok (.iconst (-1), 1) := by decide +kernel
theorem dX12_fault_29 : decode cX12_fault 29 = .ok (.ireturn, 1) := by decide +kernel
theorem dX12_twoOf_0 : decode cX12_twoOf 0 = .ok (.iload_n 1, 1) := by decide +kernel
theorem dX12_twoOf_1 : decode cX12_twoOf 1 = .ok (.iconst 2, 1) := by decide +kernel
theorem dX12_twoOf_2 : decode cX12_twoOf 2 = .ok (.if_icmp .ne 7, 3) := by decide +kernel
theorem dX12_twoOf_5 : decode cX12_twoOf 5 = .ok (.iload_n 2, 1) := by decide +kernel
theorem dX12_twoOf_6 : decode cX12_twoOf 6 = .ok (.iload_n 3, 1) := by decide +kernel
theorem dX12_twoOf_7 : decode cX12_twoOf 7 = .ok (.iadd, 1) := by decide +kernel
theorem dX12_twoOf_8 : decode cX12_twoOf 8 = .ok (.ireturn, 1) := by decide +kernel
theorem dX12_twoOf_9 : decode cX12_twoOf 9 = .ok (.iload_n 1, 1) := by decide +kernel
theorem dX12_twoOf_10 : decode cX12_twoOf 10 = .ok (.iconst 3, 1) := by decide +kernel
theorem dX12_twoOf_11 : decode cX12_twoOf 11 = .ok (.if_icmp .ne 7, 3) := by decide +kernel
theorem dX12_twoOf_14 : decode cX12_twoOf 14 = .ok (.iload_n 2, 1) := by decide +kernel
theorem dX12_twoOf_15 : decode cX12_twoOf 15 = .ok (.iload_n 3, 1) := by decide +kernel
theorem dX12_twoOf_16 : decode cX12_twoOf 16 = .ok (.isub, 1) := by decide +kernel
theorem dX12_twoOf_17 : decode cX12_twoOf 17 = .ok (.ireturn, 1) := by decide +kernel
theorem dX12_twoOf_18 : decode cX12_twoOf 18 = .ok (.iload_n 1, 1) := by decide +kernel
theorem dX12_twoOf_19 : decode cX12_twoOf 19 = .ok (.iconst 4, 1) := by decide +kernel
theorem dX12_twoOf_20 : decode cX12_twoOf 20 = .ok (.if_icmp .ne 7, 3) := by decide +kernel
theorem dX12_twoOf_23 : decode cX12_twoOf 23 = .ok (.iload_n 2, 1) := by decide +kernel
theorem dX12_twoOf_24 : decode cX12_twoOf 24 = .ok (.iload_n 3, 1) := by decide +kernel
theorem dX12_twoOf_25 : decode cX12_twoOf 25 = .ok (.imul, 1) := by decide +kernel
theorem dX12_twoOf_26 : decode cX12_twoOf 26 = .ok (.ireturn, 1) := by decide +kernel
theorem dX12_twoOf_27 : decode cX12_twoOf 27 = .ok (.iload_n 1, 1) := by decide +kernel
theorem dX12_twoOf_28 : decode cX12_twoOf 28 = .ok (.iconst 5, 1) := by decide +kernel
theorem dX12_twoOf_29 : decode cX12_twoOf 29 = .ok (.if_icmp .ne 7, 3) := by decide +kernel
theorem dX12_twoOf_32 : decode cX12_twoOf 32 = .ok (.iload_n 2, 1) := by decide +kernel
theorem dX12_twoOf_33 : decode cX12_twoOf 33 = .ok (.iload_n 3, 1) := by decide +kernel
theorem dX12_twoOf_34 : decode cX12_twoOf 34 = .ok (.idiv, 1) := by decide +kernel
theorem dX12_twoOf_35 : decode cX12_twoOf 35 = .ok (.ireturn, 1) := by decide +kernel
theorem dX12_twoOf_36 : decode cX12_twoOf 36 = .ok (.iload_n 1, 1) := by decide +kernel
theorem dX12_twoOf_37 : decode cX12_twoOf 37 = .ok (.bipush 6, 2) := by decide +kernel
theorem dX12_twoOf_39 : decode cX12_twoOf 39 = .ok (.if_icmp .ne 14, 3) := by decide +kernel
theorem dX12_twoOf_42 : decode cX12_twoOf 42 = .ok (.iload_n 2, 1) := by decide +kernel
theorem dX12_twoOf_43 : decode cX12_twoOf 43 = .ok (.iload_n 3, 1) := by decide +kernel
theorem dX12_twoOf_44 : decode cX12_twoOf 44 = .ok (.if_icmp .ge 7, 3) := by decide +kernel
theorem dX12_twoOf_47 : decode cX12_twoOf 47 = .ok (.iconst 1, 1) := by decide +kernel
theorem dX12_twoOf_48 : decode cX12_twoOf 48 = .ok (.goto 4, 3) := by decide +kernel
theorem dX12_twoOf_51 : decode cX12_twoOf 51 = .ok (.iconst 0, 1) := by decide +kernel
theorem dX12_twoOf_52 : decode cX12_twoOf 52 = .ok (.ireturn, 1) := by decide +kernel
theorem dX12_twoOf_53 : decode cX12_twoOf 53 = .ok (.iload_n 1, 1) := by decide +kernel
theorem dX12_twoOf_54 : decode cX12_twoOf 54 = .ok (.bipush 7, 2) := by decide +kernel
theorem dX12_twoOf_56 : decode cX12_twoOf 56 = .ok (.if_icmp .ne 14, 3) := by decide +kernel
theorem dX12_twoOf_59 : decode cX12_twoOf 59 = .ok (.iload_n 2, 1) := by decide +kernel
theorem dX12_twoOf_60 : decode cX12_twoOf 60 = .ok (.iload_n 3, 1) := by decide +kernel
theorem dX12_twoOf_61 : decode cX12_twoOf 61 = .ok (.if_icmp .ne 7, 3) := by decide +kernel
theorem dX12_twoOf_64 : decode cX12_twoOf 64 = .ok (.iconst 1, 1) := by decide +kernel
theorem dX12_twoOf_65 : decode cX12_twoOf 65 = .ok (.goto 4, 3) := by decide +kernel
theorem dX12_twoOf_68 : decode cX12_twoOf 68 = .ok (.iconst 0, 1) := by decide +kernel
theorem dX12_twoOf_69 : decode cX12_twoOf 69 = .ok (.ireturn, 1) := by decide +kernel
theorem dX12_twoOf_70 : decode cX12_twoOf 70 = .ok (.iload_n 1, 1) := by decide +kernel
theorem dX12_twoOf_71 : decode cX12_twoOf 71 = .ok (.bipush 8, 2) := by decide +kernel
theorem dX12_twoOf_73 : decode cX12_twoOf 73 = .ok (.if_icmp .ne 14, 3) := by decide +kernel
theorem dX12_twoOf_76 : decode cX12_twoOf 76 = .ok (.iload_n 2, 1) := by decide +kernel
theorem dX12_twoOf_77 : decode cX12_twoOf 77 = .ok (.iload_n 3, 1) := by decide +kernel
theorem dX12_twoOf_78 : decode cX12_twoOf 78 = .ok (.if_icmp .le 7, 3) := by decide +kernel
theorem dX12_twoOf_81 : decode cX12_twoOf 81 = .ok (.iconst 1, 1) := by decide +kernel
theorem dX12_twoOf_82 : decode cX12_twoOf 82 = .ok (.goto 4, 3) := by decide +kernel
theorem dX12_twoOf_85 : decode cX12_twoOf 85 = .ok (.iconst 0, 1) := by decide +kernel
theorem dX12_twoOf_86 : decode cX12_twoOf 86 = .ok (.ireturn, 1) := by decide +kernel
theorem dX12_twoOf_87 : decode cX12_twoOf 87 = .ok (.iload_n 1, 1) := by decide +kernel
theorem dX12_twoOf_88 : decode cX12_twoOf 88 = .ok (.bipush 10, 2) := by decide +kernel
theorem dX12_twoOf_90 : decode cX12_twoOf 90 = .ok (.if_icmp .ne 9, 3) := by decide +kernel
theorem dX12_twoOf_93 : decode cX12_twoOf 93 = .ok (.iload_n 2, 1) := by decide +kernel
theorem dX12_twoOf_94 : decode cX12_twoOf 94 = .ok (.iload_n 3, 1) := by decide +kernel
theorem dX12_twoOf_95 : decode cX12_twoOf 95 = .ok (.imul, 1) := by decide +kernel
theorem dX12_twoOf_96 : decode cX12_twoOf 96 = .ok (.goto 14, 3) := by decide +kernel
theorem dX12_twoOf_99 : decode cX12_twoOf 99 = .ok (.iload_n 2, 1) := by decide +kernel
theorem dX12_twoOf_100 : decode cX12_twoOf 100 = .ok (.iload_n 3, 1) := by decide +kernel
theorem dX12_twoOf_101 : decode cX12_twoOf 101 = .ok (.iadd, 1) := by decide +kernel
theorem dX12_twoOf_102 : decode cX12_twoOf 102 = .ok (.ifCond .le 7, 3) := by decide +kernel
theorem dX12_twoOf_105 : decode cX12_twoOf 105 = .ok (.iconst 1, 1) := by decide +kernel
theorem dX12_twoOf_106 : decode cX12_twoOf 106 = .ok (.goto 4, 3) := by decide +kernel
theorem dX12_twoOf_109 : decode cX12_twoOf 109 = .ok (.iconst 0, 1) := by decide +kernel
theorem dX12_twoOf_110 : decode cX12_twoOf 110 = .ok (.ireturn, 1) := by decide +kernel
theorem dX12_runs_0 : decode cX12_runs 0 = .ok (.iconst 0, 1) := by decide +kernel
theorem dX12_runs_1 : decode cX12_runs 1 = .ok (.istore_n 3, 1) := by decide +kernel
theorem dX12_runs_2 : decode cX12_runs 2 = .ok (.iload_n 1, 1) := by decide +kernel
theorem dX12_runs_3 : decode cX12_runs 3 = .ok (.istore 4, 2) := by decide +kernel
theorem dX12_runs_5 : decode cX12_runs 5 = .ok (.iload 4, 2) := by decide +kernel
theorem dX12_runs_7 : decode cX12_runs 7 = .ok (.iload_n 2, 1) := by decide +kernel
theorem dX12_runs_8 : decode cX12_runs 8 = .ok (.if_icmp .ge 145, 3) := by decide +kernel
theorem dX12_runs_11 : decode cX12_runs 11 = .ok (.aload_n 0, 1) := by decide +kernel
theorem dX12_runs_12 : decode cX12_runs 12 = .ok (.getfield 86, 3) := by decide +kernel
theorem dX12_runs_15 : decode cX12_runs 15 = .ok (.iload 4, 2) := by decide +kernel
theorem dX12_runs_17 : decode cX12_runs 17 = .ok (.iaload, 1) := by decide +kernel
theorem dX12_runs_18 : decode cX12_runs 18 = .ok (.ifCond .eq 14, 3) := by decide +kernel
theorem dX12_runs_21 : decode cX12_runs 21 = .ok (.aload_n 0, 1) := by decide +kernel
theorem dX12_runs_22 : decode cX12_runs 22 = .ok (.getfield 86, 3) := by decide +kernel
theorem dX12_runs_25 : decode cX12_runs 25 = .ok (.iload 4, 2) := by decide +kernel
theorem dX12_runs_27 : decode cX12_runs 27 = .ok (.iaload, 1) := by decide +kernel
theorem dX12_runs_28 : decode cX12_runs 28 = .ok (.iconst 1, 1) := by decide +kernel
theorem dX12_runs_29 : decode cX12_runs 29 = .ok (.if_icmp .ne 48, 3) := by decide +kernel
theorem dX12_runs_32 : decode cX12_runs 32 = .ok (.aload_n 0, 1) := by decide +kernel
theorem dX12_runs_33 : decode cX12_runs 33 = .ok (.getfield 101, 3) := by decide +kernel
theorem dX12_runs_36 : decode cX12_runs 36 = .ok (.iload_n 3, 1) := by decide +kernel
theorem dX12_runs_37 : decode cX12_runs 37 = .ok (.aload_n 0, 1) := by decide +kernel
theorem dX12_runs_38 : decode cX12_runs 38 = .ok (.getfield 86, 3) := by decide +kernel
theorem dX12_runs_41 : decode cX12_runs 41 = .ok (.iload 4, 2) := by decide +kernel
theorem dX12_runs_43 : decode cX12_runs 43 = .ok (.iaload, 1) := by decide +kernel
theorem dX12_runs_44 : decode cX12_runs 44 = .ok (.ifCond .ne 13, 3) := by decide +kernel
theorem dX12_runs_47 : decode cX12_runs 47 = .ok (.aload_n 0, 1) := by decide +kernel
theorem dX12_runs_48 : decode cX12_runs 48 = .ok (.getfield 89, 3) := by decide +kernel
theorem dX12_runs_51 : decode cX12_runs 51 = .ok (.iload 4, 2) := by decide +kernel
theorem dX12_runs_53 : decode cX12_runs 53 = .ok (.iaload, 1) := by decide +kernel
theorem dX12_runs_54 : decode cX12_runs 54 = .ok (.goto 15, 3) := by decide +kernel
theorem dX12_runs_57 : decode cX12_runs 57 = .ok (.aload_n 0, 1) := by decide +kernel
theorem dX12_runs_58 : decode cX12_runs 58 = .ok (.getfield 98, 3) := by decide +kernel
theorem dX12_runs_61 : decode cX12_runs 61 = .ok (.aload_n 0, 1) := by decide +kernel
theorem dX12_runs_62 : decode cX12_runs 62 = .ok (.getfield 89, 3) := by decide +kernel
theorem dX12_runs_65 : decode cX12_runs 65 = .ok (.iload 4, 2) := by decide +kernel
theorem dX12_runs_67 : decode cX12_runs 67 = .ok (.iaload, 1) := by decide +kernel
theorem dX12_runs_68 : decode cX12_runs 68 = .ok (.iaload, 1) := by decide +kernel
theorem dX12_runs_69 : decode cX12_runs 69 = .ok (.iastore, 1) := by decide +kernel
theorem dX12_runs_70 : decode cX12_runs 70 = .ok (.iload_n 3, 1) := by decide +kernel
theorem dX12_runs_71 : decode cX12_runs 71 = .ok (.iconst 1, 1) := by decide +kernel
theorem dX12_runs_72 : decode cX12_runs 72 = .ok (.iadd, 1) := by decide +kernel
theorem dX12_runs_73 : decode cX12_runs 73 = .ok (.istore_n 3, 1) := by decide +kernel
theorem dX12_runs_74 : decode cX12_runs 74 = .ok (.goto 73, 3) := by decide +kernel
theorem dX12_runs_77 : decode cX12_runs 77 = .ok (.aload_n 0, 1) := by decide +kernel
theorem dX12_runs_78 : decode cX12_runs 78 = .ok (.getfield 86, 3) := by decide +kernel
theorem dX12_runs_81 : decode cX12_runs 81 = .ok (.iload 4, 2) := by decide +kernel
theorem dX12_runs_83 : decode cX12_runs 83 = .ok (.iaload, 1) := by decide +kernel
theorem dX12_runs_84 : decode cX12_runs 84 = .ok (.bipush 9, 2) := by decide +kernel
theorem dX12_runs_86 : decode cX12_runs 86 = .ok (.if_icmp .ne 24, 3) := by decide +kernel
theorem dX12_runs_89 : decode cX12_runs 89 = .ok (.aload_n 0, 1) := by decide +kernel
theorem dX12_runs_90 : decode cX12_runs 90 = .ok (.getfield 101, 3) := by decide +kernel
theorem dX12_runs_93 : decode cX12_runs 93 = .ok (.iload_n 3, 1) := by decide +kernel
theorem dX12_runs_94 : decode cX12_runs 94 = .ok (.iconst 1, 1) := by decide +kernel
theorem dX12_runs_95 : decode cX12_runs 95 = .ok (.isub, 1) := by decide +kernel
theorem dX12_runs_96 : decode cX12_runs 96 = .ok (.iconst 1, 1) := by decide +kernel
theorem dX12_runs_97 : decode cX12_runs 97 = .ok (.aload_n 0, 1) := by decide +kernel
theorem dX12_runs_98 : decode cX12_runs 98 = .ok (.getfield 101, 3) := by decide +kernel
theorem dX12_runs_101 : decode cX12_runs 101 = .ok (.iload_n 3, 1) := by decide +kernel
theorem dX12_runs_102 : decode cX12_runs 102 = .ok (.iconst 1, 1) := by decide +kernel
theorem dX12_runs_103 : decode cX12_runs 103 = .ok (.isub, 1) := by decide +kernel
theorem dX12_runs_104 : decode cX12_runs 104 = .ok (.iaload, 1) := by decide +kernel
theorem dX12_runs_105 : decode cX12_runs 105 = .ok (.isub, 1) := by decide +kernel
theorem dX12_runs_106 : decode cX12_runs 106 = .ok (.iastore, 1) := by decide +kernel
theorem dX12_runs_107 : decode cX12_runs 107 = .ok (.goto 40, 3) := by decide +kernel
theorem dX12_runs_110 : decode cX12_runs 110 = .ok (.iload_n 3, 1) := by decide +kernel
theorem dX12_runs_111 : decode cX12_runs 111 = .ok (.iconst 1, 1) := by decide +kernel
theorem dX12_runs_112 : decode cX12_runs 112 = .ok (.isub, 1) := by decide +kernel
theorem dX12_runs_113 : decode cX12_runs 113 = .ok (.istore_n 3, 1) := by decide +kernel
theorem dX12_runs_114 : decode cX12_runs 114 = .ok (.aload_n 0, 1) := by decide +kernel
theorem dX12_runs_115 : decode cX12_runs 115 = .ok (.getfield 101, 3) := by decide +kernel
theorem dX12_runs_118 : decode cX12_runs 118 = .ok (.iload_n 3, 1) := by decide +kernel
theorem dX12_runs_119 : decode cX12_runs 119 = .ok (.iconst 1, 1) := by decide +kernel
theorem dX12_runs_120 : decode cX12_runs 120 = .ok (.isub, 1) := by decide +kernel
theorem dX12_runs_121 : decode cX12_runs 121 = .ok (.aload_n 0, 1) := by decide +kernel
theorem dX12_runs_122 : decode cX12_runs 122 = .ok (.aload_n 0, 1) := by decide +kernel
theorem dX12_runs_123 : decode cX12_runs 123 = .ok (.getfield 86, 3) := by decide +kernel
theorem dX12_runs_126 : decode cX12_runs 126 = .ok (.iload 4, 2) := by decide +kernel
theorem dX12_runs_128 : decode cX12_runs 128 = .ok (.iaload, 1) := by decide +kernel
theorem dX12_runs_129 : decode cX12_runs 129 = .ok (.aload_n 0, 1) := by decide +kernel
theorem dX12_runs_130 : decode cX12_runs 130 = .ok (.getfield 101, 3) := by decide +kernel
theorem dX12_runs_133 : decode cX12_runs 133 = .ok (.iload_n 3, 1) := by decide +kernel
theorem dX12_runs_134 : decode cX12_runs 134 = .ok (.iconst 1, 1) := by decide +kernel
theorem dX12_runs_135 : decode cX12_runs 135 = .ok (.isub, 1) := by decide +kernel
theorem dX12_runs_136 : decode cX12_runs 136 = .ok (.iaload, 1) := by decide +kernel
theorem dX12_runs_137 : decode cX12_runs 137 = .ok (.aload_n 0, 1) := by decide +kernel
theorem dX12_runs_138 : decode cX12_runs 138 = .ok (.getfield 101, 3) := by decide +kernel
theorem dX12_runs_141 : decode cX12_runs 141 = .ok (.iload_n 3, 1) := by decide +kernel
theorem dX12_runs_142 : decode cX12_runs 142 = .ok (.iaload, 1) := by decide +kernel
theorem dX12_runs_143 : decode cX12_runs 143 = .ok (.invokevirtual 270, 3) := by decide +kernel
theorem dX12_runs_146 : decode cX12_runs 146 = .ok (.iastore, 1) := by decide +kernel
theorem dX12_runs_147 : decode cX12_runs 147 = .ok (.iinc 4 1, 3) := by decide +kernel
theorem dX12_runs_150 : decode cX12_runs 150 = .ok (.goto (-145), 3) := by decide +kernel
theorem dX12_runs_153 : decode cX12_runs 153 = .ok (.aload_n 0, 1) := by decide +kernel
theorem dX12_runs_154 : decode cX12_runs 154 = .ok (.getfield 101, 3) := by decide +kernel
theorem dX12_runs_157 : decode cX12_runs 157 = .ok (.iconst 0, 1) := by decide +kernel
theorem dX12_runs_158 : decode cX12_runs 158 = .ok (.iaload, 1) := by decide +kernel
theorem dX12_runs_159 : decode cX12_runs 159 = .ok (.ireturn, 1) := by decide +kernel
theorem dX12_isSo_0 : decode cX12_isSo 0 = .ok (.aload_n 0, 1) := by decide +kernel
theorem dX12_isSo_1 : decode cX12_isSo 1 = .ok (.getfield 77, 3) := by decide +kernel
theorem dX12_isSo_4 : decode cX12_isSo 4 = .ok (.iload_n 1, 1) := by decide +kernel
theorem dX12_isSo_5 : decode cX12_isSo 5 = .ok (.iaload, 1) := by decide +kernel
theorem dX12_isSo_6 : decode cX12_isSo 6 = .ok (.aload_n 0, 1) := by decide +kernel
theorem dX12_isSo_7 : decode cX12_isSo 7 = .ok (.getfield 83, 3) := by decide +kernel
theorem dX12_isSo_10 : decode cX12_isSo 10 = .ok (.iload_n 1, 1) := by decide +kernel
theorem dX12_isSo_11 : decode cX12_isSo 11 = .ok (.iaload, 1) := by decide +kernel
theorem dX12_isSo_12 : decode cX12_isSo 12 = .ok (.if_icmp .eq 22, 3) := by decide +kernel
theorem dX12_isSo_15 : decode cX12_isSo 15 = .ok (.aload_n 0, 1) := by decide +kernel
theorem dX12_isSo_16 : decode cX12_isSo 16 = .ok (.aload_n 0, 1) := by decide +kernel
theorem dX12_isSo_17 : decode cX12_isSo 17 = .ok (.getfield 77, 3) := by decide +kernel
theorem dX12_isSo_20 : decode cX12_isSo 20 = .ok (.iload_n 1, 1) := by decide +kernel
theorem dX12_isSo_21 : decode cX12_isSo 21 = .ok (.iaload, 1) := by decide +kernel
theorem dX12_isSo_22 : decode cX12_isSo 22 = .ok (.aload_n 0, 1) := by decide +kernel
theorem dX12_isSo_23 : decode cX12_isSo 23 = .ok (.getfield 83, 3) := by decide +kernel
theorem dX12_isSo_26 : decode cX12_isSo 26 = .ok (.iload_n 1, 1) := by decide +kernel
theorem dX12_isSo_27 : decode cX12_isSo 27 = .ok (.iaload, 1) := by decide +kernel
theorem dX12_isSo_28 : decode cX12_isSo 28 = .ok (.invokevirtual 274, 3) := by decide +kernel
theorem dX12_isSo_31 : decode cX12_isSo 31 = .ok (.ifCond .eq 7, 3) := by decide +kernel
theorem dX12_isSo_34 : decode cX12_isSo 34 = .ok (.iconst 1, 1) := by decide +kernel
theorem dX12_isSo_35 : decode cX12_isSo 35 = .ok (.goto 4, 3) := by decide +kernel
theorem dX12_isSo_38 : decode cX12_isSo 38 = .ok (.iconst 0, 1) := by decide +kernel
theorem dX12_isSo_39 : decode cX12_isSo 39 = .ok (.ireturn, 1) := by decide +kernel
theorem dX12_owesOf_0 : decode cX12_owesOf 0 = .ok (.iconst 0, 1) := by decide +kernel
theorem dX12_owesOf_1 : decode cX12_owesOf 1 = .ok (.istore_n 2, 1) := by decide +kernel
theorem dX12_owesOf_2 : decode cX12_owesOf 2 = .ok (.iconst 0, 1) := by decide +kernel
theorem dX12_owesOf_3 : decode cX12_owesOf 3 = .ok (.istore_n 3, 1) := by decide +kernel
theorem dX12_owesOf_4 : decode cX12_owesOf 4 = .ok (.iload_n 3, 1) := by decide +kernel
theorem dX12_owesOf_5 : decode cX12_owesOf 5 = .ok (.aload_n 0, 1) := by decide +kernel
theorem dX12_owesOf_6 : decode cX12_owesOf 6 = .ok (.getfield 135, 3) := by decide +kernel
theorem dX12_owesOf_9 : decode cX12_owesOf 9 = .ok (.if_icmp .ge 26, 3) := by decide +kernel
theorem dX12_owesOf_12 : decode cX12_owesOf 12 = .ok (.iload_n 2, 1) := by decide +kernel
theorem dX12_owesOf_13 : decode cX12_owesOf 13 = .ok (.aload_n 0, 1) := by decide +kernel
theorem dX12_owesOf_14 : decode cX12_owesOf 14 = .ok (.getfield 7, 3) := by decide +kernel
theorem dX12_owesOf_17 : decode cX12_owesOf 17 = .ok (.bipush 71, 2) := by decide +kernel
theorem dX12_owesOf_19 : decode cX12_owesOf 19 = .ok (.bipush 9, 2) := by decide +kernel
theorem dX12_owesOf_21 : decode cX12_owesOf 21 = .ok (.iload_n 1, 1) := by decide +kernel
theorem dX12_owesOf_22 : decode cX12_owesOf 22 = .ok (.imul, 1) := by decide +kernel
theorem dX12_owesOf_23 : decode cX12_owesOf 23 = .ok (.iadd, 1) := by decide +kernel
theorem dX12_owesOf_24 : decode cX12_owesOf 24 = .ok (.iload_n 3, 1) := by decide +kernel
theorem dX12_owesOf_25 : decode cX12_owesOf 25 = .ok (.iadd, 1) := by decide +kernel
theorem dX12_owesOf_26 : decode cX12_owesOf 26 = .ok (.iaload, 1) := by decide +kernel
theorem dX12_owesOf_27 : decode cX12_owesOf 27 = .ok (.iadd, 1) := by decide +kernel
theorem dX12_owesOf_28 : decode cX12_owesOf 28 = .ok (.istore_n 2, 1) := by decide +kernel
theorem dX12_owesOf_29 : decode cX12_owesOf 29 = .ok (.iinc 3 1, 3) := by decide +kernel
theorem dX12_owesOf_32 : decode cX12_owesOf 32 = .ok (.goto (-28), 3) := by decide +kernel
theorem dX12_owesOf_35 : decode cX12_owesOf 35 = .ok (.iload_n 2, 1) := by decide +kernel
theorem dX12_owesOf_36 : decode cX12_owesOf 36 = .ok (.ireturn, 1) := by decide +kernel
theorem dX12_owedTo_0 : decode cX12_owedTo 0 = .ok (.iconst 0, 1) := by decide +kernel
theorem dX12_owedTo_1 : decode cX12_owedTo 1 = .ok (.istore_n 2, 1) := by decide +kernel
theorem dX12_owedTo_2 : decode cX12_owedTo 2 = .ok (.iconst 0, 1) := by decide +kernel
theorem dX12_owedTo_3 : decode cX12_owedTo 3 = .ok (.istore_n 3, 1) := by decide +kernel
theorem dX12_owedTo_4 : decode cX12_owedTo 4 = .ok (.iload_n 3, 1) := by decide +kernel
theorem dX12_owedTo_5 : decode cX12_owedTo 5 = .ok (.aload_n 0, 1) := by decide +kernel
theorem dX12_owedTo_6 : decode cX12_owedTo 6 = .ok (.getfield 135, 3) := by decide +kernel
theorem dX12_owedTo_9 : decode cX12_owedTo 9 = .ok (.if_icmp .ge 26, 3) := by decide +kernel
theorem dX12_owedTo_12 : decode cX12_owedTo 12 = .ok (.iload_n 2, 1) := by decide +kernel
theorem dX12_owedTo_13 : decode cX12_owedTo 13 = .ok (.aload_n 0, 1) := by decide +kernel
theorem dX12_owedTo_14 : decode cX12_owedTo 14 = .ok (.getfield 7, 3) := by decide +kernel
theorem dX12_owedTo_17 : decode cX12_owedTo 17 = .ok (.bipush 71, 2) := by decide +kernel
theorem dX12_owedTo_19 : decode cX12_owedTo 19 = .ok (.bipush 9, 2) := by decide +kernel
theorem dX12_owedTo_21 : decode cX12_owedTo 21 = .ok (.iload_n 3, 1) := by decide +kernel
theorem dX12_owedTo_22 : decode cX12_owedTo 22 = .ok (.imul, 1) := by decide +kernel
theorem dX12_owedTo_23 : decode cX12_owedTo 23 = .ok (.iadd, 1) := by decide +kernel
theorem dX12_owedTo_24 : decode cX12_owedTo 24 = .ok (.iload_n 1, 1) := by decide +kernel
theorem dX12_owedTo_25 : decode cX12_owedTo 25 = .ok (.iadd, 1) := by decide +kernel
theorem dX12_owedTo_26 : decode cX12_owedTo 26 = .ok (.iaload, 1) := by decide +kernel
theorem dX12_owedTo_27 : decode cX12_owedTo 27 = .ok (.iadd, 1) := by decide +kernel
theorem dX12_owedTo_28 : decode cX12_owedTo 28 = .ok (.istore_n 2, 1) := by decide +kernel
theorem dX12_owedTo_29 : decode cX12_owedTo 29 = .ok (.iinc 3 1, 3) := by decide +kernel
theorem dX12_owedTo_32 : decode cX12_owedTo 32 = .ok (.goto (-28), 3) := by decide +kernel
theorem dX12_owedTo_35 : decode cX12_owedTo 35 = .ok (.iload_n 2, 1) := by decide +kernel
theorem dX12_owedTo_36 : decode cX12_owedTo 36 = .ok (.ireturn, 1) := by decide +kernel
theorem dX12_weightOf_0 : decode cX12_weightOf 0 = .ok (.aload_n 0, 1) := by decide +kernel
theorem dX12_weightOf_1 : decode cX12_weightOf 1 = .ok (.getfield 98, 3) := by decide +kernel
theorem dX12_weightOf_4 : decode cX12_weightOf 4 = .ok (.iconst 0, 1) := by decide +kernel
theorem dX12_weightOf_5 : decode cX12_weightOf 5 = .ok (.iload_n 1, 1) := by decide +kernel
theorem dX12_weightOf_6 : decode cX12_weightOf 6 = .ok (.iastore, 1) := by decide +kernel
theorem dX12_weightOf_7 : decode cX12_weightOf 7 = .ok (.aload_n 0, 1) := by decide +kernel
theorem dX12_weightOf_8 : decode cX12_weightOf 8 = .ok (.getfield 98, 3) := by decide +kernel
theorem dX12_weightOf_11 : decode cX12_weightOf 11 = .ok (.iconst 1, 1) := by decide +kernel
theorem dX12_weightOf_12 : decode cX12_weightOf 12 = .ok (.aload_n 0, 1) := by decide +kernel
theorem dX12_weightOf_13 : decode cX12_weightOf 13 = .ok (.getfield 7, 3) := by decide +kernel
theorem dX12_weightOf_16 : decode cX12_weightOf 16 = .ok (.bipush 35, 2) := by decide +kernel
theorem dX12_weightOf_18 : decode cX12_weightOf 18 = .ok (.iload_n 1, 1) := by decide +kernel
theorem dX12_weightOf_19 : decode cX12_weightOf 19 = .ok (.iadd, 1) := by decide +kernel
theorem dX12_weightOf_20 : decode cX12_weightOf 20 = .ok (.iaload, 1) := by decide +kernel
theorem dX12_weightOf_21 : decode cX12_weightOf 21 = .ok (.iastore, 1) := by decide +kernel
theorem dX12_weightOf_22 : decode cX12_weightOf 22 = .ok (.aload_n 0, 1) := by decide +kernel
theorem dX12_weightOf_23 : decode cX12_weightOf 23 = .ok (.getfield 98, 3) := by decide +kernel
theorem dX12_weightOf_26 : decode cX12_weightOf 26 = .ok (.iconst 2, 1) := by decide +kernel
theorem dX12_weightOf_27 : decode cX12_weightOf 27 = .ok (.aload_n 0, 1) := by decide +kernel
theorem dX12_weightOf_28 : decode cX12_weightOf 28 = .ok (.getfield 29, 3) := by decide +kernel
theorem dX12_weightOf_31 : decode cX12_weightOf 31 = .ok (.iload_n 1, 1) := by decide +kernel
theorem dX12_weightOf_32 : decode cX12_weightOf 32 = .ok (.iaload, 1) := by decide +kernel
theorem dX12_weightOf_33 : decode cX12_weightOf 33 = .ok (.iastore, 1) := by decide +kernel
theorem dX12_weightOf_34 : decode cX12_weightOf 34 = .ok (.aload_n 0, 1) := by decide +kernel
theorem dX12_weightOf_35 : decode cX12_weightOf 35 = .ok (.getfield 98, 3) := by decide +kernel
theorem dX12_weightOf_38 : decode cX12_weightOf 38 = .ok (.iconst 3, 1) := by decide +kernel
theorem dX12_weightOf_39 : decode cX12_weightOf 39 = .ok (.aload_n 0, 1) := by decide +kernel
theorem dX12_weightOf_40 : decode cX12_weightOf 40 = .ok (.getfield 35, 3) := by decide +kernel
theorem dX12_weightOf_43 : decode cX12_weightOf 43 = .ok (.iload_n 1, 1) := by decide +kernel
theorem dX12_weightOf_44 : decode cX12_weightOf 44 = .ok (.iaload, 1) := by decide +kernel
theorem dX12_weightOf_45 : decode cX12_weightOf 45 = .ok (.iastore, 1) := by decide +kernel
theorem dX12_weightOf_46 : decode cX12_weightOf 46 = .ok (.aload_n 0, 1) := by decide +kernel
theorem dX12_weightOf_47 : decode cX12_weightOf 47 = .ok (.getfield 98, 3) := by decide +kernel
theorem dX12_weightOf_50 : decode cX12_weightOf 50 = .ok (.iconst 4, 1) := by decide +kernel
theorem dX12_weightOf_51 : decode cX12_weightOf 51 = .ok (.aload_n 0, 1) := by decide +kernel
theorem dX12_weightOf_52 : decode cX12_weightOf 52 = .ok (.getfield 38, 3) := by decide +kernel
theorem dX12_weightOf_55 : decode cX12_weightOf 55 = .ok (.iload_n 1, 1) := by decide +kernel
theorem dX12_weightOf_56 : decode cX12_weightOf 56 = .ok (.iaload, 1) := by decide +kernel
theorem dX12_weightOf_57 : decode cX12_weightOf 57 = .ok (.iastore, 1) := by decide +kernel
theorem dX12_weightOf_58 : decode cX12_weightOf 58 = .ok (.aload_n 0, 1) := by decide +kernel
theorem dX12_weightOf_59 : decode cX12_weightOf 59 = .ok (.getfield 98, 3) := by decide +kernel
theorem dX12_weightOf_62 : decode cX12_weightOf 62 = .ok (.iconst 5, 1) := by decide +kernel
theorem dX12_weightOf_63 : decode cX12_weightOf 63 = .ok (.aload_n 0, 1) := by decide +kernel
theorem dX12_weightOf_64 : decode cX12_weightOf 64 = .ok (.getfield 7, 3) := by decide +kernel
theorem dX12_weightOf_67 : decode cX12_weightOf 67 = .ok (.bipush 17, 2) := by decide +kernel
theorem dX12_weightOf_69 : decode cX12_weightOf 69 = .ok (.iload_n 1, 1) := by decide +kernel
theorem dX12_weightOf_70 : decode cX12_weightOf 70 = .ok (.iadd, 1) := by decide +kernel
theorem dX12_weightOf_71 : decode cX12_weightOf 71 = .ok (.iaload, 1) := by decide +kernel
theorem dX12_weightOf_72 : decode cX12_weightOf 72 = .ok (.iastore, 1) := by decide +kernel
theorem dX12_weightOf_73 : decode cX12_weightOf 73 = .ok (.aload_n 0, 1) := by decide +kernel
theorem dX12_weightOf_74 : decode cX12_weightOf 74 = .ok (.getfield 98, 3) := by decide +kernel
theorem dX12_weightOf_77 : decode cX12_weightOf 77 = .ok (.bipush 6, 2) := by decide +kernel
theorem dX12_weightOf_79 : decode cX12_weightOf 79 = .ok (.aload_n 0, 1) := by decide +kernel
theorem dX12_weightOf_80 : decode cX12_weightOf 80 = .ok (.getfield 7, 3) := by decide +kernel
theorem dX12_weightOf_83 : decode cX12_weightOf 83 = .ok (.bipush 53, 2) := by decide +kernel
theorem dX12_weightOf_85 : decode cX12_weightOf 85 = .ok (.iload_n 1, 1) := by decide +kernel
theorem dX12_weightOf_86 : decode cX12_weightOf 86 = .ok (.iadd, 1) := by decide +kernel
theorem dX12_weightOf_87 : decode cX12_weightOf 87 = .ok (.iaload, 1) := by decide +kernel
theorem dX12_weightOf_88 : decode cX12_weightOf 88 = .ok (.iastore, 1) := by decide +kernel
theorem dX12_weightOf_89 : decode cX12_weightOf 89 = .ok (.aload_n 0, 1) := by decide +kernel
theorem dX12_weightOf_90 : decode cX12_weightOf 90 = .ok (.getfield 98, 3) := by decide +kernel
theorem dX12_weightOf_93 : decode cX12_weightOf 93 = .ok (.bipush 7, 2) := by decide +kernel
theorem dX12_weightOf_95 : decode cX12_weightOf 95 = .ok (.aload_n 0, 1) := by decide +kernel
theorem dX12_weightOf_96 : decode cX12_weightOf 96 = .ok (.getfield 7, 3) := by decide +kernel
theorem dX12_weightOf_99 : decode cX12_weightOf 99 = .ok (.bipush 62, 2) := by decide +kernel
theorem dX12_weightOf_101 : decode cX12_weightOf 101 = .ok (.iload_n 1, 1) := by decide +kernel
theorem dX12_weightOf_102 : decode cX12_weightOf 102 = .ok (.iadd, 1) := by decide +kernel
theorem dX12_weightOf_103 : decode cX12_weightOf 103 = .ok (.iaload, 1) := by decide +kernel
theorem dX12_weightOf_104 : decode cX12_weightOf 104 = .ok (.iastore, 1) := by decide +kernel
theorem dX12_weightOf_105 : decode cX12_weightOf 105 = .ok (.aload_n 0, 1) := by decide +kernel
theorem dX12_weightOf_106 : decode cX12_weightOf 106 = .ok (.getfield 98, 3) := by decide +kernel
theorem dX12_weightOf_109 : decode cX12_weightOf 109 = .ok (.bipush 8, 2) := by decide +kernel
theorem dX12_weightOf_111 : decode cX12_weightOf 111 = .ok (.aload_n 0, 1) := by decide +kernel
theorem dX12_weightOf_112 : decode cX12_weightOf 112 = .ok (.iload_n 1, 1) := by decide +kernel
theorem dX12_weightOf_113 : decode cX12_weightOf 113 = .ok (.invokevirtual 277, 3) := by decide +kernel
theorem dX12_weightOf_116 : decode cX12_weightOf 116 = .ok (.iastore, 1) := by decide +kernel
theorem dX12_weightOf_117 : decode cX12_weightOf 117 = .ok (.aload_n 0, 1) := by decide +kernel
theorem dX12_weightOf_118 : decode cX12_weightOf 118 = .ok (.getfield 98, 3) := by decide +kernel
theorem dX12_weightOf_121 : decode cX12_weightOf 121 = .ok (.bipush 9, 2) := by decide +kernel
theorem dX12_weightOf_123 : decode cX12_weightOf 123 = .ok (.aload_n 0, 1) := by decide +kernel
theorem dX12_weightOf_124 : decode cX12_weightOf 124 = .ok (.getfield 7, 3) := by decide +kernel
theorem dX12_weightOf_127 : decode cX12_weightOf 127 = .ok (.iconst 2, 1) := by decide +kernel
theorem dX12_weightOf_128 : decode cX12_weightOf 128 = .ok (.iaload, 1) := by decide +kernel
theorem dX12_weightOf_129 : decode cX12_weightOf 129 = .ok (.iastore, 1) := by decide +kernel
theorem dX12_weightOf_130 : decode cX12_weightOf 130 = .ok (.iconst 0, 1) := by decide +kernel
theorem dX12_weightOf_131 : decode cX12_weightOf 131 = .ok (.istore_n 2, 1) := by decide +kernel
theorem dX12_weightOf_132 : decode cX12_weightOf 132 = .ok (.iload_n 2, 1) := by decide +kernel
theorem dX12_weightOf_133 : decode cX12_weightOf 133 = .ok (.aload_n 0, 1) := by decide +kernel
theorem dX12_weightOf_134 : decode cX12_weightOf 134 = .ok (.getfield 160, 3) := by decide +kernel
theorem dX12_weightOf_137 : decode cX12_weightOf 137 = .ok (.if_icmp .ge 60, 3) := by decide +kernel
theorem dX12_weightOf_140 : decode cX12_weightOf 140 = .ok (.aload_n 0, 1) := by decide +kernel
theorem dX12_weightOf_141 : decode cX12_weightOf 141 = .ok (.iload_n 2, 1) := by decide +kernel
theorem dX12_weightOf_142 : decode cX12_weightOf 142 = .ok (.invokevirtual 280, 3) := by decide +kernel
theorem dX12_weightOf_145 : decode cX12_weightOf 145 = .ok (.ifCond .ne 6, 3) := by decide +kernel
theorem dX12_weightOf_148 : decode cX12_weightOf 148 = .ok (.goto 43, 3) := by decide +kernel
theorem dX12_weightOf_151 : decode cX12_weightOf 151 = .ok (.aload_n 0, 1) := by decide +kernel
theorem dX12_weightOf_152 : decode cX12_weightOf 152 = .ok (.aload_n 0, 1) := by decide +kernel
theorem dX12_weightOf_153 : decode cX12_weightOf 153 = .ok (.getfield 80, 3) := by decide +kernel
theorem dX12_weightOf_156 : decode cX12_weightOf 156 = .ok (.iload_n 2, 1) := by decide +kernel
theorem dX12_weightOf_157 : decode cX12_weightOf 157 = .ok (.iaload, 1) := by decide +kernel
theorem dX12_weightOf_158 : decode cX12_weightOf 158 = .ok (.aload_n 0, 1) := by decide +kernel
theorem dX12_weightOf_159 : decode cX12_weightOf 159 = .ok (.getfield 77, 3) := by decide +kernel
theorem dX12_weightOf_162 : decode cX12_weightOf 162 = .ok (.iload_n 2, 1) := by decide +kernel
theorem dX12_weightOf_163 : decode cX12_weightOf 163 = .ok (.iaload, 1) := by decide +kernel
theorem dX12_weightOf_164 : decode cX12_weightOf 164 = .ok (.invokevirtual 274, 3) := by decide +kernel
theorem dX12_weightOf_167 : decode cX12_weightOf 167 = .ok (.istore_n 3, 1) := by decide +kernel
theorem dX12_weightOf_168 : decode cX12_weightOf 168 = .ok (.iload_n 3, 1) := by decide +kernel
theorem dX12_weightOf_169 : decode cX12_weightOf 169 = .ok (.ifCond .ge 7, 3) := by decide +kernel
theorem dX12_weightOf_172 : decode cX12_weightOf 172 = .ok (.iconst 0, 1) := by decide +kernel
theorem dX12_weightOf_173 : decode cX12_weightOf 173 = .ok (.goto 17, 3) := by decide +kernel
theorem dX12_weightOf_176 : decode cX12_weightOf 176 = .ok (.iload_n 3, 1) := by decide +kernel
theorem dX12_weightOf_177 : decode cX12_weightOf 177 = .ok (.sipush 9999, 3) := by decide +kernel
theorem dX12_weightOf_180 : decode cX12_weightOf 180 = .ok (.if_icmp .le 9, 3) := by decide +kernel
theorem dX12_weightOf_183 : decode cX12_weightOf 183 = .ok (.sipush 9999, 3) := by decide +kernel
theorem dX12_weightOf_186 : decode cX12_weightOf 186 = .ok (.goto 4, 3) := by decide +kernel
theorem dX12_weightOf_189 : decode cX12_weightOf 189 = .ok (.iload_n 3, 1) := by decide +kernel
theorem dX12_weightOf_190 : decode cX12_weightOf 190 = .ok (.ireturn, 1) := by decide +kernel
theorem dX12_weightOf_191 : decode cX12_weightOf 191 = .ok (.iinc 2 1, 3) := by decide +kernel
theorem dX12_weightOf_194 : decode cX12_weightOf 194 = .ok (.goto (-62), 3) := by decide +kernel
theorem dX12_weightOf_197 : decode cX12_weightOf 197 = .ok (.iconst 0, 1) := by decide +kernel
theorem dX12_weightOf_198 : decode cX12_weightOf 198 = .ok (.ireturn, 1) := by decide +kernel
theorem dX12_isBroken_0 : decode cX12_isBroken 0 = .ok (.iconst 0, 1) := by decide +kernel
theorem dX12_isBroken_1 : decode cX12_isBroken 1 = .ok (.istore_n 1, 1) := by decide +kernel
theorem dX12_isBroken_2 : decode cX12_isBroken 2 = .ok (.iload_n 1, 1) := by decide +kernel
theorem dX12_isBroken_3 : decode cX12_isBroken 3 = .ok (.aload_n 0, 1) := by decide +kernel
theorem dX12_isBroken_4 : decode cX12_isBroken 4 = .ok (.getfield 145, 3) := by decide +kernel
theorem dX12_isBroken_7 : decode cX12_isBroken 7 = .ok (.if_icmp .ge 24, 3) := by decide +kernel
theorem dX12_isBroken_10 : decode cX12_isBroken 10 = .ok (.aload_n 0, 1) := by decide +kernel
theorem dX12_isBroken_11 : decode cX12_isBroken 11 = .ok (.getfield 7, 3) := by decide +kernel
theorem dX12_isBroken_14 : decode cX12_isBroken 14 = .ok (.sipush 152, 3) := by decide +kernel
theorem dX12_isBroken_17 : decode cX12_isBroken 17 = .ok (.iload_n 1, 1) := by decide +kernel
theorem dX12_isBroken_18 : decode cX12_isBroken 18 = .ok (.iadd, 1) := by decide +kernel
theorem dX12_isBroken_19 : decode cX12_isBroken 19 = .ok (.iaload, 1) := by decide +kernel
theorem dX12_isBroken_20 : decode cX12_isBroken 20 = .ok (.ifCond .ne 5, 3) := by decide +kernel
theorem dX12_isBroken_23 : decode cX12_isBroken 23 = .ok (.iconst 1, 1) := by decide +kernel
theorem dX12_isBroken_24 : decode cX12_isBroken 24 = .ok (.ireturn, 1) := by decide +kernel
theorem dX12_isBroken_25 : decode cX12_isBroken 25 = .ok (.iinc 1 1, 3) := by decide +kernel
theorem dX12_isBroken_28 : decode cX12_isBroken 28 = .ok (.goto (-26), 3) := by decide +kernel
theorem dX12_isBroken_31 : decode cX12_isBroken 31 = .ok (.iconst 0, 1) := by decide +kernel
theorem dX12_isBroken_32 : decode cX12_isBroken 32 = .ok (.ireturn, 1) := by decide +kernel
theorem dX12_placeOf_0 : decode cX12_placeOf 0 = .ok (.aload_n 0, 1) := by decide +kernel
theorem dX12_placeOf_1 : decode cX12_placeOf 1 = .ok (.getfield 20, 3) := by decide +kernel
theorem dX12_placeOf_4 : decode cX12_placeOf 4 = .ok (.iload_n 1, 1) := by decide +kernel
theorem dX12_placeOf_5 : decode cX12_placeOf 5 = .ok (.iaload, 1) := by decide +kernel
theorem dX12_placeOf_6 : decode cX12_placeOf 6 = .ok (.aload_n 0, 1) := by decide +kernel
theorem dX12_placeOf_7 : decode cX12_placeOf 7 = .ok (.getfield 7, 3) := by decide +kernel
theorem dX12_placeOf_10 : decode cX12_placeOf 10 = .ok (.bipush 6, 2) := by decide +kernel
theorem dX12_placeOf_12 : decode cX12_placeOf 12 = .ok (.iaload, 1) := by decide +kernel
theorem dX12_placeOf_13 : decode cX12_placeOf 13 = .ok (.iadd, 1) := by decide +kernel
theorem dX12_placeOf_14 : decode cX12_placeOf 14 = .ok (.aload_n 0, 1) := by decide +kernel
theorem dX12_placeOf_15 : decode cX12_placeOf 15 = .ok (.getfield 16, 3) := by decide +kernel
theorem dX12_placeOf_18 : decode cX12_placeOf 18 = .ok (.irem, 1) := by decide +kernel
theorem dX12_placeOf_19 : decode cX12_placeOf 19 = .ok (.ireturn, 1) := by decide +kernel
theorem dX12_drips_0 : decode cX12_drips 0 = .ok (.aload_n 0, 1) := by decide +kernel
theorem dX12_drips_1 : decode cX12_drips 1 = .ok (.getfield 26, 3) := by decide +kernel
theorem dX12_drips_4 : decode cX12_drips 4 = .ok (.iload_n 1, 1) := by decide +kernel
theorem dX12_drips_5 : decode cX12_drips 5 = .ok (.iaload, 1) := by decide +kernel
theorem dX12_drips_6 : decode cX12_drips 6 = .ok (.aload_n 0, 1) := by decide +kernel
theorem dX12_drips_7 : decode cX12_drips 7 = .ok (.getfield 7, 3) := by decide +kernel
theorem dX12_drips_10 : decode cX12_drips 10 = .ok (.bipush 7, 2) := by decide +kernel
theorem dX12_drips_12 : decode cX12_drips 12 = .ok (.iload_n 1, 1) := by decide +kernel
theorem dX12_drips_13 : decode cX12_drips 13 = .ok (.iadd, 1) := by decide +kernel
theorem dX12_drips_14 : decode cX12_drips 14 = .ok (.iaload, 1) := by decide +kernel
theorem dX12_drips_15 : decode cX12_drips 15 = .ok (.if_icmp .ge 12, 3) := by decide +kernel
theorem dX12_drips_18 : decode cX12_drips 18 = .ok (.aload_n 0, 1) := by decide +kernel
theorem dX12_drips_19 : decode cX12_drips 19 = .ok (.getfield 26, 3) := by decide +kernel
theorem dX12_drips_22 : decode cX12_drips 22 = .ok (.iload_n 1, 1) := by decide +kernel
theorem dX12_drips_23 : decode cX12_drips 23 = .ok (.iaload, 1) := by decide +kernel
theorem dX12_drips_24 : decode cX12_drips 24 = .ok (.goto 12, 3) := by decide +kernel
theorem dX12_drips_27 : decode cX12_drips 27 = .ok (.aload_n 0, 1) := by decide +kernel
theorem dX12_drips_28 : decode cX12_drips 28 = .ok (.getfield 7, 3) := by decide +kernel
theorem dX12_drips_31 : decode cX12_drips 31 = .ok (.bipush 7, 2) := by decide +kernel
theorem dX12_drips_33 : decode cX12_drips 33 = .ok (.iload_n 1, 1) := by decide +kernel
theorem dX12_drips_34 : decode cX12_drips 34 = .ok (.iadd, 1) := by decide +kernel
theorem dX12_drips_35 : decode cX12_drips 35 = .ok (.iaload, 1) := by decide +kernel
theorem dX12_drips_36 : decode cX12_drips 36 = .ok (.istore_n 3, 1) := by decide +kernel
theorem dX12_drips_37 : decode cX12_drips 37 = .ok (.aload_n 0, 1) := by decide +kernel
theorem dX12_drips_38 : decode cX12_drips 38 = .ok (.getfield 7, 3) := by decide +kernel
theorem dX12_drips_41 : decode cX12_drips 41 = .ok (.bipush 7, 2) := by decide +kernel
theorem dX12_drips_43 : decode cX12_drips 43 = .ok (.iload_n 1, 1) := by decide +kernel
theorem dX12_drips_44 : decode cX12_drips 44 = .ok (.iadd, 1) := by decide +kernel
theorem dX12_drips_45 : decode cX12_drips 45 = .ok (.aload_n 0, 1) := by decide +kernel
theorem dX12_drips_46 : decode cX12_drips 46 = .ok (.getfield 7, 3) := by decide +kernel
theorem dX12_drips_49 : decode cX12_drips 49 = .ok (.bipush 7, 2) := by decide +kernel
theorem dX12_drips_51 : decode cX12_drips 51 = .ok (.iload_n 1, 1) := by decide +kernel
theorem dX12_drips_52 : decode cX12_drips 52 = .ok (.iadd, 1) := by decide +kernel
theorem dX12_drips_53 : decode cX12_drips 53 = .ok (.iaload, 1) := by decide +kernel
theorem dX12_drips_54 : decode cX12_drips 54 = .ok (.iload_n 3, 1) := by decide +kernel
theorem dX12_drips_55 : decode cX12_drips 55 = .ok (.isub, 1) := by decide +kernel
theorem dX12_drips_56 : decode cX12_drips 56 = .ok (.iastore, 1) := by decide +kernel
theorem dX12_drips_57 : decode cX12_drips 57 = .ok (.aload_n 0, 1) := by decide +kernel
theorem dX12_drips_58 : decode cX12_drips 58 = .ok (.getfield 41, 3) := by decide +kernel
theorem dX12_drips_61 : decode cX12_drips 61 = .ok (.iload_n 2, 1) := by decide +kernel
theorem dX12_drips_62 : decode cX12_drips 62 = .ok (.iaload, 1) := by decide +kernel
theorem dX12_drips_63 : decode cX12_drips 63 = .ok (.iconst 1, 1) := by decide +kernel
theorem dX12_drips_64 : decode cX12_drips 64 = .ok (.isub, 1) := by decide +kernel
theorem dX12_drips_65 : decode cX12_drips 65 = .ok (.istore 4, 2) := by decide +kernel
theorem dX12_drips_67 : decode cX12_drips 67 = .ok (.iload 4, 2) := by decide +kernel
theorem dX12_drips_69 : decode cX12_drips 69 = .ok (.iconst (-1), 1) := by decide +kernel
theorem dX12_drips_70 : decode cX12_drips 70 = .ok (.if_icmp .ne 18, 3) := by decide +kernel
theorem dX12_drips_73 : decode cX12_drips 73 = .ok (.aload_n 0, 1) := by decide +kernel
theorem dX12_drips_74 : decode cX12_drips 74 = .ok (.getfield 7, 3) := by decide +kernel
theorem dX12_drips_77 : decode cX12_drips 77 = .ok (.iconst 0, 1) := by decide +kernel
theorem dX12_drips_78 : decode cX12_drips 78 = .ok (.aload_n 0, 1) := by decide +kernel
theorem dX12_drips_79 : decode cX12_drips 79 = .ok (.getfield 7, 3) := by decide +kernel
theorem dX12_drips_82 : decode cX12_drips 82 = .ok (.iconst 0, 1) := by decide +kernel
theorem dX12_drips_83 : decode cX12_drips 83 = .ok (.iaload, 1) := by decide +kernel
theorem dX12_drips_84 : decode cX12_drips 84 = .ok (.iload_n 3, 1) := by decide +kernel
theorem dX12_drips_85 : decode cX12_drips 85 = .ok (.iadd, 1) := by decide +kernel
theorem dX12_drips_86 : decode cX12_drips 86 = .ok (.iastore, 1) := by decide +kernel
theorem dX12_drips_87 : decode cX12_drips 87 = .ok (.return_, 1) := by decide +kernel
theorem dX12_drips_88 : decode cX12_drips 88 = .ok (.aload_n 0, 1) := by decide +kernel
theorem dX12_drips_89 : decode cX12_drips 89 = .ok (.getfield 7, 3) := by decide +kernel
theorem dX12_drips_92 : decode cX12_drips 92 = .ok (.bipush 17, 2) := by decide +kernel
theorem dX12_drips_94 : decode cX12_drips 94 = .ok (.iload 4, 2) := by decide +kernel
theorem dX12_drips_96 : decode cX12_drips 96 = .ok (.iadd, 1) := by decide +kernel
theorem dX12_drips_97 : decode cX12_drips 97 = .ok (.aload_n 0, 1) := by decide +kernel
theorem dX12_drips_98 : decode cX12_drips 98 = .ok (.getfield 7, 3) := by decide +kernel
theorem dX12_drips_101 : decode cX12_drips 101 = .ok (.bipush 17, 2) := by decide +kernel
theorem dX12_drips_103 : decode cX12_drips 103 = .ok (.iload 4, 2) := by decide +kernel
theorem dX12_drips_105 : decode cX12_drips 105 = .ok (.iadd, 1) := by decide +kernel
theorem dX12_drips_106 : decode cX12_drips 106 = .ok (.iaload, 1) := by decide +kernel
theorem dX12_drips_107 : decode cX12_drips 107 = .ok (.iload_n 3, 1) := by decide +kernel
theorem dX12_drips_108 : decode cX12_drips 108 = .ok (.iadd, 1) := by decide +kernel
theorem dX12_drips_109 : decode cX12_drips 109 = .ok (.iastore, 1) := by decide +kernel
theorem dX12_drips_110 : decode cX12_drips 110 = .ok (.aload_n 0, 1) := by decide +kernel
theorem dX12_drips_111 : decode cX12_drips 111 = .ok (.getfield 7, 3) := by decide +kernel
theorem dX12_drips_114 : decode cX12_drips 114 = .ok (.bipush 44, 2) := by decide +kernel
theorem dX12_drips_116 : decode cX12_drips 116 = .ok (.iload 4, 2) := by decide +kernel
theorem dX12_drips_118 : decode cX12_drips 118 = .ok (.iadd, 1) := by decide +kernel
theorem dX12_drips_119 : decode cX12_drips 119 = .ok (.aload_n 0, 1) := by decide +kernel
theorem dX12_drips_120 : decode cX12_drips 120 = .ok (.getfield 7, 3) := by decide +kernel
theorem dX12_drips_123 : decode cX12_drips 123 = .ok (.bipush 44, 2) := by decide +kernel
theorem dX12_drips_125 : decode cX12_drips 125 = .ok (.iload 4, 2) := by decide +kernel
theorem dX12_drips_127 : decode cX12_drips 127 = .ok (.iadd, 1) := by decide +kernel
theorem dX12_drips_128 : decode cX12_drips 128 = .ok (.iaload, 1) := by decide +kernel
theorem dX12_drips_129 : decode cX12_drips 129 = .ok (.iload_n 3, 1) := by decide +kernel
theorem dX12_drips_130 : decode cX12_drips 130 = .ok (.iadd, 1) := by decide +kernel
theorem dX12_drips_131 : decode cX12_drips 131 = .ok (.iastore, 1) := by decide +kernel
theorem dX12_drips_132 : decode cX12_drips 132 = .ok (.aload_n 0, 1) := by decide +kernel
theorem dX12_drips_133 : decode cX12_drips 133 = .ok (.getfield 7, 3) := by decide +kernel
theorem dX12_drips_136 : decode cX12_drips 136 = .ok (.bipush 53, 2) := by decide +kernel
theorem dX12_drips_138 : decode cX12_drips 138 = .ok (.iload 4, 2) := by decide +kernel
theorem dX12_drips_140 : decode cX12_drips 140 = .ok (.iadd, 1) := by decide +kernel
theorem dX12_drips_141 : decode cX12_drips 141 = .ok (.aload_n 0, 1) := by decide +kernel
theorem dX12_drips_142 : decode cX12_drips 142 = .ok (.getfield 7, 3) := by decide +kernel
theorem dX12_drips_145 : decode cX12_drips 145 = .ok (.bipush 53, 2) := by decide +kernel
theorem dX12_drips_147 : decode cX12_drips 147 = .ok (.iload 4, 2) := by decide +kernel
theorem dX12_drips_149 : decode cX12_drips 149 = .ok (.iadd, 1) := by decide +kernel
theorem dX12_drips_150 : decode cX12_drips 150 = .ok (.iaload, 1) := by decide +kernel
theorem dX12_drips_151 : decode cX12_drips 151 = .ok (.iload_n 3, 1) := by decide +kernel
theorem dX12_drips_152 : decode cX12_drips 152 = .ok (.iadd, 1) := by decide +kernel
theorem dX12_drips_153 : decode cX12_drips 153 = .ok (.iastore, 1) := by decide +kernel
theorem dX12_drips_154 : decode cX12_drips 154 = .ok (.return_, 1) := by decide +kernel
theorem dX12_goesOn_0 : decode cX12_goesOn 0 = .ok (.aload_n 0, 1) := by decide +kernel
theorem dX12_goesOn_1 : decode cX12_goesOn 1 = .ok (.iload_n 1, 1) := by decide +kernel
theorem dX12_goesOn_2 : decode cX12_goesOn 2 = .ok (.invokevirtual 283, 3) := by decide +kernel
theorem dX12_goesOn_5 : decode cX12_goesOn 5 = .ok (.istore_n 2, 1) := by decide +kernel
theorem dX12_goesOn_6 : decode cX12_goesOn 6 = .ok (.iload_n 2, 1) := by decide +kernel
theorem dX12_goesOn_7 : decode cX12_goesOn 7 = .ok (.aload_n 0, 1) := by decide +kernel
theorem dX12_goesOn_8 : decode cX12_goesOn 8 = .ok (.getfield 16, 3) := by decide +kernel
theorem dX12_goesOn_11 : decode cX12_goesOn 11 = .ok (.iconst 2, 1) := by decide +kernel
theorem dX12_goesOn_12 : decode cX12_goesOn 12 = .ok (.idiv, 1) := by decide +kernel
theorem dX12_goesOn_13 : decode cX12_goesOn 13 = .ok (.if_icmp .ne 38, 3) := by decide +kernel
theorem dX12_goesOn_16 : decode cX12_goesOn 16 = .ok (.aload_n 0, 1) := by decide +kernel
theorem dX12_goesOn_17 : decode cX12_goesOn 17 = .ok (.getfield 7, 3) := by decide +kernel
theorem dX12_goesOn_20 : decode cX12_goesOn 20 = .ok (.iconst 1, 1) := by decide +kernel
theorem dX12_goesOn_21 : decode cX12_goesOn 21 = .ok (.aload_n 0, 1) := by decide +kernel
theorem dX12_goesOn_22 : decode cX12_goesOn 22 = .ok (.getfield 7, 3) := by decide +kernel
theorem dX12_goesOn_25 : decode cX12_goesOn 25 = .ok (.iconst 1, 1) := by decide +kernel
theorem dX12_goesOn_26 : decode cX12_goesOn 26 = .ok (.iaload, 1) := by decide +kernel
theorem dX12_goesOn_27 : decode cX12_goesOn 27 = .ok (.aload_n 0, 1) := by decide +kernel
theorem dX12_goesOn_28 : decode cX12_goesOn 28 = .ok (.getfield 7, 3) := by decide +kernel
theorem dX12_goesOn_31 : decode cX12_goesOn 31 = .ok (.bipush 7, 2) := by decide +kernel
theorem dX12_goesOn_33 : decode cX12_goesOn 33 = .ok (.iload_n 1, 1) := by decide +kernel
theorem dX12_goesOn_34 : decode cX12_goesOn 34 = .ok (.iadd, 1) := by decide +kernel
theorem dX12_goesOn_35 : decode cX12_goesOn 35 = .ok (.iaload, 1) := by decide +kernel
theorem dX12_goesOn_36 : decode cX12_goesOn 36 = .ok (.iadd, 1) := by decide +kernel
theorem dX12_goesOn_37 : decode cX12_goesOn 37 = .ok (.iastore, 1) := by decide +kernel
theorem dX12_goesOn_38 : decode cX12_goesOn 38 = .ok (.aload_n 0, 1) := by decide +kernel
theorem dX12_goesOn_39 : decode cX12_goesOn 39 = .ok (.getfield 7, 3) := by decide +kernel
theorem dX12_goesOn_42 : decode cX12_goesOn 42 = .ok (.bipush 7, 2) := by decide +kernel
theorem dX12_goesOn_44 : decode cX12_goesOn 44 = .ok (.iload_n 1, 1) := by decide +kernel
theorem dX12_goesOn_45 : decode cX12_goesOn 45 = .ok (.iadd, 1) := by decide +kernel
theorem dX12_goesOn_46 : decode cX12_goesOn 46 = .ok (.iconst 0, 1) := by decide +kernel
theorem dX12_goesOn_47 : decode cX12_goesOn 47 = .ok (.iastore, 1) := by decide +kernel
theorem dX12_goesOn_48 : decode cX12_goesOn 48 = .ok (.goto 88, 3) := by decide +kernel
theorem dX12_goesOn_51 : decode cX12_goesOn 51 = .ok (.iload_n 2, 1) := by decide +kernel
theorem dX12_goesOn_52 : decode cX12_goesOn 52 = .ok (.ifCond .ne 78, 3) := by decide +kernel
theorem dX12_goesOn_55 : decode cX12_goesOn 55 = .ok (.aload_n 0, 1) := by decide +kernel
theorem dX12_goesOn_56 : decode cX12_goesOn 56 = .ok (.getfield 23, 3) := by decide +kernel
theorem dX12_goesOn_59 : decode cX12_goesOn 59 = .ok (.iload_n 1, 1) := by decide +kernel
theorem dX12_goesOn_60 : decode cX12_goesOn 60 = .ok (.iaload, 1) := by decide +kernel
theorem dX12_goesOn_61 : decode cX12_goesOn 61 = .ok (.aload_n 0, 1) := by decide +kernel
theorem dX12_goesOn_62 : decode cX12_goesOn 62 = .ok (.getfield 7, 3) := by decide +kernel
theorem dX12_goesOn_65 : decode cX12_goesOn 65 = .ok (.bipush 7, 2) := by decide +kernel
theorem dX12_goesOn_67 : decode cX12_goesOn 67 = .ok (.iload_n 1, 1) := by decide +kernel
theorem dX12_goesOn_68 : decode cX12_goesOn 68 = .ok (.iadd, 1) := by decide +kernel
theorem dX12_goesOn_69 : decode cX12_goesOn 69 = .ok (.iaload, 1) := by decide +kernel
theorem dX12_goesOn_70 : decode cX12_goesOn 70 = .ok (.isub, 1) := by decide +kernel
theorem dX12_goesOn_71 : decode cX12_goesOn 71 = .ok (.istore_n 3, 1) := by decide +kernel
theorem dX12_goesOn_72 : decode cX12_goesOn 72 = .ok (.iload_n 3, 1) := by decide +kernel
theorem dX12_goesOn_73 : decode cX12_goesOn 73 = .ok (.aload_n 0, 1) := by decide +kernel
theorem dX12_goesOn_74 : decode cX12_goesOn 74 = .ok (.getfield 7, 3) := by decide +kernel
theorem dX12_goesOn_77 : decode cX12_goesOn 77 = .ok (.iconst 0, 1) := by decide +kernel
theorem dX12_goesOn_78 : decode cX12_goesOn 78 = .ok (.iaload, 1) := by decide +kernel
theorem dX12_goesOn_79 : decode cX12_goesOn 79 = .ok (.if_icmp .ge 7, 3) := by decide +kernel
theorem dX12_goesOn_82 : decode cX12_goesOn 82 = .ok (.iload_n 3, 1) := by decide +kernel
theorem dX12_goesOn_83 : decode cX12_goesOn 83 = .ok (.goto 9, 3) := by decide +kernel
theorem dX12_goesOn_86 : decode cX12_goesOn 86 = .ok (.aload_n 0, 1) := by decide +kernel
theorem dX12_goesOn_87 : decode cX12_goesOn 87 = .ok (.getfield 7, 3) := by decide +kernel
theorem dX12_goesOn_90 : decode cX12_goesOn 90 = .ok (.iconst 0, 1) := by decide +kernel
theorem dX12_goesOn_91 : decode cX12_goesOn 91 = .ok (.iaload, 1) := by decide +kernel
theorem dX12_goesOn_92 : decode cX12_goesOn 92 = .ok (.istore_n 3, 1) := by decide +kernel
theorem dX12_goesOn_93 : decode cX12_goesOn 93 = .ok (.aload_n 0, 1) := by decide +kernel
theorem dX12_goesOn_94 : decode cX12_goesOn 94 = .ok (.getfield 7, 3) := by decide +kernel
theorem dX12_goesOn_97 : decode cX12_goesOn 97 = .ok (.bipush 7, 2) := by decide +kernel
theorem dX12_goesOn_99 : decode cX12_goesOn 99 = .ok (.iload_n 1, 1) := by decide +kernel
theorem dX12_goesOn_100 : decode cX12_goesOn 100 = .ok (.iadd, 1) := by decide +kernel
theorem dX12_goesOn_101 : decode cX12_goesOn 101 = .ok (.aload_n 0, 1) := by decide +kernel
theorem dX12_goesOn_102 : decode cX12_goesOn 102 = .ok (.getfield 7, 3) := by decide +kernel
theorem dX12_goesOn_105 : decode cX12_goesOn 105 = .ok (.bipush 7, 2) := by decide +kernel
theorem dX12_goesOn_107 : decode cX12_goesOn 107 = .ok (.iload_n 1, 1) := by decide +kernel
theorem dX12_goesOn_108 : decode cX12_goesOn 108 = .ok (.iadd, 1) := by decide +kernel
theorem dX12_goesOn_109 : decode cX12_goesOn 109 = .ok (.iaload, 1) := by decide +kernel
theorem dX12_goesOn_110 : decode cX12_goesOn 110 = .ok (.iload_n 3, 1) := by decide +kernel
theorem dX12_goesOn_111 : decode cX12_goesOn 111 = .ok (.iadd, 1) := by decide +kernel
theorem dX12_goesOn_112 : decode cX12_goesOn 112 = .ok (.iastore, 1) := by decide +kernel
theorem dX12_goesOn_113 : decode cX12_goesOn 113 = .ok (.aload_n 0, 1) := by decide +kernel
theorem dX12_goesOn_114 : decode cX12_goesOn 114 = .ok (.getfield 7, 3) := by decide +kernel
theorem dX12_goesOn_117 : decode cX12_goesOn 117 = .ok (.iconst 0, 1) := by decide +kernel
theorem dX12_goesOn_118 : decode cX12_goesOn 118 = .ok (.aload_n 0, 1) := by decide +kernel
theorem dX12_goesOn_119 : decode cX12_goesOn 119 = .ok (.getfield 7, 3) := by decide +kernel
theorem dX12_goesOn_122 : decode cX12_goesOn 122 = .ok (.iconst 0, 1) := by decide +kernel
theorem dX12_goesOn_123 : decode cX12_goesOn 123 = .ok (.iaload, 1) := by decide +kernel
theorem dX12_goesOn_124 : decode cX12_goesOn 124 = .ok (.iload_n 3, 1) := by decide +kernel
theorem dX12_goesOn_125 : decode cX12_goesOn 125 = .ok (.isub, 1) := by decide +kernel
theorem dX12_goesOn_126 : decode cX12_goesOn 126 = .ok (.iastore, 1) := by decide +kernel
theorem dX12_goesOn_127 : decode cX12_goesOn 127 = .ok (.goto 9, 3) := by decide +kernel
theorem dX12_goesOn_130 : decode cX12_goesOn 130 = .ok (.aload_n 0, 1) := by decide +kernel
theorem dX12_goesOn_131 : decode cX12_goesOn 131 = .ok (.iload_n 1, 1) := by decide +kernel
theorem dX12_goesOn_132 : decode cX12_goesOn 132 = .ok (.iload_n 2, 1) := by decide +kernel
theorem dX12_goesOn_133 : decode cX12_goesOn 133 = .ok (.invokevirtual 286, 3) := by decide +kernel
theorem dX12_goesOn_136 : decode cX12_goesOn 136 = .ok (.return_, 1) := by decide +kernel
theorem dX12_step_0 : decode cX12_step 0 = .ok (.aload_n 0, 1) := by decide +kernel
theorem dX12_step_1 : decode cX12_step 1 = .ok (.getfield 7, 3) := by decide +kernel
theorem dX12_step_4 : decode cX12_step 4 = .ok (.bipush 6, 2) := by decide +kernel
theorem dX12_step_6 : decode cX12_step 6 = .ok (.aload_n 0, 1) := by decide +kernel
theorem dX12_step_7 : decode cX12_step 7 = .ok (.getfield 7, 3) := by decide +kernel
theorem dX12_step_10 : decode cX12_step 10 = .ok (.bipush 6, 2) := by decide +kernel
theorem dX12_step_12 : decode cX12_step 12 = .ok (.iaload, 1) := by decide +kernel
theorem dX12_step_13 : decode cX12_step 13 = .ok (.iconst 1, 1) := by decide +kernel
theorem dX12_step_14 : decode cX12_step 14 = .ok (.iadd, 1) := by decide +kernel
theorem dX12_step_15 : decode cX12_step 15 = .ok (.aload_n 0, 1) := by decide +kernel
theorem dX12_step_16 : decode cX12_step 16 = .ok (.getfield 16, 3) := by decide +kernel
theorem dX12_step_19 : decode cX12_step 19 = .ok (.irem, 1) := by decide +kernel
theorem dX12_step_20 : decode cX12_step 20 = .ok (.iastore, 1) := by decide +kernel
theorem dX12_step_21 : decode cX12_step 21 = .ok (.iconst 0, 1) := by decide +kernel
theorem dX12_step_22 : decode cX12_step 22 = .ok (.istore_n 1, 1) := by decide +kernel
theorem dX12_step_23 : decode cX12_step 23 = .ok (.iload_n 1, 1) := by decide +kernel
theorem dX12_step_24 : decode cX12_step 24 = .ok (.aload_n 0, 1) := by decide +kernel
theorem dX12_step_25 : decode cX12_step 25 = .ok (.getfield 142, 3) := by decide +kernel
theorem dX12_step_28 : decode cX12_step 28 = .ok (.if_icmp .ge 14, 3) := by decide +kernel
theorem dX12_step_31 : decode cX12_step 31 = .ok (.aload_n 0, 1) := by decide +kernel
theorem dX12_step_32 : decode cX12_step 32 = .ok (.iload_n 1, 1) := by decide +kernel
theorem dX12_step_33 : decode cX12_step 33 = .ok (.invokevirtual 289, 3) := by decide +kernel
theorem dX12_step_36 : decode cX12_step 36 = .ok (.iinc 1 1, 3) := by decide +kernel
theorem dX12_step_39 : decode cX12_step 39 = .ok (.goto (-16), 3) := by decide +kernel
theorem dX12_step_42 : decode cX12_step 42 = .ok (.iconst 0, 1) := by decide +kernel
theorem dX12_step_43 : decode cX12_step 43 = .ok (.istore_n 1, 1) := by decide +kernel
theorem dX12_step_44 : decode cX12_step 44 = .ok (.iload_n 1, 1) := by decide +kernel
theorem dX12_step_45 : decode cX12_step 45 = .ok (.aload_n 0, 1) := by decide +kernel
theorem dX12_step_46 : decode cX12_step 46 = .ok (.getfield 145, 3) := by decide +kernel
theorem dX12_step_49 : decode cX12_step 49 = .ok (.if_icmp .ge 59, 3) := by decide +kernel
theorem dX12_step_52 : decode cX12_step 52 = .ok (.aload_n 0, 1) := by decide +kernel
theorem dX12_step_53 : decode cX12_step 53 = .ok (.getfield 7, 3) := by decide +kernel
theorem dX12_step_56 : decode cX12_step 56 = .ok (.sipush 152, 3) := by decide +kernel
theorem dX12_step_59 : decode cX12_step 59 = .ok (.iload_n 1, 1) := by decide +kernel
theorem dX12_step_60 : decode cX12_step 60 = .ok (.iadd, 1) := by decide +kernel
theorem dX12_step_61 : decode cX12_step 61 = .ok (.aload_n 0, 1) := by decide +kernel
theorem dX12_step_62 : decode cX12_step 62 = .ok (.getfield 7, 3) := by decide +kernel
theorem dX12_step_65 : decode cX12_step 65 = .ok (.sipush 152, 3) := by decide +kernel
theorem dX12_step_68 : decode cX12_step 68 = .ok (.iload_n 1, 1) := by decide +kernel
theorem dX12_step_69 : decode cX12_step 69 = .ok (.iadd, 1) := by decide +kernel
theorem dX12_step_70 : decode cX12_step 70 = .ok (.iaload, 1) := by decide +kernel
theorem dX12_step_71 : decode cX12_step 71 = .ok (.aload_n 0, 1) := by decide +kernel
theorem dX12_step_72 : decode cX12_step 72 = .ok (.getfield 47, 3) := by decide +kernel
theorem dX12_step_75 : decode cX12_step 75 = .ok (.iload_n 1, 1) := by decide +kernel
theorem dX12_step_76 : decode cX12_step 76 = .ok (.iaload, 1) := by decide +kernel
theorem dX12_step_77 : decode cX12_step 77 = .ok (.if_icmp .le 23, 3) := by decide +kernel
theorem dX12_step_80 : decode cX12_step 80 = .ok (.aload_n 0, 1) := by decide +kernel
theorem dX12_step_81 : decode cX12_step 81 = .ok (.getfield 7, 3) := by decide +kernel
theorem dX12_step_84 : decode cX12_step 84 = .ok (.sipush 152, 3) := by decide +kernel
theorem dX12_step_87 : decode cX12_step 87 = .ok (.iload_n 1, 1) := by decide +kernel
theorem dX12_step_88 : decode cX12_step 88 = .ok (.iadd, 1) := by decide +kernel
theorem dX12_step_89 : decode cX12_step 89 = .ok (.iaload, 1) := by decide +kernel
theorem dX12_step_90 : decode cX12_step 90 = .ok (.aload_n 0, 1) := by decide +kernel
theorem dX12_step_91 : decode cX12_step 91 = .ok (.getfield 47, 3) := by decide +kernel
theorem dX12_step_94 : decode cX12_step 94 = .ok (.iload_n 1, 1) := by decide +kernel
theorem dX12_step_95 : decode cX12_step 95 = .ok (.iaload, 1) := by decide +kernel
theorem dX12_step_96 : decode cX12_step 96 = .ok (.isub, 1) := by decide +kernel
theorem dX12_step_97 : decode cX12_step 97 = .ok (.goto 4, 3) := by decide +kernel
theorem dX12_step_100 : decode cX12_step 100 = .ok (.iconst 0, 1) := by decide +kernel
theorem dX12_step_101 : decode cX12_step 101 = .ok (.iastore, 1) := by decide +kernel
theorem dX12_step_102 : decode cX12_step 102 = .ok (.iinc 1 1, 3) := by decide +kernel
theorem dX12_step_105 : decode cX12_step 105 = .ok (.goto (-61), 3) := by decide +kernel
theorem dX12_step_108 : decode cX12_step 108 = .ok (.return_, 1) := by decide +kernel
theorem dX12_stepsOf_0 : decode cX12_stepsOf 0 = .ok (.aload_n 0, 1) := by decide +kernel
theorem dX12_stepsOf_1 : decode cX12_stepsOf 1 = .ok (.getfield 29, 3) := by decide +kernel
theorem dX12_stepsOf_4 : decode cX12_stepsOf 4 = .ok (.iload_n 1, 1) := by decide +kernel
theorem dX12_stepsOf_5 : decode cX12_stepsOf 5 = .ok (.iaload, 1) := by decide +kernel
theorem dX12_stepsOf_6 : decode cX12_stepsOf 6 = .ok (.aload_n 0, 1) := by decide +kernel
theorem dX12_stepsOf_7 : decode cX12_stepsOf 7 = .ok (.getfield 32, 3) := by decide +kernel
theorem dX12_stepsOf_10 : decode cX12_stepsOf 10 = .ok (.iload_n 1, 1) := by decide +kernel
theorem dX12_stepsOf_11 : decode cX12_stepsOf 11 = .ok (.iaload, 1) := by decide +kernel
theorem dX12_stepsOf_12 : decode cX12_stepsOf 12 = .ok (.isub, 1) := by decide +kernel
theorem dX12_stepsOf_13 : decode cX12_stepsOf 13 = .ok (.iload_n 2, 1) := by decide +kernel
theorem dX12_stepsOf_14 : decode cX12_stepsOf 14 = .ok (.ifCond .eq 10, 3) := by decide +kernel
theorem dX12_stepsOf_17 : decode cX12_stepsOf 17 = .ok (.aload_n 0, 1) := by decide +kernel
theorem dX12_stepsOf_18 : decode cX12_stepsOf 18 = .ok (.getfield 154, 3) := by decide +kernel
theorem dX12_stepsOf_21 : decode cX12_stepsOf 21 = .ok (.goto 4, 3) := by decide +kernel
theorem dX12_stepsOf_24 : decode cX12_stepsOf 24 = .ok (.iconst 0, 1) := by decide +kernel
theorem dX12_stepsOf_25 : decode cX12_stepsOf 25 = .ok (.isub, 1) := by decide +kernel
theorem dX12_stepsOf_26 : decode cX12_stepsOf 26 = .ok (.istore_n 3, 1) := by decide +kernel
theorem dX12_stepsOf_27 : decode cX12_stepsOf 27 = .ok (.iconst 0, 1) := by decide +kernel
theorem dX12_stepsOf_28 : decode cX12_stepsOf 28 = .ok (.istore 4, 2) := by decide +kernel
theorem dX12_stepsOf_30 : decode cX12_stepsOf 30 = .ok (.iload 4, 2) := by decide +kernel
theorem dX12_stepsOf_32 : decode cX12_stepsOf 32 = .ok (.aload_n 0, 1) := by decide +kernel
theorem dX12_stepsOf_33 : decode cX12_stepsOf 33 = .ok (.getfield 135, 3) := by decide +kernel
theorem dX12_stepsOf_36 : decode cX12_stepsOf 36 = .ok (.if_icmp .ge 25, 3) := by decide +kernel
theorem dX12_stepsOf_39 : decode cX12_stepsOf 39 = .ok (.iload 4, 2) := by decide +kernel
theorem dX12_stepsOf_41 : decode cX12_stepsOf 41 = .ok (.iload_n 1, 1) := by decide +kernel
theorem dX12_stepsOf_42 : decode cX12_stepsOf 42 = .ok (.if_icmp .eq 13, 3) := by decide +kernel
theorem dX12_stepsOf_45 : decode cX12_stepsOf 45 = .ok (.iload_n 3, 1) := by decide +kernel
theorem dX12_stepsOf_46 : decode cX12_stepsOf 46 = .ok (.aload_n 0, 1) := by decide +kernel
theorem dX12_stepsOf_47 : decode cX12_stepsOf 47 = .ok (.getfield 35, 3) := by decide +kernel
theorem dX12_stepsOf_50 : decode cX12_stepsOf 50 = .ok (.iload 4, 2) := by decide +kernel
theorem dX12_stepsOf_52 : decode cX12_stepsOf 52 = .ok (.iaload, 1) := by decide +kernel
theorem dX12_stepsOf_53 : decode cX12_stepsOf 53 = .ok (.isub, 1) := by decide +kernel
theorem dX12_stepsOf_54 : decode cX12_stepsOf 54 = .ok (.istore_n 3, 1) := by decide +kernel
theorem dX12_stepsOf_55 : decode cX12_stepsOf 55 = .ok (.iinc 4 1, 3) := by decide +kernel
theorem dX12_stepsOf_58 : decode cX12_stepsOf 58 = .ok (.goto (-28), 3) := by decide +kernel
theorem dX12_stepsOf_61 : decode cX12_stepsOf 61 = .ok (.iload_n 3, 1) := by decide +kernel
theorem dX12_stepsOf_62 : decode cX12_stepsOf 62 = .ok (.ireturn, 1) := by decide +kernel
theorem dX12_pulls_0 : decode cX12_pulls 0 = .ok (.iconst 0, 1) := by decide +kernel
theorem dX12_pulls_1 : decode cX12_pulls 1 = .ok (.istore_n 2, 1) := by decide +kernel
theorem dX12_pulls_2 : decode cX12_pulls 2 = .ok (.iload_n 2, 1) := by decide +kernel
theorem dX12_pulls_3 : decode cX12_pulls 3 = .ok (.iload_n 1, 1) := by decide +kernel
theorem dX12_pulls_4 : decode cX12_pulls 4 = .ok (.if_icmp .ge 21, 3) := by decide +kernel
theorem dX12_pulls_7 : decode cX12_pulls 7 = .ok (.aload_n 0, 1) := by decide +kernel
theorem dX12_pulls_8 : decode cX12_pulls 8 = .ok (.invokevirtual 292, 3) := by decide +kernel
theorem dX12_pulls_11 : decode cX12_pulls 11 = .ok (.ifCond .ne 14, 3) := by decide +kernel
theorem dX12_pulls_14 : decode cX12_pulls 14 = .ok (.aload_n 0, 1) := by decide +kernel
theorem dX12_pulls_15 : decode cX12_pulls 15 = .ok (.invokevirtual 296, 3) := by decide +kernel
theorem dX12_pulls_18 : decode cX12_pulls 18 = .ok (.iload_n 2, 1) := by decide +kernel
theorem dX12_pulls_19 : decode cX12_pulls 19 = .ok (.iconst 1, 1) := by decide +kernel
theorem dX12_pulls_20 : decode cX12_pulls 20 = .ok (.iadd, 1) := by decide +kernel
theorem dX12_pulls_21 : decode cX12_pulls 21 = .ok (.istore_n 2, 1) := by decide +kernel
theorem dX12_pulls_22 : decode cX12_pulls 22 = .ok (.goto (-20), 3) := by decide +kernel
theorem dX12_pulls_25 : decode cX12_pulls 25 = .ok (.iload_n 2, 1) := by decide +kernel
theorem dX12_pulls_26 : decode cX12_pulls 26 = .ok (.ireturn, 1) := by decide +kernel
theorem dX12_pullerFor_0 : decode cX12_pullerFor 0 = .ok (.iconst 0, 1) := by decide +kernel
theorem dX12_pullerFor_1 : decode cX12_pullerFor 1 = .ok (.istore_n 2, 1) := by decide +kernel
theorem dX12_pullerFor_2 : decode cX12_pullerFor 2 = .ok (.iload_n 2, 1) := by decide +kernel
theorem dX12_pullerFor_3 : decode cX12_pullerFor 3 = .ok (.aload_n 0, 1) := by decide +kernel
theorem dX12_pullerFor_4 : decode cX12_pullerFor 4 = .ok (.getfield 148, 3) := by decide +kernel
theorem dX12_pullerFor_7 : decode cX12_pullerFor 7 = .ok (.if_icmp .ge 41, 3) := by decide +kernel
theorem dX12_pullerFor_10 : decode cX12_pullerFor 10 = .ok (.aload_n 0, 1) := by decide +kernel
theorem dX12_pullerFor_11 : decode cX12_pullerFor 11 = .ok (.getfield 56, 3) := by decide +kernel
theorem dX12_pullerFor_14 : decode cX12_pullerFor 14 = .ok (.iload_n 2, 1) := by decide +kernel
theorem dX12_pullerFor_15 : decode cX12_pullerFor 15 = .ok (.iaload, 1) := by decide +kernel
theorem dX12_pullerFor_16 : decode cX12_pullerFor 16 = .ok (.aload_n 0, 1) := by decide +kernel
theorem dX12_pullerFor_17 : decode cX12_pullerFor 17 = .ok (.getfield 7, 3) := by decide +kernel
theorem dX12_pullerFor_20 : decode cX12_pullerFor 20 = .ok (.iconst 2, 1) := by decide +kernel
theorem dX12_pullerFor_21 : decode cX12_pullerFor 21 = .ok (.iaload, 1) := by decide +kernel
theorem dX12_pullerFor_22 : decode cX12_pullerFor 22 = .ok (.if_icmp .ne 20, 3) := by decide +kernel
theorem dX12_pullerFor_25 : decode cX12_pullerFor 25 = .ok (.aload_n 0, 1) := by decide +kernel
theorem dX12_pullerFor_26 : decode cX12_pullerFor 26 = .ok (.getfield 53, 3) := by decide +kernel
theorem dX12_pullerFor_29 : decode cX12_pullerFor 29 = .ok (.iload_n 2, 1) := by decide +kernel
theorem dX12_pullerFor_30 : decode cX12_pullerFor 30 = .ok (.iaload, 1) := by decide +kernel
theorem dX12_pullerFor_31 : decode cX12_pullerFor 31 = .ok (.iload_n 1, 1) := by decide +kernel
theorem dX12_pullerFor_32 : decode cX12_pullerFor 32 = .ok (.if_icmp .ne 10, 3) := by decide +kernel
theorem dX12_pullerFor_35 : decode cX12_pullerFor 35 = .ok (.aload_n 0, 1) := by decide +kernel
theorem dX12_pullerFor_36 : decode cX12_pullerFor 36 = .ok (.getfield 59, 3) := by decide +kernel
theorem dX12_pullerFor_39 : decode cX12_pullerFor 39 = .ok (.iload_n 2, 1) := by decide +kernel
theorem dX12_pullerFor_40 : decode cX12_pullerFor 40 = .ok (.iaload, 1) := by decide +kernel
theorem dX12_pullerFor_41 : decode cX12_pullerFor 41 = .ok (.ireturn, 1) := by decide +kernel
theorem dX12_pullerFor_42 : decode cX12_pullerFor 42 = .ok (.iinc 2 1, 3) := by decide +kernel
theorem dX12_pullerFor_45 : decode cX12_pullerFor 45 = .ok (.goto (-43), 3) := by decide +kernel
theorem dX12_pullerFor_48 : decode cX12_pullerFor 48 = .ok (.iload_n 1, 1) := by decide +kernel
theorem dX12_pullerFor_49 : decode cX12_pullerFor 49 = .ok (.ireturn, 1) := by decide +kernel
theorem dX12_shares_0 : decode cX12_shares 0 = .ok (.lconst 0, 1) := by decide +kernel
theorem dX12_shares_1 : decode cX12_shares 1 = .ok (.lstore_n 1, 1) := by decide +kernel
theorem dX12_shares_2 : decode cX12_shares 2 = .ok (.iconst 0, 1) := by decide +kernel
theorem dX12_shares_3 : decode cX12_shares 3 = .ok (.istore_n 3, 1) := by decide +kernel
theorem dX12_shares_4 : decode cX12_shares 4 = .ok (.iload_n 3, 1) := by decide +kernel
theorem dX12_shares_5 : decode cX12_shares 5 = .ok (.aload_n 0, 1) := by decide +kernel
theorem dX12_shares_6 : decode cX12_shares 6 = .ok (.getfield 135, 3) := by decide +kernel
theorem dX12_shares_9 : decode cX12_shares 9 = .ok (.if_icmp .ge 30, 3) := by decide +kernel
theorem dX12_shares_12 : decode cX12_shares 12 = .ok (.aload_n 0, 1) := by decide +kernel
theorem dX12_shares_13 : decode cX12_shares 13 = .ok (.getfield 104, 3) := by decide +kernel
theorem dX12_shares_16 : decode cX12_shares 16 = .ok (.iload_n 3, 1) := by decide +kernel
theorem dX12_shares_17 : decode cX12_shares 17 = .ok (.aload_n 0, 1) := by decide +kernel
theorem dX12_shares_18 : decode cX12_shares 18 = .ok (.iload_n 3, 1) := by decide +kernel
theorem dX12_shares_19 : decode cX12_shares 19 = .ok (.invokevirtual 299, 3) := by decide +kernel
theorem dX12_shares_22 : decode cX12_shares 22 = .ok (.iastore, 1) := by decide +kernel
theorem dX12_shares_23 : decode cX12_shares 23 = .ok (.lload_n 1, 1) := by decide +kernel
theorem dX12_shares_24 : decode cX12_shares 24 = .ok (.aload_n 0, 1) := by decide +kernel
theorem dX12_shares_25 : decode cX12_shares 25 = .ok (.getfield 104, 3) := by decide +kernel
theorem dX12_shares_28 : decode cX12_shares 28 = .ok (.iload_n 3, 1) := by decide +kernel
theorem dX12_shares_29 : decode cX12_shares 29 = .ok (.iaload, 1) := by decide +kernel
theorem dX12_shares_30 : decode cX12_shares 30 = .ok (.i2l, 1) := by decide +kernel
theorem dX12_shares_31 : decode cX12_shares 31 = .ok (.ladd, 1) := by decide +kernel
theorem dX12_shares_32 : decode cX12_shares 32 = .ok (.lstore_n 1, 1) := by decide +kernel
theorem dX12_shares_33 : decode cX12_shares 33 = .ok (.iinc 3 1, 3) := by decide +kernel
theorem dX12_shares_36 : decode cX12_shares 36 = .ok (.goto (-32), 3) := by decide +kernel
theorem dX12_shares_39 : decode cX12_shares 39 = .ok (.lload_n 1, 1) := by decide +kernel
theorem dX12_shares_40 : decode cX12_shares 40 = .ok (.lconst 0, 1) := by decide +kernel
theorem dX12_shares_41 : decode cX12_shares 41 = .ok (.lcmp, 1) := by decide +kernel
theorem dX12_shares_42 : decode cX12_shares 42 = .ok (.ifCond .ne 4, 3) := by decide +kernel
theorem dX12_shares_45 : decode cX12_shares 45 = .ok (.return_, 1) := by decide +kernel
theorem dX12_shares_46 : decode cX12_shares 46 = .ok (.aload_n 0, 1) := by decide +kernel
theorem dX12_shares_47 : decode cX12_shares 47 = .ok (.getfield 7, 3) := by decide +kernel
theorem dX12_shares_50 : decode cX12_shares 50 = .ok (.iconst 1, 1) := by decide +kernel
theorem dX12_shares_51 : decode cX12_shares 51 = .ok (.iaload, 1) := by decide +kernel
theorem dX12_shares_52 : decode cX12_shares 52 = .ok (.istore_n 3, 1) := by decide +kernel
theorem dX12_shares_53 : decode cX12_shares 53 = .ok (.iconst 0, 1) := by decide +kernel
theorem dX12_shares_54 : decode cX12_shares 54 = .ok (.istore 4, 2) := by decide +kernel
theorem dX12_shares_56 : decode cX12_shares 56 = .ok (.iload 4, 2) := by decide +kernel
theorem dX12_shares_58 : decode cX12_shares 58 = .ok (.aload_n 0, 1) := by decide +kernel
theorem dX12_shares_59 : decode cX12_shares 59 = .ok (.getfield 135, 3) := by decide +kernel
theorem dX12_shares_62 : decode cX12_shares 62 = .ok (.if_icmp .ge 72, 3) := by decide +kernel
theorem dX12_shares_65 : decode cX12_shares 65 = .ok (.aload_n 0, 1) := by decide +kernel
theorem dX12_shares_66 : decode cX12_shares 66 = .ok (.getfield 7, 3) := by decide +kernel
theorem dX12_shares_69 : decode cX12_shares 69 = .ok (.iconst 1, 1) := by decide +kernel
theorem dX12_shares_70 : decode cX12_shares 70 = .ok (.iaload, 1) := by decide +kernel
theorem dX12_shares_71 : decode cX12_shares 71 = .ok (.i2l, 1) := by decide +kernel
theorem dX12_shares_72 : decode cX12_shares 72 = .ok (.aload_n 0, 1) := by decide +kernel
theorem dX12_shares_73 : decode cX12_shares 73 = .ok (.getfield 104, 3) := by decide +kernel
theorem dX12_shares_76 : decode cX12_shares 76 = .ok (.iload 4, 2) := by decide +kernel
theorem dX12_shares_78 : decode cX12_shares 78 = .ok (.iaload, 1) := by decide +kernel
theorem dX12_shares_79 : decode cX12_shares 79 = .ok (.i2l, 1) := by decide +kernel
theorem dX12_shares_80 : decode cX12_shares 80 = .ok (.lmul, 1) := by decide +kernel
theorem dX12_shares_81 : decode cX12_shares 81 = .ok (.lstore 5, 2) := by decide +kernel
theorem dX12_shares_83 : decode cX12_shares 83 = .ok (.aload_n 0, 1) := by decide +kernel
theorem dX12_shares_84 : decode cX12_shares 84 = .ok (.getfield 107, 3) := by decide +kernel
theorem dX12_shares_87 : decode cX12_shares 87 = .ok (.iload 4, 2) := by decide +kernel
theorem dX12_shares_89 : decode cX12_shares 89 = .ok (.lload 5, 2) := by decide +kernel
theorem dX12_shares_91 : decode cX12_shares 91 = .ok (.lload_n 1, 1) := by decide +kernel
theorem dX12_shares_92 : decode cX12_shares 92 = .ok (.lrem, 1) := by decide +kernel
theorem dX12_shares_93 : decode cX12_shares 93 = .ok (.lastore, 1) := by decide +kernel
theorem dX12_shares_94 : decode cX12_shares 94 = .ok (.aload_n 0, 1) := by decide +kernel
theorem dX12_shares_95 : decode cX12_shares 95 = .ok (.getfield 7, 3) := by decide +kernel
theorem dX12_shares_98 : decode cX12_shares 98 = .ok (.bipush 17, 2) := by decide +kernel
theorem dX12_shares_100 : decode cX12_shares 100 = .ok (.iload 4, 2) := by decide +kernel
theorem dX12_shares_102 : decode cX12_shares 102 = .ok (.iadd, 1) := by decide +kernel
theorem dX12_shares_103 : decode cX12_shares 103 = .ok (.aload_n 0, 1) := by decide +kernel
theorem dX12_shares_104 : decode cX12_shares 104 = .ok (.getfield 7, 3) := by decide +kernel
theorem dX12_shares_107 : decode cX12_shares 107 = .ok (.bipush 17, 2) := by decide +kernel
theorem dX12_shares_109 : decode cX12_shares 109 = .ok (.iload 4, 2) := by decide +kernel
theorem dX12_shares_111 : decode cX12_shares 111 = .ok (.iadd, 1) := by decide +kernel
theorem dX12_shares_112 : decode cX12_shares 112 = .ok (.iaload, 1) := by decide +kernel
theorem dX12_shares_113 : decode cX12_shares 113 = .ok (.lload 5, 2) := by decide +kernel
theorem dX12_shares_115 : decode cX12_shares 115 = .ok (.lload_n 1, 1) := by decide +kernel
theorem dX12_shares_116 : decode cX12_shares 116 = .ok (.ldiv, 1) := by decide +kernel
theorem dX12_shares_117 : decode cX12_shares 117 = .ok (.l2i, 1) := by decide +kernel
theorem dX12_shares_118 : decode cX12_shares 118 = .ok (.iadd, 1) := by decide +kernel
theorem dX12_shares_119 : decode cX12_shares 119 = .ok (.iastore, 1) := by decide +kernel
theorem dX12_shares_120 : decode cX12_shares 120 = .ok (.iload_n 3, 1) := by decide +kernel
theorem dX12_shares_121 : decode cX12_shares 121 = .ok (.lload 5, 2) := by decide +kernel
theorem dX12_shares_123 : decode cX12_shares 123 = .ok (.lload_n 1, 1) := by decide +kernel
theorem dX12_shares_124 : decode cX12_shares 124 = .ok (.ldiv, 1) := by decide +kernel
theorem dX12_shares_125 : decode cX12_shares 125 = .ok (.l2i, 1) := by decide +kernel
theorem dX12_shares_126 : decode cX12_shares 126 = .ok (.isub, 1) := by decide +kernel
theorem dX12_shares_127 : decode cX12_shares 127 = .ok (.istore_n 3, 1) := by decide +kernel
theorem dX12_shares_128 : decode cX12_shares 128 = .ok (.iinc 4 1, 3) := by decide +kernel
theorem dX12_shares_131 : decode cX12_shares 131 = .ok (.goto (-75), 3) := by decide +kernel
theorem dX12_shares_134 : decode cX12_shares 134 = .ok (.iload_n 3, 1) := by decide +kernel
theorem dX12_shares_135 : decode cX12_shares 135 = .ok (.ifCond .le 85, 3) := by decide +kernel
theorem dX12_shares_138 : decode cX12_shares 138 = .ok (.iconst 0, 1) := by decide +kernel
theorem dX12_shares_139 : decode cX12_shares 139 = .ok (.istore 4, 2) := by decide +kernel
theorem dX12_shares_141 : decode cX12_shares 141 = .ok (.iconst 1, 1) := by decide +kernel
theorem dX12_shares_142 : decode cX12_shares 142 = .ok (.istore 5, 2) := by decide +kernel
theorem dX12_shares_144 : decode cX12_shares 144 = .ok (.iload 5, 2) := by decide +kernel
theorem dX12_shares_146 : decode cX12_shares 146 = .ok (.aload_n 0, 1) := by decide +kernel
theorem dX12_shares_147 : decode cX12_shares 147 = .ok (.getfield 135, 3) := by decide +kernel
theorem dX12_shares_150 : decode cX12_shares 150 = .ok (.if_icmp .ge 31, 3) := by decide +kernel
theorem dX12_shares_153 : decode cX12_shares 153 = .ok (.aload_n 0, 1) := by decide +kernel
theorem dX12_shares_154 : decode cX12_shares 154 = .ok (.getfield 107, 3) := by decide +kernel
theorem dX12_shares_157 : decode cX12_shares 157 = .ok (.iload 5, 2) := by decide +kernel
theorem dX12_shares_159 : decode cX12_shares 159 = .ok (.laload, 1) := by decide +kernel
theorem dX12_shares_160 : decode cX12_shares 160 = .ok (.aload_n 0, 1) := by decide +kernel
theorem dX12_shares_161 : decode cX12_shares 161 = .ok (.getfield 107, 3) := by decide +kernel
theorem dX12_shares_164 : decode cX12_shares 164 = .ok (.iload 4, 2) := by decide +kernel
theorem dX12_shares_166 : decode cX12_shares 166 = .ok (.laload, 1) := by decide +kernel
theorem dX12_shares_167 : decode cX12_shares 167 = .ok (.lcmp, 1) := by decide +kernel
theorem dX12_shares_168 : decode cX12_shares 168 = .ok (.ifCond .le 7, 3) := by decide +kernel
theorem dX12_shares_171 : decode cX12_shares 171 = .ok (.iload 5, 2) := by decide +kernel
theorem dX12_shares_173 : decode cX12_shares 173 = .ok (.istore 4, 2) := by decide +kernel
theorem dX12_shares_175 : decode cX12_shares 175 = .ok (.iinc 5 1, 3) := by decide +kernel
theorem dX12_shares_178 : decode cX12_shares 178 = .ok (.goto (-34), 3) := by decide +kernel
theorem dX12_shares_181 : decode cX12_shares 181 = .ok (.aload_n 0, 1) := by decide +kernel
theorem dX12_shares_182 : decode cX12_shares 182 = .ok (.getfield 7, 3) := by decide +kernel
theorem dX12_shares_185 : decode cX12_shares 185 = .ok (.bipush 17, 2) := by decide +kernel
theorem dX12_shares_187 : decode cX12_shares 187 = .ok (.iload 4, 2) := by decide +kernel
theorem dX12_shares_189 : decode cX12_shares 189 = .ok (.iadd, 1) := by decide +kernel
theorem dX12_shares_190 : decode cX12_shares 190 = .ok (.aload_n 0, 1) := by decide +kernel
theorem dX12_shares_191 : decode cX12_shares 191 = .ok (.getfield 7, 3) := by decide +kernel
theorem dX12_shares_194 : decode cX12_shares 194 = .ok (.bipush 17, 2) := by decide +kernel
theorem dX12_shares_196 : decode cX12_shares 196 = .ok (.iload 4, 2) := by decide +kernel
theorem dX12_shares_198 : decode cX12_shares 198 = .ok (.iadd, 1) := by decide +kernel
theorem dX12_shares_199 : decode cX12_shares 199 = .ok (.iaload, 1) := by decide +kernel
theorem dX12_shares_200 : decode cX12_shares 200 = .ok (.iconst 1, 1) := by decide +kernel
theorem dX12_shares_201 : decode cX12_shares 201 = .ok (.iadd, 1) := by decide +kernel
theorem dX12_shares_202 : decode cX12_shares 202 = .ok (.iastore, 1) := by decide +kernel
theorem dX12_shares_203 : decode cX12_shares 203 = .ok (.aload_n 0, 1) := by decide +kernel
theorem dX12_shares_204 : decode cX12_shares 204 = .ok (.getfield 107, 3) := by decide +kernel
theorem dX12_shares_207 : decode cX12_shares 207 = .ok (.iload 4, 2) := by decide +kernel
theorem dX12_shares_209 : decode cX12_shares 209 = .ok (.ldc2_w 302, 3) := by decide +kernel
theorem dX12_shares_212 : decode cX12_shares 212 = .ok (.lastore, 1) := by decide +kernel
theorem dX12_shares_213 : decode cX12_shares 213 = .ok (.iload_n 3, 1) := by decide +kernel
theorem dX12_shares_214 : decode cX12_shares 214 = .ok (.iconst 1, 1) := by decide +kernel
theorem dX12_shares_215 : decode cX12_shares 215 = .ok (.isub, 1) := by decide +kernel
theorem dX12_shares_216 : decode cX12_shares 216 = .ok (.istore_n 3, 1) := by decide +kernel
theorem dX12_shares_217 : decode cX12_shares 217 = .ok (.goto (-83), 3) := by decide +kernel
theorem dX12_shares_220 : decode cX12_shares 220 = .ok (.aload_n 0, 1) := by decide +kernel
theorem dX12_shares_221 : decode cX12_shares 221 = .ok (.getfield 7, 3) := by decide +kernel
theorem dX12_shares_224 : decode cX12_shares 224 = .ok (.iconst 1, 1) := by decide +kernel
theorem dX12_shares_225 : decode cX12_shares 225 = .ok (.iconst 0, 1) := by decide +kernel
theorem dX12_shares_226 : decode cX12_shares 226 = .ok (.iastore, 1) := by decide +kernel
theorem dX12_shares_227 : decode cX12_shares 227 = .ok (.return_, 1) := by decide +kernel
theorem dX12_midnight_0 : decode cX12_midnight 0 = .ok (.aload_n 0, 1) := by decide +kernel
theorem dX12_midnight_1 : decode cX12_midnight 1 = .ok (.invokevirtual 304, 3) := by decide +kernel
theorem dX12_midnight_4 : decode cX12_midnight 4 = .ok (.iconst 0, 1) := by decide +kernel
theorem dX12_midnight_5 : decode cX12_midnight 5 = .ok (.istore_n 1, 1) := by decide +kernel
theorem dX12_midnight_6 : decode cX12_midnight 6 = .ok (.iload_n 1, 1) := by decide +kernel
theorem dX12_midnight_7 : decode cX12_midnight 7 = .ok (.aload_n 0, 1) := by decide +kernel
theorem dX12_midnight_8 : decode cX12_midnight 8 = .ok (.getfield 135, 3) := by decide +kernel
theorem dX12_midnight_11 : decode cX12_midnight 11 = .ok (.if_icmp .ge 130, 3) := by decide +kernel
theorem dX12_midnight_14 : decode cX12_midnight 14 = .ok (.aload_n 0, 1) := by decide +kernel
theorem dX12_midnight_15 : decode cX12_midnight 15 = .ok (.getfield 38, 3) := by decide +kernel
theorem dX12_midnight_18 : decode cX12_midnight 18 = .ok (.iload_n 1, 1) := by decide +kernel
theorem dX12_midnight_19 : decode cX12_midnight 19 = .ok (.iaload, 1) := by decide +kernel
theorem dX12_midnight_20 : decode cX12_midnight 20 = .ok (.aload_n 0, 1) := by decide +kernel
theorem dX12_midnight_21 : decode cX12_midnight 21 = .ok (.getfield 7, 3) := by decide +kernel
theorem dX12_midnight_24 : decode cX12_midnight 24 = .ok (.bipush 17, 2) := by decide +kernel
theorem dX12_midnight_26 : decode cX12_midnight 26 = .ok (.iload_n 1, 1) := by decide +kernel
theorem dX12_midnight_27 : decode cX12_midnight 27 = .ok (.iadd, 1) := by decide +kernel
theorem dX12_midnight_28 : decode cX12_midnight 28 = .ok (.iaload, 1) := by decide +kernel
theorem dX12_midnight_29 : decode cX12_midnight 29 = .ok (.if_icmp .ge 12, 3) := by decide +kernel
theorem dX12_midnight_32 : decode cX12_midnight 32 = .ok (.aload_n 0, 1) := by decide +kernel
theorem dX12_midnight_33 : decode cX12_midnight 33 = .ok (.getfield 38, 3) := by decide +kernel
theorem dX12_midnight_36 : decode cX12_midnight 36 = .ok (.iload_n 1, 1) := by decide +kernel
theorem dX12_midnight_37 : decode cX12_midnight 37 = .ok (.iaload, 1) := by decide +kernel
theorem dX12_midnight_38 : decode cX12_midnight 38 = .ok (.goto 12, 3) := by decide +kernel
theorem dX12_midnight_41 : decode cX12_midnight 41 = .ok (.aload_n 0, 1) := by decide +kernel
theorem dX12_midnight_42 : decode cX12_midnight 42 = .ok (.getfield 7, 3) := by decide +kernel
theorem dX12_midnight_45 : decode cX12_midnight 45 = .ok (.bipush 17, 2) := by decide +kernel
theorem dX12_midnight_47 : decode cX12_midnight 47 = .ok (.iload_n 1, 1) := by decide +kernel
theorem dX12_midnight_48 : decode cX12_midnight 48 = .ok (.iadd, 1) := by decide +kernel
theorem dX12_midnight_49 : decode cX12_midnight 49 = .ok (.iaload, 1) := by decide +kernel
theorem dX12_midnight_50 : decode cX12_midnight 50 = .ok (.istore_n 2, 1) := by decide +kernel
theorem dX12_midnight_51 : decode cX12_midnight 51 = .ok (.iload_n 2, 1) := by decide +kernel
theorem dX12_midnight_52 : decode cX12_midnight 52 = .ok (.aload_n 0, 1) := by decide +kernel
theorem dX12_midnight_53 : decode cX12_midnight 53 = .ok (.getfield 38, 3) := by decide +kernel
theorem dX12_midnight_56 : decode cX12_midnight 56 = .ok (.iload_n 1, 1) := by decide +kernel
theorem dX12_midnight_57 : decode cX12_midnight 57 = .ok (.iaload, 1) := by decide +kernel
theorem dX12_midnight_58 : decode cX12_midnight 58 = .ok (.if_icmp .ge 23, 3) := by decide +kernel
theorem dX12_midnight_61 : decode cX12_midnight 61 = .ok (.aload_n 0, 1) := by decide +kernel
theorem dX12_midnight_62 : decode cX12_midnight 62 = .ok (.getfield 7, 3) := by decide +kernel
theorem dX12_midnight_65 : decode cX12_midnight 65 = .ok (.bipush 62, 2) := by decide +kernel
theorem dX12_midnight_67 : decode cX12_midnight 67 = .ok (.iload_n 1, 1) := by decide +kernel
theorem dX12_midnight_68 : decode cX12_midnight 68 = .ok (.iadd, 1) := by decide +kernel
theorem dX12_midnight_69 : decode cX12_midnight 69 = .ok (.aload_n 0, 1) := by decide +kernel
theorem dX12_midnight_70 : decode cX12_midnight 70 = .ok (.getfield 7, 3) := by decide +kernel
theorem dX12_midnight_73 : decode cX12_midnight 73 = .ok (.bipush 62, 2) := by decide +kernel
theorem dX12_midnight_75 : decode cX12_midnight 75 = .ok (.iload_n 1, 1) := by decide +kernel
theorem dX12_midnight_76 : decode cX12_midnight 76 = .ok (.iadd, 1) := by decide +kernel
theorem dX12_midnight_77 : decode cX12_midnight 77 = .ok (.iaload, 1) := by decide +kernel
theorem dX12_midnight_78 : decode cX12_midnight 78 = .ok (.iconst 1, 1) := by decide +kernel
theorem dX12_midnight_79 : decode cX12_midnight 79 = .ok (.iadd, 1) := by decide +kernel
theorem dX12_midnight_80 : decode cX12_midnight 80 = .ok (.iastore, 1) := by decide +kernel
theorem dX12_midnight_81 : decode cX12_midnight 81 = .ok (.aload_n 0, 1) := by decide +kernel
theorem dX12_midnight_82 : decode cX12_midnight 82 = .ok (.getfield 7, 3) := by decide +kernel
theorem dX12_midnight_85 : decode cX12_midnight 85 = .ok (.bipush 17, 2) := by decide +kernel
theorem dX12_midnight_87 : decode cX12_midnight 87 = .ok (.iload_n 1, 1) := by decide +kernel
theorem dX12_midnight_88 : decode cX12_midnight 88 = .ok (.iadd, 1) := by decide +kernel
theorem dX12_midnight_89 : decode cX12_midnight 89 = .ok (.aload_n 0, 1) := by decide +kernel
theorem dX12_midnight_90 : decode cX12_midnight 90 = .ok (.getfield 7, 3) := by decide +kernel
theorem dX12_midnight_93 : decode cX12_midnight 93 = .ok (.bipush 17, 2) := by decide +kernel
theorem dX12_midnight_95 : decode cX12_midnight 95 = .ok (.iload_n 1, 1) := by decide +kernel
theorem dX12_midnight_96 : decode cX12_midnight 96 = .ok (.iadd, 1) := by decide +kernel
theorem dX12_midnight_97 : decode cX12_midnight 97 = .ok (.iaload, 1) := by decide +kernel
theorem dX12_midnight_98 : decode cX12_midnight 98 = .ok (.iload_n 2, 1) := by decide +kernel
theorem dX12_midnight_99 : decode cX12_midnight 99 = .ok (.isub, 1) := by decide +kernel
theorem dX12_midnight_100 : decode cX12_midnight 100 = .ok (.iastore, 1) := by decide +kernel
theorem dX12_midnight_101 : decode cX12_midnight 101 = .ok (.aload_n 0, 1) := by decide +kernel
theorem dX12_midnight_102 : decode cX12_midnight 102 = .ok (.getfield 7, 3) := by decide +kernel
theorem dX12_midnight_105 : decode cX12_midnight 105 = .ok (.iconst 0, 1) := by decide +kernel
theorem dX12_midnight_106 : decode cX12_midnight 106 = .ok (.aload_n 0, 1) := by decide +kernel
theorem dX12_midnight_107 : decode cX12_midnight 107 = .ok (.getfield 7, 3) := by decide +kernel
theorem dX12_midnight_110 : decode cX12_midnight 110 = .ok (.iconst 0, 1) := by decide +kernel
theorem dX12_midnight_111 : decode cX12_midnight 111 = .ok (.iaload, 1) := by decide +kernel
theorem dX12_midnight_112 : decode cX12_midnight 112 = .ok (.iload_n 2, 1) := by decide +kernel
theorem dX12_midnight_113 : decode cX12_midnight 113 = .ok (.iadd, 1) := by decide +kernel
theorem dX12_midnight_114 : decode cX12_midnight 114 = .ok (.iastore, 1) := by decide +kernel
theorem dX12_midnight_115 : decode cX12_midnight 115 = .ok (.aload_n 0, 1) := by decide +kernel
theorem dX12_midnight_116 : decode cX12_midnight 116 = .ok (.getfield 7, 3) := by decide +kernel
theorem dX12_midnight_119 : decode cX12_midnight 119 = .ok (.bipush 35, 2) := by decide +kernel
theorem dX12_midnight_121 : decode cX12_midnight 121 = .ok (.iload_n 1, 1) := by decide +kernel
theorem dX12_midnight_122 : decode cX12_midnight 122 = .ok (.iadd, 1) := by decide +kernel
theorem dX12_midnight_123 : decode cX12_midnight 123 = .ok (.iconst 0, 1) := by decide +kernel
theorem dX12_midnight_124 : decode cX12_midnight 124 = .ok (.iastore, 1) := by decide +kernel
theorem dX12_midnight_125 : decode cX12_midnight 125 = .ok (.aload_n 0, 1) := by decide +kernel
theorem dX12_midnight_126 : decode cX12_midnight 126 = .ok (.getfield 7, 3) := by decide +kernel
theorem dX12_midnight_129 : decode cX12_midnight 129 = .ok (.bipush 53, 2) := by decide +kernel
theorem dX12_midnight_131 : decode cX12_midnight 131 = .ok (.iload_n 1, 1) := by decide +kernel
theorem dX12_midnight_132 : decode cX12_midnight 132 = .ok (.iadd, 1) := by decide +kernel
theorem dX12_midnight_133 : decode cX12_midnight 133 = .ok (.iconst 0, 1) := by decide +kernel
theorem dX12_midnight_134 : decode cX12_midnight 134 = .ok (.iastore, 1) := by decide +kernel
theorem dX12_midnight_135 : decode cX12_midnight 135 = .ok (.iinc 1 1, 3) := by decide +kernel
theorem dX12_midnight_138 : decode cX12_midnight 138 = .ok (.goto (-132), 3) := by decide +kernel
theorem dX12_midnight_141 : decode cX12_midnight 141 = .ok (.aload_n 0, 1) := by decide +kernel
theorem dX12_midnight_142 : decode cX12_midnight 142 = .ok (.getfield 7, 3) := by decide +kernel
theorem dX12_midnight_145 : decode cX12_midnight 145 = .ok (.iconst 3, 1) := by decide +kernel
theorem dX12_midnight_146 : decode cX12_midnight 146 = .ok (.iconst 0, 1) := by decide +kernel
theorem dX12_midnight_147 : decode cX12_midnight 147 = .ok (.iastore, 1) := by decide +kernel
theorem dX12_midnight_148 : decode cX12_midnight 148 = .ok (.aload_n 0, 1) := by decide +kernel
theorem dX12_midnight_149 : decode cX12_midnight 149 = .ok (.getfield 7, 3) := by decide +kernel
theorem dX12_midnight_152 : decode cX12_midnight 152 = .ok (.iconst 2, 1) := by decide +kernel
theorem dX12_midnight_153 : decode cX12_midnight 153 = .ok (.aload_n 0, 1) := by decide +kernel
theorem dX12_midnight_154 : decode cX12_midnight 154 = .ok (.getfield 7, 3) := by decide +kernel
theorem dX12_midnight_157 : decode cX12_midnight 157 = .ok (.iconst 2, 1) := by decide +kernel
theorem dX12_midnight_158 : decode cX12_midnight 158 = .ok (.iaload, 1) := by decide +kernel
theorem dX12_midnight_159 : decode cX12_midnight 159 = .ok (.iconst 1, 1) := by decide +kernel
theorem dX12_midnight_160 : decode cX12_midnight 160 = .ok (.iadd, 1) := by decide +kernel
theorem dX12_midnight_161 : decode cX12_midnight 161 = .ok (.iastore, 1) := by decide +kernel
theorem dX12_midnight_162 : decode cX12_midnight 162 = .ok (.return_, 1) := by decide +kernel
theorem dX12_goesBy_0 : decode cX12_goesBy 0 = .ok (.aload_n 0, 1) := by decide +kernel
theorem dX12_goesBy_1 : decode cX12_goesBy 1 = .ok (.getfield 7, 3) := by decide +kernel
theorem dX12_goesBy_4 : decode cX12_goesBy 4 = .ok (.iconst 3, 1) := by decide +kernel
theorem dX12_goesBy_5 : decode cX12_goesBy 5 = .ok (.iaload, 1) := by decide +kernel
theorem dX12_goesBy_6 : decode cX12_goesBy 6 = .ok (.istore_n 1, 1) := by decide +kernel
theorem dX12_goesBy_7 : decode cX12_goesBy 7 = .ok (.iload_n 1, 1) := by decide +kernel
theorem dX12_goesBy_8 : decode cX12_goesBy 8 = .ok (.bipush 6, 2) := by decide +kernel
theorem dX12_goesBy_10 : decode cX12_goesBy 10 = .ok (.if_icmp .lt 9, 3) := by decide +kernel
theorem dX12_goesBy_13 : decode cX12_goesBy 13 = .ok (.iload_n 1, 1) := by decide +kernel
theorem dX12_goesBy_14 : decode cX12_goesBy 14 = .ok (.bipush 20, 2) := by decide +kernel
theorem dX12_goesBy_16 : decode cX12_goesBy 16 = .ok (.if_icmp .le 21, 3) := by decide +kernel
theorem dX12_goesBy_19 : decode cX12_goesBy 19 = .ok (.aload_n 0, 1) := by decide +kernel
theorem dX12_goesBy_20 : decode cX12_goesBy 20 = .ok (.sipush 1000, 3) := by decide +kernel
theorem dX12_goesBy_23 : decode cX12_goesBy 23 = .ok (.invokevirtual 307, 3) := by decide +kernel
theorem dX12_goesBy_26 : decode cX12_goesBy 26 = .ok (.aload_n 0, 1) := by decide +kernel
theorem dX12_goesBy_27 : decode cX12_goesBy 27 = .ok (.getfield 157, 3) := by decide +kernel
theorem dX12_goesBy_30 : decode cX12_goesBy 30 = .ok (.if_icmp .ge 7, 3) := by decide +kernel
theorem dX12_goesBy_33 : decode cX12_goesBy 33 = .ok (.iconst 1, 1) := by decide +kernel
theorem dX12_goesBy_34 : decode cX12_goesBy 34 = .ok (.goto 4, 3) := by decide +kernel
theorem dX12_goesBy_37 : decode cX12_goesBy 37 = .ok (.iconst 0, 1) := by decide +kernel
theorem dX12_goesBy_38 : decode cX12_goesBy 38 = .ok (.istore_n 2, 1) := by decide +kernel
theorem dX12_goesBy_39 : decode cX12_goesBy 39 = .ok (.aload_n 0, 1) := by decide +kernel
theorem dX12_goesBy_40 : decode cX12_goesBy 40 = .ok (.getfield 44, 3) := by decide +kernel
theorem dX12_goesBy_43 : decode cX12_goesBy 43 = .ok (.iload_n 1, 1) := by decide +kernel
theorem dX12_goesBy_44 : decode cX12_goesBy 44 = .ok (.iaload, 1) := by decide +kernel
theorem dX12_goesBy_45 : decode cX12_goesBy 45 = .ok (.iconst 1, 1) := by decide +kernel
theorem dX12_goesBy_46 : decode cX12_goesBy 46 = .ok (.isub, 1) := by decide +kernel
theorem dX12_goesBy_47 : decode cX12_goesBy 47 = .ok (.istore_n 3, 1) := by decide +kernel
theorem dX12_goesBy_48 : decode cX12_goesBy 48 = .ok (.iconst 0, 1) := by decide +kernel
theorem dX12_goesBy_49 : decode cX12_goesBy 49 = .ok (.istore 4, 2) := by decide +kernel
theorem dX12_goesBy_51 : decode cX12_goesBy 51 = .ok (.iload_n 3, 1) := by decide +kernel
theorem dX12_goesBy_52 : decode cX12_goesBy 52 = .ok (.iconst (-1), 1) := by decide +kernel
theorem dX12_goesBy_53 : decode cX12_goesBy 53 = .ok (.if_icmp .eq 114, 3) := by decide +kernel
theorem dX12_goesBy_56 : decode cX12_goesBy 56 = .ok (.aload_n 0, 1) := by decide +kernel
theorem dX12_goesBy_57 : decode cX12_goesBy 57 = .ok (.invokevirtual 292, 3) := by decide +kernel
theorem dX12_goesBy_60 : decode cX12_goesBy 60 = .ok (.ifCond .ne 107, 3) := by decide +kernel
theorem dX12_goesBy_63 : decode cX12_goesBy 63 = .ok (.aload_n 0, 1) := by decide +kernel
theorem dX12_goesBy_64 : decode cX12_goesBy 64 = .ok (.iload_n 3, 1) := by decide +kernel
theorem dX12_goesBy_65 : decode cX12_goesBy 65 = .ok (.invokevirtual 310, 3) := by decide +kernel
theorem dX12_goesBy_68 : decode cX12_goesBy 68 = .ok (.istore 5, 2) := by decide +kernel
theorem dX12_goesBy_70 : decode cX12_goesBy 70 = .ok (.aload_n 0, 1) := by decide +kernel
theorem dX12_goesBy_71 : decode cX12_goesBy 71 = .ok (.aload_n 0, 1) := by decide +kernel
theorem dX12_goesBy_72 : decode cX12_goesBy 72 = .ok (.iload 5, 2) := by decide +kernel
theorem dX12_goesBy_74 : decode cX12_goesBy 74 = .ok (.iload_n 2, 1) := by decide +kernel
theorem dX12_goesBy_75 : decode cX12_goesBy 75 = .ok (.invokevirtual 313, 3) := by decide +kernel
theorem dX12_goesBy_78 : decode cX12_goesBy 78 = .ok (.invokevirtual 317, 3) := by decide +kernel
theorem dX12_goesBy_81 : decode cX12_goesBy 81 = .ok (.istore 4, 2) := by decide +kernel
theorem dX12_goesBy_83 : decode cX12_goesBy 83 = .ok (.aload_n 0, 1) := by decide +kernel
theorem dX12_goesBy_84 : decode cX12_goesBy 84 = .ok (.getfield 7, 3) := by decide +kernel
theorem dX12_goesBy_87 : decode cX12_goesBy 87 = .ok (.bipush 26, 2) := by decide +kernel
theorem dX12_goesBy_89 : decode cX12_goesBy 89 = .ok (.iload 5, 2) := by decide +kernel
theorem dX12_goesBy_91 : decode cX12_goesBy 91 = .ok (.iadd, 1) := by decide +kernel
theorem dX12_goesBy_92 : decode cX12_goesBy 92 = .ok (.aload_n 0, 1) := by decide +kernel
theorem dX12_goesBy_93 : decode cX12_goesBy 93 = .ok (.getfield 7, 3) := by decide +kernel
theorem dX12_goesBy_96 : decode cX12_goesBy 96 = .ok (.bipush 26, 2) := by decide +kernel
theorem dX12_goesBy_98 : decode cX12_goesBy 98 = .ok (.iload 5, 2) := by decide +kernel
theorem dX12_goesBy_100 : decode cX12_goesBy 100 = .ok (.iadd, 1) := by decide +kernel
theorem dX12_goesBy_101 : decode cX12_goesBy 101 = .ok (.iaload, 1) := by decide +kernel
theorem dX12_goesBy_102 : decode cX12_goesBy 102 = .ok (.iload 4, 2) := by decide +kernel
theorem dX12_goesBy_104 : decode cX12_goesBy 104 = .ok (.iadd, 1) := by decide +kernel
theorem dX12_goesBy_105 : decode cX12_goesBy 105 = .ok (.iastore, 1) := by decide +kernel
theorem dX12_goesBy_106 : decode cX12_goesBy 106 = .ok (.aload_n 0, 1) := by decide +kernel
theorem dX12_goesBy_107 : decode cX12_goesBy 107 = .ok (.getfield 7, 3) := by decide +kernel
theorem dX12_goesBy_110 : decode cX12_goesBy 110 = .ok (.bipush 35, 2) := by decide +kernel
theorem dX12_goesBy_112 : decode cX12_goesBy 112 = .ok (.iload 5, 2) := by decide +kernel
theorem dX12_goesBy_114 : decode cX12_goesBy 114 = .ok (.iadd, 1) := by decide +kernel
theorem dX12_goesBy_115 : decode cX12_goesBy 115 = .ok (.aload_n 0, 1) := by decide +kernel
theorem dX12_goesBy_116 : decode cX12_goesBy 116 = .ok (.getfield 7, 3) := by decide +kernel
theorem dX12_goesBy_119 : decode cX12_goesBy 119 = .ok (.bipush 35, 2) := by decide +kernel
theorem dX12_goesBy_121 : decode cX12_goesBy 121 = .ok (.iload 5, 2) := by decide +kernel
theorem dX12_goesBy_123 : decode cX12_goesBy 123 = .ok (.iadd, 1) := by decide +kernel
theorem dX12_goesBy_124 : decode cX12_goesBy 124 = .ok (.iaload, 1) := by decide +kernel
theorem dX12_goesBy_125 : decode cX12_goesBy 125 = .ok (.iload 4, 2) := by decide +kernel
theorem dX12_goesBy_127 : decode cX12_goesBy 127 = .ok (.iadd, 1) := by decide +kernel
theorem dX12_goesBy_128 : decode cX12_goesBy 128 = .ok (.iastore, 1) := by decide +kernel
theorem dX12_goesBy_129 : decode cX12_goesBy 129 = .ok (.iload 5, 2) := by decide +kernel
theorem dX12_goesBy_131 : decode cX12_goesBy 131 = .ok (.iload_n 3, 1) := by decide +kernel
theorem dX12_goesBy_132 : decode cX12_goesBy 132 = .ok (.if_icmp .eq 35, 3) := by decide +kernel
theorem dX12_goesBy_135 : decode cX12_goesBy 135 = .ok (.aload_n 0, 1) := by decide +kernel
theorem dX12_goesBy_136 : decode cX12_goesBy 136 = .ok (.getfield 7, 3) := by decide +kernel
theorem dX12_goesBy_139 : decode cX12_goesBy 139 = .ok (.bipush 71, 2) := by decide +kernel
theorem dX12_goesBy_141 : decode cX12_goesBy 141 = .ok (.bipush 9, 2) := by decide +kernel
theorem dX12_goesBy_143 : decode cX12_goesBy 143 = .ok (.iload_n 3, 1) := by decide +kernel
theorem dX12_goesBy_144 : decode cX12_goesBy 144 = .ok (.imul, 1) := by decide +kernel
theorem dX12_goesBy_145 : decode cX12_goesBy 145 = .ok (.iadd, 1) := by decide +kernel
theorem dX12_goesBy_146 : decode cX12_goesBy 146 = .ok (.iload 5, 2) := by decide +kernel
theorem dX12_goesBy_148 : decode cX12_goesBy 148 = .ok (.iadd, 1) := by decide +kernel
theorem dX12_goesBy_149 : decode cX12_goesBy 149 = .ok (.aload_n 0, 1) := by decide +kernel
theorem dX12_goesBy_150 : decode cX12_goesBy 150 = .ok (.getfield 7, 3) := by decide +kernel
theorem dX12_goesBy_153 : decode cX12_goesBy 153 = .ok (.bipush 71, 2) := by decide +kernel
theorem dX12_goesBy_155 : decode cX12_goesBy 155 = .ok (.bipush 9, 2) := by decide +kernel
theorem dX12_goesBy_157 : decode cX12_goesBy 157 = .ok (.iload_n 3, 1) := by decide +kernel
theorem dX12_goesBy_158 : decode cX12_goesBy 158 = .ok (.imul, 1) := by decide +kernel
theorem dX12_goesBy_159 : decode cX12_goesBy 159 = .ok (.iadd, 1) := by decide +kernel
theorem dX12_goesBy_160 : decode cX12_goesBy 160 = .ok (.iload 5, 2) := by decide +kernel
theorem dX12_goesBy_162 : decode cX12_goesBy 162 = .ok (.iadd, 1) := by decide +kernel
theorem dX12_goesBy_163 : decode cX12_goesBy 163 = .ok (.iaload, 1) := by decide +kernel
theorem dX12_goesBy_164 : decode cX12_goesBy 164 = .ok (.iconst 1, 1) := by decide +kernel
theorem dX12_goesBy_165 : decode cX12_goesBy 165 = .ok (.iadd, 1) := by decide +kernel
theorem dX12_goesBy_166 : decode cX12_goesBy 166 = .ok (.iastore, 1) := by decide +kernel
theorem dX12_goesBy_167 : decode cX12_goesBy 167 = .ok (.aload_n 0, 1) := by decide +kernel
theorem dX12_goesBy_168 : decode cX12_goesBy 168 = .ok (.getfield 7, 3) := by decide +kernel
theorem dX12_goesBy_171 : decode cX12_goesBy 171 = .ok (.iconst 4, 1) := by decide +kernel
theorem dX12_goesBy_172 : decode cX12_goesBy 172 = .ok (.aload_n 0, 1) := by decide +kernel
theorem dX12_goesBy_173 : decode cX12_goesBy 173 = .ok (.getfield 7, 3) := by decide +kernel
theorem dX12_goesBy_176 : decode cX12_goesBy 176 = .ok (.iconst 4, 1) := by decide +kernel
theorem dX12_goesBy_177 : decode cX12_goesBy 177 = .ok (.iaload, 1) := by decide +kernel
theorem dX12_goesBy_178 : decode cX12_goesBy 178 = .ok (.iload 4, 2) := by decide +kernel
theorem dX12_goesBy_180 : decode cX12_goesBy 180 = .ok (.iadd, 1) := by decide +kernel
theorem dX12_goesBy_181 : decode cX12_goesBy 181 = .ok (.iastore, 1) := by decide +kernel
theorem dX12_goesBy_182 : decode cX12_goesBy 182 = .ok (.aload_n 0, 1) := by decide +kernel
theorem dX12_goesBy_183 : decode cX12_goesBy 183 = .ok (.getfield 7, 3) := by decide +kernel
theorem dX12_goesBy_186 : decode cX12_goesBy 186 = .ok (.iconst 3, 1) := by decide +kernel
theorem dX12_goesBy_187 : decode cX12_goesBy 187 = .ok (.iload_n 1, 1) := by decide +kernel
theorem dX12_goesBy_188 : decode cX12_goesBy 188 = .ok (.iconst 1, 1) := by decide +kernel
theorem dX12_goesBy_189 : decode cX12_goesBy 189 = .ok (.iadd, 1) := by decide +kernel
theorem dX12_goesBy_190 : decode cX12_goesBy 190 = .ok (.iastore, 1) := by decide +kernel
theorem dX12_goesBy_191 : decode cX12_goesBy 191 = .ok (.iload_n 1, 1) := by decide +kernel
theorem dX12_goesBy_192 : decode cX12_goesBy 192 = .ok (.bipush 23, 2) := by decide +kernel
theorem dX12_goesBy_194 : decode cX12_goesBy 194 = .ok (.if_icmp .ne 7, 3) := by decide +kernel
theorem dX12_goesBy_197 : decode cX12_goesBy 197 = .ok (.aload_n 0, 1) := by decide +kernel
theorem dX12_goesBy_198 : decode cX12_goesBy 198 = .ok (.invokevirtual 320, 3) := by decide +kernel
theorem dX12_goesBy_201 : decode cX12_goesBy 201 = .ok (.iload 4, 2) := by decide +kernel
theorem dX12_goesBy_203 : decode cX12_goesBy 203 = .ok (.ireturn, 1) := by decide +kernel
theorem dX12_hours_0 : decode cX12_hours 0 = .ok (.aload_n 0, 1) := by decide +kernel
theorem dX12_hours_1 : decode cX12_hours 1 = .ok (.iconst 0, 1) := by decide +kernel
theorem dX12_hours_2 : decode cX12_hours 2 = .ok (.putfield 120, 3) := by decide +kernel
theorem dX12_hours_5 : decode cX12_hours 5 = .ok (.aload_n 0, 1) := by decide +kernel
theorem dX12_hours_6 : decode cX12_hours 6 = .ok (.iload_n 1, 1) := by decide +kernel
theorem dX12_hours_7 : decode cX12_hours 7 = .ok (.iconst 1, 1) := by decide +kernel
theorem dX12_hours_8 : decode cX12_hours 8 = .ok (.sipush 240, 3) := by decide +kernel
theorem dX12_hours_11 : decode cX12_hours 11 = .ok (.invokevirtual 138, 3) := by decide +kernel
theorem dX12_hours_14 : decode cX12_hours 14 = .ok (.ifCond .eq 27, 3) := by decide +kernel
theorem dX12_hours_17 : decode cX12_hours 17 = .ok (.aload_n 0, 1) := by decide +kernel
theorem dX12_hours_18 : decode cX12_hours 18 = .ok (.getfield 7, 3) := by decide +kernel
theorem dX12_hours_21 : decode cX12_hours 21 = .ok (.iconst 2, 1) := by decide +kernel
theorem dX12_hours_22 : decode cX12_hours 22 = .ok (.iaload, 1) := by decide +kernel
theorem dX12_hours_23 : decode cX12_hours 23 = .ok (.aload_n 0, 1) := by decide +kernel
theorem dX12_hours_24 : decode cX12_hours 24 = .ok (.getfield 7, 3) := by decide +kernel
theorem dX12_hours_27 : decode cX12_hours 27 = .ok (.iconst 3, 1) := by decide +kernel
theorem dX12_hours_28 : decode cX12_hours 28 = .ok (.iaload, 1) := by decide +kernel
theorem dX12_hours_29 : decode cX12_hours 29 = .ok (.iload_n 1, 1) := by decide +kernel
theorem dX12_hours_30 : decode cX12_hours 30 = .ok (.iadd, 1) := by decide +kernel
theorem dX12_hours_31 : decode cX12_hours 31 = .ok (.bipush 24, 2) := by decide +kernel
theorem dX12_hours_33 : decode cX12_hours 33 = .ok (.idiv, 1) := by decide +kernel
theorem dX12_hours_34 : decode cX12_hours 34 = .ok (.iadd, 1) := by decide +kernel
theorem dX12_hours_35 : decode cX12_hours 35 = .ok (.sipush 9999, 3) := by decide +kernel
theorem dX12_hours_38 : decode cX12_hours 38 = .ok (.if_icmp .le 5, 3) := by decide +kernel
theorem dX12_hours_41 : decode cX12_hours 41 = .ok (.iconst (-1), 1) := by decide +kernel
theorem dX12_hours_42 : decode cX12_hours 42 = .ok (.ireturn, 1) := by decide +kernel
theorem dX12_hours_43 : decode cX12_hours 43 = .ok (.iconst 0, 1) := by decide +kernel
theorem dX12_hours_44 : decode cX12_hours 44 = .ok (.istore_n 2, 1) := by decide +kernel
theorem dX12_hours_45 : decode cX12_hours 45 = .ok (.iconst 0, 1) := by decide +kernel
theorem dX12_hours_46 : decode cX12_hours 46 = .ok (.istore_n 3, 1) := by decide +kernel
theorem dX12_hours_47 : decode cX12_hours 47 = .ok (.iload_n 3, 1) := by decide +kernel
theorem dX12_hours_48 : decode cX12_hours 48 = .ok (.iload_n 1, 1) := by decide +kernel
theorem dX12_hours_49 : decode cX12_hours 49 = .ok (.if_icmp .ge 20, 3) := by decide +kernel
theorem dX12_hours_52 : decode cX12_hours 52 = .ok (.aload_n 0, 1) := by decide +kernel
theorem dX12_hours_53 : decode cX12_hours 53 = .ok (.invokevirtual 323, 3) := by decide +kernel
theorem dX12_hours_56 : decode cX12_hours 56 = .ok (.iload_n 2, 1) := by decide +kernel
theorem dX12_hours_57 : decode cX12_hours 57 = .ok (.aload_n 0, 1) := by decide +kernel
theorem dX12_hours_58 : decode cX12_hours 58 = .ok (.invokevirtual 326, 3) := by decide +kernel
theorem dX12_hours_61 : decode cX12_hours 61 = .ok (.iadd, 1) := by decide +kernel
theorem dX12_hours_62 : decode cX12_hours 62 = .ok (.istore_n 2, 1) := by decide +kernel
theorem dX12_hours_63 : decode cX12_hours 63 = .ok (.iinc 3 1, 3) := by decide +kernel
theorem dX12_hours_66 : decode cX12_hours 66 = .ok (.goto (-19), 3) := by decide +kernel
theorem dX12_hours_69 : decode cX12_hours 69 = .ok (.iload_n 2, 1) := by decide +kernel
theorem dX12_hours_70 : decode cX12_hours 70 = .ok (.ireturn, 1) := by decide +kernel
theorem dX12_of_0 : decode cX12_of 0 = .ok (.aload_n 0, 1) := by decide +kernel
theorem dX12_of_1 : decode cX12_of 1 = .ok (.iconst 0, 1) := by decide +kernel
theorem dX12_of_2 : decode cX12_of 2 = .ok (.putfield 120, 3) := by decide +kernel
theorem dX12_of_5 : decode cX12_of 5 = .ok (.aload_n 0, 1) := by decide +kernel
theorem dX12_of_6 : decode cX12_of 6 = .ok (.iload_n 1, 1) := by decide +kernel
theorem dX12_of_7 : decode cX12_of 7 = .ok (.invokevirtual 163, 3) := by decide +kernel
theorem dX12_of_10 : decode cX12_of 10 = .ok (.ifCond .ne 6, 3) := by decide +kernel
theorem dX12_of_13 : decode cX12_of 13 = .ok (.bipush (-2), 2) := by decide +kernel
theorem dX12_of_15 : decode cX12_of 15 = .ok (.ireturn, 1) := by decide +kernel
theorem dX12_of_16 : decode cX12_of 16 = .ok (.iload_n 2, 1) := by decide +kernel
theorem dX12_of_17 : decode cX12_of 17 = .ok (.ifCond .ne 10, 3) := by decide +kernel
theorem dX12_of_20 : decode cX12_of 20 = .ok (.aload_n 0, 1) := by decide +kernel
theorem dX12_of_21 : decode cX12_of 21 = .ok (.getfield 29, 3) := by decide +kernel
theorem dX12_of_24 : decode cX12_of 24 = .ok (.iload_n 1, 1) := by decide +kernel
theorem dX12_of_25 : decode cX12_of 25 = .ok (.iaload, 1) := by decide +kernel
theorem dX12_of_26 : decode cX12_of 26 = .ok (.ireturn, 1) := by decide +kernel
theorem dX12_of_27 : decode cX12_of 27 = .ok (.iload_n 2, 1) := by decide +kernel
theorem dX12_of_28 : decode cX12_of 28 = .ok (.iconst 1, 1) := by decide +kernel
theorem dX12_of_29 : decode cX12_of 29 = .ok (.if_icmp .ne 10, 3) := by decide +kernel
theorem dX12_of_32 : decode cX12_of 32 = .ok (.aload_n 0, 1) := by decide +kernel
theorem dX12_of_33 : decode cX12_of 33 = .ok (.getfield 32, 3) := by decide +kernel
theorem dX12_of_36 : decode cX12_of 36 = .ok (.iload_n 1, 1) := by decide +kernel
theorem dX12_of_37 : decode cX12_of 37 = .ok (.iaload, 1) := by decide +kernel
theorem dX12_of_38 : decode cX12_of 38 = .ok (.ireturn, 1) := by decide +kernel
theorem dX12_of_39 : decode cX12_of 39 = .ok (.iload_n 2, 1) := by decide +kernel
theorem dX12_of_40 : decode cX12_of 40 = .ok (.iconst 2, 1) := by decide +kernel
theorem dX12_of_41 : decode cX12_of 41 = .ok (.if_icmp .ne 10, 3) := by decide +kernel
theorem dX12_of_44 : decode cX12_of 44 = .ok (.aload_n 0, 1) := by decide +kernel
theorem dX12_of_45 : decode cX12_of 45 = .ok (.getfield 35, 3) := by decide +kernel
theorem dX12_of_48 : decode cX12_of 48 = .ok (.iload_n 1, 1) := by decide +kernel
theorem dX12_of_49 : decode cX12_of 49 = .ok (.iaload, 1) := by decide +kernel
theorem dX12_of_50 : decode cX12_of 50 = .ok (.ireturn, 1) := by decide +kernel
theorem dX12_of_51 : decode cX12_of 51 = .ok (.iload_n 2, 1) := by decide +kernel
theorem dX12_of_52 : decode cX12_of 52 = .ok (.iconst 3, 1) := by decide +kernel
theorem dX12_of_53 : decode cX12_of 53 = .ok (.if_icmp .ne 10, 3) := by decide +kernel
theorem dX12_of_56 : decode cX12_of 56 = .ok (.aload_n 0, 1) := by decide +kernel
theorem dX12_of_57 : decode cX12_of 57 = .ok (.getfield 38, 3) := by decide +kernel
theorem dX12_of_60 : decode cX12_of 60 = .ok (.iload_n 1, 1) := by decide +kernel
theorem dX12_of_61 : decode cX12_of 61 = .ok (.iaload, 1) := by decide +kernel
theorem dX12_of_62 : decode cX12_of 62 = .ok (.ireturn, 1) := by decide +kernel
theorem dX12_of_63 : decode cX12_of 63 = .ok (.iload_n 2, 1) := by decide +kernel
theorem dX12_of_64 : decode cX12_of 64 = .ok (.iconst 4, 1) := by decide +kernel
theorem dX12_of_65 : decode cX12_of 65 = .ok (.if_icmp .ne 13, 3) := by decide +kernel
theorem dX12_of_68 : decode cX12_of 68 = .ok (.aload_n 0, 1) := by decide +kernel
theorem dX12_of_69 : decode cX12_of 69 = .ok (.getfield 7, 3) := by decide +kernel
theorem dX12_of_72 : decode cX12_of 72 = .ok (.bipush 17, 2) := by decide +kernel
theorem dX12_of_74 : decode cX12_of 74 = .ok (.iload_n 1, 1) := by decide +kernel
theorem dX12_of_75 : decode cX12_of 75 = .ok (.iadd, 1) := by decide +kernel
theorem dX12_of_76 : decode cX12_of 76 = .ok (.iaload, 1) := by decide +kernel
theorem dX12_of_77 : decode cX12_of 77 = .ok (.ireturn, 1) := by decide +kernel
theorem dX12_of_78 : decode cX12_of 78 = .ok (.iload_n 2, 1) := by decide +kernel
theorem dX12_of_79 : decode cX12_of 79 = .ok (.iconst 5, 1) := by decide +kernel
theorem dX12_of_80 : decode cX12_of 80 = .ok (.if_icmp .ne 13, 3) := by decide +kernel
theorem dX12_of_83 : decode cX12_of 83 = .ok (.aload_n 0, 1) := by decide +kernel
theorem dX12_of_84 : decode cX12_of 84 = .ok (.getfield 7, 3) := by decide +kernel
theorem dX12_of_87 : decode cX12_of 87 = .ok (.bipush 26, 2) := by decide +kernel
theorem dX12_of_89 : decode cX12_of 89 = .ok (.iload_n 1, 1) := by decide +kernel
theorem dX12_of_90 : decode cX12_of 90 = .ok (.iadd, 1) := by decide +kernel
theorem dX12_of_91 : decode cX12_of 91 = .ok (.iaload, 1) := by decide +kernel
theorem dX12_of_92 : decode cX12_of 92 = .ok (.ireturn, 1) := by decide +kernel
theorem dX12_of_93 : decode cX12_of 93 = .ok (.iload_n 2, 1) := by decide +kernel
theorem dX12_of_94 : decode cX12_of 94 = .ok (.bipush 6, 2) := by decide +kernel
theorem dX12_of_96 : decode cX12_of 96 = .ok (.if_icmp .ne 13, 3) := by decide +kernel
theorem dX12_of_99 : decode cX12_of 99 = .ok (.aload_n 0, 1) := by decide +kernel
theorem dX12_of_100 : decode cX12_of 100 = .ok (.getfield 7, 3) := by decide +kernel
theorem dX12_of_103 : decode cX12_of 103 = .ok (.bipush 35, 2) := by decide +kernel
theorem dX12_of_105 : decode cX12_of 105 = .ok (.iload_n 1, 1) := by decide +kernel
theorem dX12_of_106 : decode cX12_of 106 = .ok (.iadd, 1) := by decide +kernel
theorem dX12_of_107 : decode cX12_of 107 = .ok (.iaload, 1) := by decide +kernel
theorem dX12_of_108 : decode cX12_of 108 = .ok (.ireturn, 1) := by decide +kernel
theorem dX12_of_109 : decode cX12_of 109 = .ok (.iload_n 2, 1) := by decide +kernel
theorem dX12_of_110 : decode cX12_of 110 = .ok (.bipush 7, 2) := by decide +kernel
theorem dX12_of_112 : decode cX12_of 112 = .ok (.if_icmp .ne 13, 3) := by decide +kernel
theorem dX12_of_115 : decode cX12_of 115 = .ok (.aload_n 0, 1) := by decide +kernel
theorem dX12_of_116 : decode cX12_of 116 = .ok (.getfield 7, 3) := by decide +kernel
theorem dX12_of_119 : decode cX12_of 119 = .ok (.bipush 44, 2) := by decide +kernel
theorem dX12_of_121 : decode cX12_of 121 = .ok (.iload_n 1, 1) := by decide +kernel
theorem dX12_of_122 : decode cX12_of 122 = .ok (.iadd, 1) := by decide +kernel
theorem dX12_of_123 : decode cX12_of 123 = .ok (.iaload, 1) := by decide +kernel
theorem dX12_of_124 : decode cX12_of 124 = .ok (.ireturn, 1) := by decide +kernel
theorem dX12_of_125 : decode cX12_of 125 = .ok (.iload_n 2, 1) := by decide +kernel
theorem dX12_of_126 : decode cX12_of 126 = .ok (.bipush 8, 2) := by decide +kernel
theorem dX12_of_128 : decode cX12_of 128 = .ok (.if_icmp .ne 13, 3) := by decide +kernel
theorem dX12_of_131 : decode cX12_of 131 = .ok (.aload_n 0, 1) := by decide +kernel
theorem dX12_of_132 : decode cX12_of 132 = .ok (.getfield 7, 3) := by decide +kernel
theorem dX12_of_135 : decode cX12_of 135 = .ok (.bipush 53, 2) := by decide +kernel
theorem dX12_of_137 : decode cX12_of 137 = .ok (.iload_n 1, 1) := by decide +kernel
theorem dX12_of_138 : decode cX12_of 138 = .ok (.iadd, 1) := by decide +kernel
theorem dX12_of_139 : decode cX12_of 139 = .ok (.iaload, 1) := by decide +kernel
theorem dX12_of_140 : decode cX12_of 140 = .ok (.ireturn, 1) := by decide +kernel
theorem dX12_of_141 : decode cX12_of 141 = .ok (.iload_n 2, 1) := by decide +kernel
theorem dX12_of_142 : decode cX12_of 142 = .ok (.bipush 9, 2) := by decide +kernel
theorem dX12_of_144 : decode cX12_of 144 = .ok (.if_icmp .ne 13, 3) := by decide +kernel
theorem dX12_of_147 : decode cX12_of 147 = .ok (.aload_n 0, 1) := by decide +kernel
theorem dX12_of_148 : decode cX12_of 148 = .ok (.getfield 7, 3) := by decide +kernel
theorem dX12_of_151 : decode cX12_of 151 = .ok (.bipush 62, 2) := by decide +kernel
theorem dX12_of_153 : decode cX12_of 153 = .ok (.iload_n 1, 1) := by decide +kernel
theorem dX12_of_154 : decode cX12_of 154 = .ok (.iadd, 1) := by decide +kernel
theorem dX12_of_155 : decode cX12_of 155 = .ok (.iaload, 1) := by decide +kernel
theorem dX12_of_156 : decode cX12_of 156 = .ok (.ireturn, 1) := by decide +kernel
theorem dX12_of_157 : decode cX12_of 157 = .ok (.iload_n 2, 1) := by decide +kernel
theorem dX12_of_158 : decode cX12_of 158 = .ok (.bipush 10, 2) := by decide +kernel
theorem dX12_of_160 : decode cX12_of 160 = .ok (.if_icmp .ne 9, 3) := by decide +kernel
theorem dX12_of_163 : decode cX12_of 163 = .ok (.aload_n 0, 1) := by decide +kernel
theorem dX12_of_164 : decode cX12_of 164 = .ok (.iload_n 1, 1) := by decide +kernel
theorem dX12_of_165 : decode cX12_of 165 = .ok (.invokevirtual 299, 3) := by decide +kernel
theorem dX12_of_168 : decode cX12_of 168 = .ok (.ireturn, 1) := by decide +kernel
theorem dX12_of_169 : decode cX12_of 169 = .ok (.iload_n 2, 1) := by decide +kernel
theorem dX12_of_170 : decode cX12_of 170 = .ok (.bipush 11, 2) := by decide +kernel
theorem dX12_of_172 : decode cX12_of 172 = .ok (.if_icmp .ne 11, 3) := by decide +kernel
theorem dX12_of_175 : decode cX12_of 175 = .ok (.aload_n 0, 1) := by decide +kernel
theorem dX12_of_176 : decode cX12_of 176 = .ok (.iload_n 1, 1) := by decide +kernel
theorem dX12_of_177 : decode cX12_of 177 = .ok (.invokevirtual 277, 3) := by decide +kernel
theorem dX12_of_180 : decode cX12_of 180 = .ok (.goto 19, 3) := by decide +kernel
theorem dX12_of_183 : decode cX12_of 183 = .ok (.iload_n 2, 1) := by decide +kernel
theorem dX12_of_184 : decode cX12_of 184 = .ok (.bipush 12, 2) := by decide +kernel
theorem dX12_of_186 : decode cX12_of 186 = .ok (.if_icmp .ne 11, 3) := by decide +kernel
theorem dX12_of_189 : decode cX12_of 189 = .ok (.aload_n 0, 1) := by decide +kernel
theorem dX12_of_190 : decode cX12_of 190 = .ok (.iload_n 1, 1) := by decide +kernel
theorem dX12_of_191 : decode cX12_of 191 = .ok (.invokevirtual 329, 3) := by decide +kernel
theorem dX12_of_194 : decode cX12_of 194 = .ok (.goto 5, 3) := by decide +kernel
theorem dX12_of_197 : decode cX12_of 197 = .ok (.bipush (-2), 2) := by decide +kernel
theorem dX12_of_199 : decode cX12_of 199 = .ok (.ireturn, 1) := by decide +kernel
theorem dX12_pail_0 : decode cX12_pail 0 = .ok (.aload_n 0, 1) := by decide +kernel
theorem dX12_pail_1 : decode cX12_pail 1 = .ok (.iconst 0, 1) := by decide +kernel
theorem dX12_pail_2 : decode cX12_pail 2 = .ok (.putfield 120, 3) := by decide +kernel
theorem dX12_pail_5 : decode cX12_pail 5 = .ok (.aload_n 0, 1) := by decide +kernel
theorem dX12_pail_6 : decode cX12_pail 6 = .ok (.iload_n 1, 1) := by decide +kernel
theorem dX12_pail_7 : decode cX12_pail 7 = .ok (.iconst 0, 1) := by decide +kernel
theorem dX12_pail_8 : decode cX12_pail 8 = .ok (.aload_n 0, 1) := by decide +kernel
theorem dX12_pail_9 : decode cX12_pail 9 = .ok (.getfield 142, 3) := by decide +kernel
theorem dX12_pail_12 : decode cX12_pail 12 = .ok (.iconst 1, 1) := by decide +kernel
theorem dX12_pail_13 : decode cX12_pail 13 = .ok (.isub, 1) := by decide +kernel
theorem dX12_pail_14 : decode cX12_pail 14 = .ok (.invokevirtual 138, 3) := by decide +kernel
theorem dX12_pail_17 : decode cX12_pail 17 = .ok (.ifCond .ne 5, 3) := by decide +kernel
theorem dX12_pail_20 : decode cX12_pail 20 = .ok (.iconst (-1), 1) := by decide +kernel
theorem dX12_pail_21 : decode cX12_pail 21 = .ok (.ireturn, 1) := by decide +kernel
theorem dX12_pail_22 : decode cX12_pail 22 = .ok (.iload_n 2, 1) := by decide +kernel
theorem dX12_pail_23 : decode cX12_pail 23 = .ok (.ifCond .ne 10, 3) := by decide +kernel
theorem dX12_pail_26 : decode cX12_pail 26 = .ok (.aload_n 0, 1) := by decide +kernel
theorem dX12_pail_27 : decode cX12_pail 27 = .ok (.getfield 20, 3) := by decide +kernel
theorem dX12_pail_30 : decode cX12_pail 30 = .ok (.iload_n 1, 1) := by decide +kernel
theorem dX12_pail_31 : decode cX12_pail 31 = .ok (.iaload, 1) := by decide +kernel
theorem dX12_pail_32 : decode cX12_pail 32 = .ok (.ireturn, 1) := by decide +kernel
theorem dX12_pail_33 : decode cX12_pail 33 = .ok (.iload_n 2, 1) := by decide +kernel
theorem dX12_pail_34 : decode cX12_pail 34 = .ok (.iconst 1, 1) := by decide +kernel
theorem dX12_pail_35 : decode cX12_pail 35 = .ok (.if_icmp .ne 10, 3) := by decide +kernel
theorem dX12_pail_38 : decode cX12_pail 38 = .ok (.aload_n 0, 1) := by decide +kernel
theorem dX12_pail_39 : decode cX12_pail 39 = .ok (.getfield 23, 3) := by decide +kernel
theorem dX12_pail_42 : decode cX12_pail 42 = .ok (.iload_n 1, 1) := by decide +kernel
theorem dX12_pail_43 : decode cX12_pail 43 = .ok (.iaload, 1) := by decide +kernel
theorem dX12_pail_44 : decode cX12_pail 44 = .ok (.ireturn, 1) := by decide +kernel
theorem dX12_pail_45 : decode cX12_pail 45 = .ok (.iload_n 2, 1) := by decide +kernel
theorem dX12_pail_46 : decode cX12_pail 46 = .ok (.iconst 2, 1) := by decide +kernel
theorem dX12_pail_47 : decode cX12_pail 47 = .ok (.if_icmp .ne 10, 3) := by decide +kernel
theorem dX12_pail_50 : decode cX12_pail 50 = .ok (.aload_n 0, 1) := by decide +kernel
theorem dX12_pail_51 : decode cX12_pail 51 = .ok (.getfield 26, 3) := by decide +kernel
theorem dX12_pail_54 : decode cX12_pail 54 = .ok (.iload_n 1, 1) := by decide +kernel
theorem dX12_pail_55 : decode cX12_pail 55 = .ok (.iaload, 1) := by decide +kernel
theorem dX12_pail_56 : decode cX12_pail 56 = .ok (.ireturn, 1) := by decide +kernel
theorem dX12_pail_57 : decode cX12_pail 57 = .ok (.iload_n 2, 1) := by decide +kernel
theorem dX12_pail_58 : decode cX12_pail 58 = .ok (.iconst 3, 1) := by decide +kernel
theorem dX12_pail_59 : decode cX12_pail 59 = .ok (.if_icmp .ne 15, 3) := by decide +kernel
theorem dX12_pail_62 : decode cX12_pail 62 = .ok (.aload_n 0, 1) := by decide +kernel
theorem dX12_pail_63 : decode cX12_pail 63 = .ok (.getfield 7, 3) := by decide +kernel
theorem dX12_pail_66 : decode cX12_pail 66 = .ok (.bipush 7, 2) := by decide +kernel
theorem dX12_pail_68 : decode cX12_pail 68 = .ok (.iload_n 1, 1) := by decide +kernel
theorem dX12_pail_69 : decode cX12_pail 69 = .ok (.iadd, 1) := by decide +kernel
theorem dX12_pail_70 : decode cX12_pail 70 = .ok (.iaload, 1) := by decide +kernel
theorem dX12_pail_71 : decode cX12_pail 71 = .ok (.goto 17, 3) := by decide +kernel
theorem dX12_pail_74 : decode cX12_pail 74 = .ok (.iload_n 2, 1) := by decide +kernel
theorem dX12_pail_75 : decode cX12_pail 75 = .ok (.iconst 4, 1) := by decide +kernel
theorem dX12_pail_76 : decode cX12_pail 76 = .ok (.if_icmp .ne 11, 3) := by decide +kernel
theorem dX12_pail_79 : decode cX12_pail 79 = .ok (.aload_n 0, 1) := by decide +kernel
theorem dX12_pail_80 : decode cX12_pail 80 = .ok (.iload_n 1, 1) := by decide +kernel
theorem dX12_pail_81 : decode cX12_pail 81 = .ok (.invokevirtual 283, 3) := by decide +kernel
theorem dX12_pail_84 : decode cX12_pail 84 = .ok (.goto 4, 3) := by decide +kernel
theorem dX12_pail_87 : decode cX12_pail 87 = .ok (.iconst (-1), 1) := by decide +kernel
theorem dX12_pail_88 : decode cX12_pail 88 = .ok (.ireturn, 1) := by decide +kernel
theorem dX12_part_0 : decode cX12_part 0 = .ok (.aload_n 0, 1) := by decide +kernel
theorem dX12_part_1 : decode cX12_part 1 = .ok (.iconst 0, 1) := by decide +kernel
theorem dX12_part_2 : decode cX12_part 2 = .ok (.putfield 120, 3) := by decide +kernel
theorem dX12_part_5 : decode cX12_part 5 = .ok (.aload_n 0, 1) := by decide +kernel
theorem dX12_part_6 : decode cX12_part 6 = .ok (.iload_n 1, 1) := by decide +kernel
theorem dX12_part_7 : decode cX12_part 7 = .ok (.iconst 0, 1) := by decide +kernel
theorem dX12_part_8 : decode cX12_part 8 = .ok (.aload_n 0, 1) := by decide +kernel
theorem dX12_part_9 : decode cX12_part 9 = .ok (.getfield 145, 3) := by decide +kernel
theorem dX12_part_12 : decode cX12_part 12 = .ok (.iconst 1, 1) := by decide +kernel
theorem dX12_part_13 : decode cX12_part 13 = .ok (.isub, 1) := by decide +kernel
theorem dX12_part_14 : decode cX12_part 14 = .ok (.invokevirtual 138, 3) := by decide +kernel
theorem dX12_part_17 : decode cX12_part 17 = .ok (.ifCond .ne 5, 3) := by decide +kernel
theorem dX12_part_20 : decode cX12_part 20 = .ok (.iconst (-1), 1) := by decide +kernel
theorem dX12_part_21 : decode cX12_part 21 = .ok (.ireturn, 1) := by decide +kernel
theorem dX12_part_22 : decode cX12_part 22 = .ok (.iload_n 2, 1) := by decide +kernel
theorem dX12_part_23 : decode cX12_part 23 = .ok (.ifCond .ne 16, 3) := by decide +kernel
theorem dX12_part_26 : decode cX12_part 26 = .ok (.aload_n 0, 1) := by decide +kernel
theorem dX12_part_27 : decode cX12_part 27 = .ok (.getfield 7, 3) := by decide +kernel
theorem dX12_part_30 : decode cX12_part 30 = .ok (.sipush 152, 3) := by decide +kernel
theorem dX12_part_33 : decode cX12_part 33 = .ok (.iload_n 1, 1) := by decide +kernel
theorem dX12_part_34 : decode cX12_part 34 = .ok (.iadd, 1) := by decide +kernel
theorem dX12_part_35 : decode cX12_part 35 = .ok (.iaload, 1) := by decide +kernel
theorem dX12_part_36 : decode cX12_part 36 = .ok (.goto 32, 3) := by decide +kernel
theorem dX12_part_39 : decode cX12_part 39 = .ok (.iload_n 2, 1) := by decide +kernel
theorem dX12_part_40 : decode cX12_part 40 = .ok (.iconst 1, 1) := by decide +kernel
theorem dX12_part_41 : decode cX12_part 41 = .ok (.if_icmp .ne 12, 3) := by decide +kernel
theorem dX12_part_44 : decode cX12_part 44 = .ok (.aload_n 0, 1) := by decide +kernel
theorem dX12_part_45 : decode cX12_part 45 = .ok (.getfield 47, 3) := by decide +kernel
theorem dX12_part_48 : decode cX12_part 48 = .ok (.iload_n 1, 1) := by decide +kernel
theorem dX12_part_49 : decode cX12_part 49 = .ok (.iaload, 1) := by decide +kernel
theorem dX12_part_50 : decode cX12_part 50 = .ok (.goto 18, 3) := by decide +kernel
theorem dX12_part_53 : decode cX12_part 53 = .ok (.iload_n 2, 1) := by decide +kernel
theorem dX12_part_54 : decode cX12_part 54 = .ok (.iconst 2, 1) := by decide +kernel
theorem dX12_part_55 : decode cX12_part 55 = .ok (.if_icmp .ne 12, 3) := by decide +kernel
theorem dX12_part_58 : decode cX12_part 58 = .ok (.aload_n 0, 1) := by decide +kernel
theorem dX12_part_59 : decode cX12_part 59 = .ok (.getfield 50, 3) := by decide +kernel
theorem dX12_part_62 : decode cX12_part 62 = .ok (.iload_n 1, 1) := by decide +kernel
theorem dX12_part_63 : decode cX12_part 63 = .ok (.iaload, 1) := by decide +kernel
theorem dX12_part_64 : decode cX12_part 64 = .ok (.goto 4, 3) := by decide +kernel
theorem dX12_part_67 : decode cX12_part 67 = .ok (.iconst (-1), 1) := by decide +kernel
theorem dX12_part_68 : decode cX12_part 68 = .ok (.ireturn, 1) := by decide +kernel
theorem dX12_owes_0 : decode cX12_owes 0 = .ok (.aload_n 0, 1) := by decide +kernel
theorem dX12_owes_1 : decode cX12_owes 1 = .ok (.iconst 0, 1) := by decide +kernel
theorem dX12_owes_2 : decode cX12_owes 2 = .ok (.putfield 120, 3) := by decide +kernel
theorem dX12_owes_5 : decode cX12_owes 5 = .ok (.aload_n 0, 1) := by decide +kernel
theorem dX12_owes_6 : decode cX12_owes 6 = .ok (.iload_n 1, 1) := by decide +kernel
theorem dX12_owes_7 : decode cX12_owes 7 = .ok (.invokevirtual 163, 3) := by decide +kernel
theorem dX12_owes_10 : decode cX12_owes 10 = .ok (.ifCond .eq 33, 3) := by decide +kernel
theorem dX12_owes_13 : decode cX12_owes 13 = .ok (.aload_n 0, 1) := by decide +kernel
theorem dX12_owes_14 : decode cX12_owes 14 = .ok (.iload_n 2, 1) := by decide +kernel
theorem dX12_owes_15 : decode cX12_owes 15 = .ok (.invokevirtual 163, 3) := by decide +kernel
theorem dX12_owes_18 : decode cX12_owes 18 = .ok (.ifCond .eq 25, 3) := by decide +kernel
theorem dX12_owes_21 : decode cX12_owes 21 = .ok (.iload_n 1, 1) := by decide +kernel
theorem dX12_owes_22 : decode cX12_owes 22 = .ok (.iload_n 2, 1) := by decide +kernel
theorem dX12_owes_23 : decode cX12_owes 23 = .ok (.if_icmp .eq 20, 3) := by decide +kernel
theorem dX12_owes_26 : decode cX12_owes 26 = .ok (.aload_n 0, 1) := by decide +kernel
theorem dX12_owes_27 : decode cX12_owes 27 = .ok (.getfield 7, 3) := by decide +kernel
theorem dX12_owes_30 : decode cX12_owes 30 = .ok (.bipush 71, 2) := by decide +kernel
theorem dX12_owes_32 : decode cX12_owes 32 = .ok (.bipush 9, 2) := by decide +kernel
theorem dX12_owes_34 : decode cX12_owes 34 = .ok (.iload_n 1, 1) := by decide +kernel
theorem dX12_owes_35 : decode cX12_owes 35 = .ok (.imul, 1) := by decide +kernel
theorem dX12_owes_36 : decode cX12_owes 36 = .ok (.iadd, 1) := by decide +kernel
theorem dX12_owes_37 : decode cX12_owes 37 = .ok (.iload_n 2, 1) := by decide +kernel
theorem dX12_owes_38 : decode cX12_owes 38 = .ok (.iadd, 1) := by decide +kernel
theorem dX12_owes_39 : decode cX12_owes 39 = .ok (.iaload, 1) := by decide +kernel
theorem dX12_owes_40 : decode cX12_owes 40 = .ok (.goto 4, 3) := by decide +kernel
theorem dX12_owes_43 : decode cX12_owes 43 = .ok (.iconst (-1), 1) := by decide +kernel
theorem dX12_owes_44 : decode cX12_owes 44 = .ok (.ireturn, 1) := by decide +kernel
theorem dX12_mostGroups_0 : decode cX12_mostGroups 0 = .ok (.iload_n 1, 1) := by decide +kernel
theorem dX12_mostGroups_1 : decode cX12_mostGroups 1 = .ok (.iload_n 1, 1) := by decide +kernel
theorem dX12_mostGroups_2 : decode cX12_mostGroups 2 = .ok (.ineg, 1) := by decide +kernel
theorem dX12_mostGroups_3 : decode cX12_mostGroups 3 = .ok (.iand, 1) := by decide +kernel
theorem dX12_mostGroups_4 : decode cX12_mostGroups 4 = .ok (.istore_n 2, 1) := by decide +kernel
theorem dX12_mostGroups_5 : decode cX12_mostGroups 5 = .ok (.iconst 0, 1) := by decide +kernel
theorem dX12_mostGroups_6 : decode cX12_mostGroups 6 = .ok (.istore_n 3, 1) := by decide +kernel
theorem dX12_mostGroups_7 : decode cX12_mostGroups 7 = .ok (.iload_n 1, 1) := by decide +kernel
theorem dX12_mostGroups_8 : decode cX12_mostGroups 8 = .ok (.istore 4, 2) := by decide +kernel
theorem dX12_mostGroups_10 : decode cX12_mostGroups 10 = .ok (.iload 4, 2) := by decide +kernel
theorem dX12_mostGroups_12 : decode cX12_mostGroups 12 = .ok (.ifCond .le 62, 3) := by decide +kernel
theorem dX12_mostGroups_15 : decode cX12_mostGroups 15 = .ok (.iload 4, 2) := by decide +kernel
theorem dX12_mostGroups_17 : decode cX12_mostGroups 17 = .ok (.iload_n 2, 1) := by decide +kernel
theorem dX12_mostGroups_18 : decode cX12_mostGroups 18 = .ok (.iand, 1) := by decide +kernel
theorem dX12_mostGroups_19 : decode cX12_mostGroups 19 = .ok (.ifCond .eq 44, 3) := by decide +kernel
theorem dX12_mostGroups_22 : decode cX12_mostGroups 22 = .ok (.aload_n 0, 1) := by decide +kernel
theorem dX12_mostGroups_23 : decode cX12_mostGroups 23 = .ok (.getfield 111, 3) := by decide +kernel
theorem dX12_mostGroups_26 : decode cX12_mostGroups 26 = .ok (.iload 4, 2) := by decide +kernel
theorem dX12_mostGroups_28 : decode cX12_mostGroups 28 = .ok (.iaload, 1) := by decide +kernel
theorem dX12_mostGroups_29 : decode cX12_mostGroups 29 = .ok (.ifCond .eq 6, 3) := by decide +kernel
theorem dX12_mostGroups_32 : decode cX12_mostGroups 32 = .ok (.goto 31, 3) := by decide +kernel
theorem dX12_mostGroups_35 : decode cX12_mostGroups 35 = .ok (.iconst 1, 1) := by decide +kernel
theorem dX12_mostGroups_36 : decode cX12_mostGroups 36 = .ok (.aload_n 0, 1) := by decide +kernel
theorem dX12_mostGroups_37 : decode cX12_mostGroups 37 = .ok (.getfield 114, 3) := by decide +kernel
theorem dX12_mostGroups_40 : decode cX12_mostGroups 40 = .ok (.iload_n 1, 1) := by decide +kernel
theorem dX12_mostGroups_41 : decode cX12_mostGroups 41 = .ok (.iload 4, 2) := by decide +kernel
theorem dX12_mostGroups_43 : decode cX12_mostGroups 43 = .ok (.iconst (-1), 1) := by decide +kernel
theorem dX12_mostGroups_44 : decode cX12_mostGroups 44 = .ok (.ixor, 1) := by decide +kernel
theorem dX12_mostGroups_45 : decode cX12_mostGroups 45 = .ok (.iand, 1) := by decide +kernel
theorem dX12_mostGroups_46 : decode cX12_mostGroups 46 = .ok (.iaload, 1) := by decide +kernel
theorem dX12_mostGroups_47 : decode cX12_mostGroups 47 = .ok (.iadd, 1) := by decide +kernel
theorem dX12_mostGroups_48 : decode cX12_mostGroups 48 = .ok (.istore 5, 2) := by decide +kernel
theorem dX12_mostGroups_50 : decode cX12_mostGroups 50 = .ok (.iload 5, 2) := by decide +kernel
theorem dX12_mostGroups_52 : decode cX12_mostGroups 52 = .ok (.iload_n 3, 1) := by decide +kernel
theorem dX12_mostGroups_53 : decode cX12_mostGroups 53 = .ok (.if_icmp .le 8, 3) := by decide +kernel
theorem dX12_mostGroups_56 : decode cX12_mostGroups 56 = .ok (.iload 5, 2) := by decide +kernel
theorem dX12_mostGroups_58 : decode cX12_mostGroups 58 = .ok (.goto 4, 3) := by decide +kernel
theorem dX12_mostGroups_61 : decode cX12_mostGroups 61 = .ok (.iload_n 3, 1) := by decide +kernel
theorem dX12_mostGroups_62 : decode cX12_mostGroups 62 = .ok (.istore_n 3, 1) := by decide +kernel
theorem dX12_mostGroups_63 : decode cX12_mostGroups 63 = .ok (.iload 4, 2) := by decide +kernel
theorem dX12_mostGroups_65 : decode cX12_mostGroups 65 = .ok (.iconst 1, 1) := by decide +kernel
theorem dX12_mostGroups_66 : decode cX12_mostGroups 66 = .ok (.isub, 1) := by decide +kernel
theorem dX12_mostGroups_67 : decode cX12_mostGroups 67 = .ok (.iload_n 1, 1) := by decide +kernel
theorem dX12_mostGroups_68 : decode cX12_mostGroups 68 = .ok (.iand, 1) := by decide +kernel
theorem dX12_mostGroups_69 : decode cX12_mostGroups 69 = .ok (.istore 4, 2) := by decide +kernel
theorem dX12_mostGroups_71 : decode cX12_mostGroups 71 = .ok (.goto (-61), 3) := by decide +kernel
theorem dX12_mostGroups_74 : decode cX12_mostGroups 74 = .ok (.iload_n 3, 1) := by decide +kernel
theorem dX12_mostGroups_75 : decode cX12_mostGroups 75 = .ok (.ireturn, 1) := by decide +kernel
theorem dX12_deals_0 : decode cX12_deals 0 = .ok (.aload_n 0, 1) := by decide +kernel
theorem dX12_deals_1 : decode cX12_deals 1 = .ok (.iconst 0, 1) := by decide +kernel
theorem dX12_deals_2 : decode cX12_deals 2 = .ok (.putfield 120, 3) := by decide +kernel
theorem dX12_deals_5 : decode cX12_deals 5 = .ok (.iconst 0, 1) := by decide +kernel
theorem dX12_deals_6 : decode cX12_deals 6 = .ok (.istore_n 1, 1) := by decide +kernel
theorem dX12_deals_7 : decode cX12_deals 7 = .ok (.iconst 0, 1) := by decide +kernel
theorem dX12_deals_8 : decode cX12_deals 8 = .ok (.istore_n 2, 1) := by decide +kernel
theorem dX12_deals_9 : decode cX12_deals 9 = .ok (.iload_n 2, 1) := by decide +kernel
theorem dX12_deals_10 : decode cX12_deals 10 = .ok (.aload_n 0, 1) := by decide +kernel
theorem dX12_deals_11 : decode cX12_deals 11 = .ok (.getfield 135, 3) := by decide +kernel
theorem dX12_deals_14 : decode cX12_deals 14 = .ok (.if_icmp .ge 28, 3) := by decide +kernel
theorem dX12_deals_17 : decode cX12_deals 17 = .ok (.aload_n 0, 1) := by decide +kernel
theorem dX12_deals_18 : decode cX12_deals 18 = .ok (.iload_n 2, 1) := by decide +kernel
theorem dX12_deals_19 : decode cX12_deals 19 = .ok (.invokevirtual 277, 3) := by decide +kernel
theorem dX12_deals_22 : decode cX12_deals 22 = .ok (.aload_n 0, 1) := by decide +kernel
theorem dX12_deals_23 : decode cX12_deals 23 = .ok (.iload_n 2, 1) := by decide +kernel
theorem dX12_deals_24 : decode cX12_deals 24 = .ok (.invokevirtual 329, 3) := by decide +kernel
theorem dX12_deals_27 : decode cX12_deals 27 = .ok (.if_icmp .eq 9, 3) := by decide +kernel
theorem dX12_deals_30 : decode cX12_deals 30 = .ok (.iload_n 1, 1) := by decide +kernel
theorem dX12_deals_31 : decode cX12_deals 31 = .ok (.iconst 1, 1) := by decide +kernel
theorem dX12_deals_32 : decode cX12_deals 32 = .ok (.iload_n 2, 1) := by decide +kernel
theorem dX12_deals_33 : decode cX12_deals 33 = .ok (.ishl, 1) := by decide +kernel
theorem dX12_deals_34 : decode cX12_deals 34 = .ok (.ior, 1) := by decide +kernel
theorem dX12_deals_35 : decode cX12_deals 35 = .ok (.istore_n 1, 1) := by decide +kernel
theorem dX12_deals_36 : decode cX12_deals 36 = .ok (.iinc 2 1, 3) := by decide +kernel
theorem dX12_deals_39 : decode cX12_deals 39 = .ok (.goto (-30), 3) := by decide +kernel
theorem dX12_deals_42 : decode cX12_deals 42 = .ok (.aload_n 0, 1) := by decide +kernel
theorem dX12_deals_43 : decode cX12_deals 43 = .ok (.getfield 111, 3) := by decide +kernel
theorem dX12_deals_46 : decode cX12_deals 46 = .ok (.iconst 0, 1) := by decide +kernel
theorem dX12_deals_47 : decode cX12_deals 47 = .ok (.iconst 0, 1) := by decide +kernel
theorem dX12_deals_48 : decode cX12_deals 48 = .ok (.iastore, 1) := by decide +kernel
theorem dX12_deals_49 : decode cX12_deals 49 = .ok (.aload_n 0, 1) := by decide +kernel
theorem dX12_deals_50 : decode cX12_deals 50 = .ok (.getfield 114, 3) := by decide +kernel
theorem dX12_deals_53 : decode cX12_deals 53 = .ok (.iconst 0, 1) := by decide +kernel
theorem dX12_deals_54 : decode cX12_deals 54 = .ok (.iconst 0, 1) := by decide +kernel
theorem dX12_deals_55 : decode cX12_deals 55 = .ok (.iastore, 1) := by decide +kernel
theorem dX12_deals_56 : decode cX12_deals 56 = .ok (.iconst 1, 1) := by decide +kernel
theorem dX12_deals_57 : decode cX12_deals 57 = .ok (.istore_n 2, 1) := by decide +kernel
theorem dX12_deals_58 : decode cX12_deals 58 = .ok (.iload_n 2, 1) := by decide +kernel
theorem dX12_deals_59 : decode cX12_deals 59 = .ok (.iconst 1, 1) := by decide +kernel
theorem dX12_deals_60 : decode cX12_deals 60 = .ok (.aload_n 0, 1) := by decide +kernel
theorem dX12_deals_61 : decode cX12_deals 61 = .ok (.getfield 135, 3) := by decide +kernel
theorem dX12_deals_64 : decode cX12_deals 64 = .ok (.ishl, 1) := by decide +kernel
theorem dX12_deals_65 : decode cX12_deals 65 = .ok (.if_icmp .ge 79, 3) := by decide +kernel
theorem dX12_deals_68 : decode cX12_deals 68 = .ok (.iconst 0, 1) := by decide +kernel
theorem dX12_deals_69 : decode cX12_deals 69 = .ok (.istore_n 3, 1) := by decide +kernel
theorem dX12_deals_70 : decode cX12_deals 70 = .ok (.iload_n 2, 1) := by decide +kernel
theorem dX12_deals_71 : decode cX12_deals 71 = .ok (.iload_n 3, 1) := by decide +kernel
theorem dX12_deals_72 : decode cX12_deals 72 = .ok (.ishr, 1) := by decide +kernel
theorem dX12_deals_73 : decode cX12_deals 73 = .ok (.iconst 1, 1) := by decide +kernel
theorem dX12_deals_74 : decode cX12_deals 74 = .ok (.iand, 1) := by decide +kernel
theorem dX12_deals_75 : decode cX12_deals 75 = .ok (.ifCond .ne 10, 3) := by decide +kernel
theorem dX12_deals_78 : decode cX12_deals 78 = .ok (.iload_n 3, 1) := by decide +kernel
theorem dX12_deals_79 : decode cX12_deals 79 = .ok (.iconst 1, 1) := by decide +kernel
theorem dX12_deals_80 : decode cX12_deals 80 = .ok (.iadd, 1) := by decide +kernel
theorem dX12_deals_81 : decode cX12_deals 81 = .ok (.istore_n 3, 1) := by decide +kernel
theorem dX12_deals_82 : decode cX12_deals 82 = .ok (.goto (-12), 3) := by decide +kernel
theorem dX12_deals_85 : decode cX12_deals 85 = .ok (.aload_n 0, 1) := by decide +kernel
theorem dX12_deals_86 : decode cX12_deals 86 = .ok (.getfield 111, 3) := by decide +kernel
theorem dX12_deals_89 : decode cX12_deals 89 = .ok (.iload_n 2, 1) := by decide +kernel
theorem dX12_deals_90 : decode cX12_deals 90 = .ok (.aload_n 0, 1) := by decide +kernel
theorem dX12_deals_91 : decode cX12_deals 91 = .ok (.getfield 111, 3) := by decide +kernel
theorem dX12_deals_94 : decode cX12_deals 94 = .ok (.iload_n 2, 1) := by decide +kernel
theorem dX12_deals_95 : decode cX12_deals 95 = .ok (.iconst 1, 1) := by decide +kernel
theorem dX12_deals_96 : decode cX12_deals 96 = .ok (.iload_n 3, 1) := by decide +kernel
theorem dX12_deals_97 : decode cX12_deals 97 = .ok (.ishl, 1) := by decide +kernel
theorem dX12_deals_98 : decode cX12_deals 98 = .ok (.iconst (-1), 1) := by decide +kernel
theorem dX12_deals_99 : decode cX12_deals 99 = .ok (.ixor, 1) := by decide +kernel
theorem dX12_deals_100 : decode cX12_deals 100 = .ok (.iand, 1) := by decide +kernel
theorem dX12_deals_101 : decode cX12_deals 101 = .ok (.iaload, 1) := by decide +kernel
theorem dX12_deals_102 : decode cX12_deals 102 = .ok (.aload_n 0, 1) := by decide +kernel
theorem dX12_deals_103 : decode cX12_deals 103 = .ok (.iload_n 3, 1) := by decide +kernel
theorem dX12_deals_104 : decode cX12_deals 104 = .ok (.invokevirtual 277, 3) := by decide +kernel
theorem dX12_deals_107 : decode cX12_deals 107 = .ok (.iadd, 1) := by decide +kernel
theorem dX12_deals_108 : decode cX12_deals 108 = .ok (.aload_n 0, 1) := by decide +kernel
theorem dX12_deals_109 : decode cX12_deals 109 = .ok (.iload_n 3, 1) := by decide +kernel
theorem dX12_deals_110 : decode cX12_deals 110 = .ok (.invokevirtual 329, 3) := by decide +kernel
theorem dX12_deals_113 : decode cX12_deals 113 = .ok (.isub, 1) := by decide +kernel
theorem dX12_deals_114 : decode cX12_deals 114 = .ok (.iastore, 1) := by decide +kernel
theorem dX12_deals_115 : decode cX12_deals 115 = .ok (.aload_n 0, 1) := by decide +kernel
theorem dX12_deals_116 : decode cX12_deals 116 = .ok (.getfield 114, 3) := by decide +kernel
theorem dX12_deals_119 : decode cX12_deals 119 = .ok (.iload_n 2, 1) := by decide +kernel
theorem dX12_deals_120 : decode cX12_deals 120 = .ok (.iload_n 2, 1) := by decide +kernel
theorem dX12_deals_121 : decode cX12_deals 121 = .ok (.iload_n 1, 1) := by decide +kernel
theorem dX12_deals_122 : decode cX12_deals 122 = .ok (.iconst (-1), 1) := by decide +kernel
theorem dX12_deals_123 : decode cX12_deals 123 = .ok (.ixor, 1) := by decide +kernel
theorem dX12_deals_124 : decode cX12_deals 124 = .ok (.iand, 1) := by decide +kernel
theorem dX12_deals_125 : decode cX12_deals 125 = .ok (.ifCond .ne 11, 3) := by decide +kernel
theorem dX12_deals_128 : decode cX12_deals 128 = .ok (.aload_n 0, 1) := by decide +kernel
theorem dX12_deals_129 : decode cX12_deals 129 = .ok (.iload_n 2, 1) := by decide +kernel
theorem dX12_deals_130 : decode cX12_deals 130 = .ok (.invokevirtual 332, 3) := by decide +kernel
theorem dX12_deals_133 : decode cX12_deals 133 = .ok (.goto 4, 3) := by decide +kernel
theorem dX12_deals_136 : decode cX12_deals 136 = .ok (.iconst 0, 1) := by decide +kernel
theorem dX12_deals_137 : decode cX12_deals 137 = .ok (.iastore, 1) := by decide +kernel
theorem dX12_deals_138 : decode cX12_deals 138 = .ok (.iinc 2 1, 3) := by decide +kernel
theorem dX12_deals_141 : decode cX12_deals 141 = .ok (.goto (-83), 3) := by decide +kernel
theorem dX12_deals_144 : decode cX12_deals 144 = .ok (.aload_n 0, 1) := by decide +kernel
theorem dX12_deals_145 : decode cX12_deals 145 = .ok (.iload_n 1, 1) := by decide +kernel
theorem dX12_deals_146 : decode cX12_deals 146 = .ok (.invokevirtual 335, 3) := by decide +kernel
theorem dX12_deals_149 : decode cX12_deals 149 = .ok (.aload_n 0, 1) := by decide +kernel
theorem dX12_deals_150 : decode cX12_deals 150 = .ok (.getfield 114, 3) := by decide +kernel
theorem dX12_deals_153 : decode cX12_deals 153 = .ok (.iload_n 1, 1) := by decide +kernel
theorem dX12_deals_154 : decode cX12_deals 154 = .ok (.iaload, 1) := by decide +kernel
theorem dX12_deals_155 : decode cX12_deals 155 = .ok (.isub, 1) := by decide +kernel
theorem dX12_deals_156 : decode cX12_deals 156 = .ok (.ireturn, 1) := by decide +kernel
theorem dX12_farmOf_0 : decode cX12_farmOf 0 = .ok (.iload_n 1, 1) := by decide +kernel
theorem dX12_farmOf_1 : decode cX12_farmOf 1 = .ok (.istore_n 3, 1) := by decide +kernel
theorem dX12_farmOf_2 : decode cX12_farmOf 2 = .ok (.iconst 3, 1) := by decide +kernel
theorem dX12_farmOf_3 : decode cX12_farmOf 3 = .ok (.istore 4, 2) := by decide +kernel
theorem dX12_farmOf_5 : decode cX12_farmOf 5 = .ok (.iload 4, 2) := by decide +kernel
theorem dX12_farmOf_7 : decode cX12_farmOf 7 = .ok (.iload_n 2, 1) := by decide +kernel
theorem dX12_farmOf_8 : decode cX12_farmOf 8 = .ok (.if_icmp .le 16, 3) := by decide +kernel
theorem dX12_farmOf_11 : decode cX12_farmOf 11 = .ok (.iload_n 3, 1) := by decide +kernel
theorem dX12_farmOf_12 : decode cX12_farmOf 12 = .ok (.aload_n 0, 1) := by decide +kernel
theorem dX12_farmOf_13 : decode cX12_farmOf 13 = .ok (.getfield 135, 3) := by decide +kernel
theorem dX12_farmOf_16 : decode cX12_farmOf 16 = .ok (.idiv, 1) := by decide +kernel
theorem dX12_farmOf_17 : decode cX12_farmOf 17 = .ok (.istore_n 3, 1) := by decide +kernel
theorem dX12_farmOf_18 : decode cX12_farmOf 18 = .ok (.iinc 4 (-1), 3) := by decide +kernel
theorem dX12_farmOf_21 : decode cX12_farmOf 21 = .ok (.goto (-16), 3) := by decide +kernel
theorem dX12_farmOf_24 : decode cX12_farmOf 24 = .ok (.iload_n 3, 1) := by decide +kernel
theorem dX12_farmOf_25 : decode cX12_farmOf 25 = .ok (.aload_n 0, 1) := by decide +kernel
theorem dX12_farmOf_26 : decode cX12_farmOf 26 = .ok (.getfield 135, 3) := by decide +kernel
theorem dX12_farmOf_29 : decode cX12_farmOf 29 = .ok (.irem, 1) := by decide +kernel
theorem dX12_farmOf_30 : decode cX12_farmOf 30 = .ok (.ireturn, 1) := by decide +kernel
theorem dX12_ways_0 : decode cX12_ways 0 = .ok (.aload_n 0, 1) := by decide +kernel
theorem dX12_ways_1 : decode cX12_ways 1 = .ok (.getfield 135, 3) := by decide +kernel
theorem dX12_ways_4 : decode cX12_ways 4 = .ok (.aload_n 0, 1) := by decide +kernel
theorem dX12_ways_5 : decode cX12_ways 5 = .ok (.getfield 135, 3) := by decide +kernel
theorem dX12_ways_8 : decode cX12_ways 8 = .ok (.imul, 1) := by decide +kernel
theorem dX12_ways_9 : decode cX12_ways 9 = .ok (.aload_n 0, 1) := by decide +kernel
theorem dX12_ways_10 : decode cX12_ways 10 = .ok (.getfield 135, 3) := by decide +kernel
theorem dX12_ways_13 : decode cX12_ways 13 = .ok (.imul, 1) := by decide +kernel
theorem dX12_ways_14 : decode cX12_ways 14 = .ok (.aload_n 0, 1) := by decide +kernel
theorem dX12_ways_15 : decode cX12_ways 15 = .ok (.getfield 135, 3) := by decide +kernel
theorem dX12_ways_18 : decode cX12_ways 18 = .ok (.imul, 1) := by decide +kernel
theorem dX12_ways_19 : decode cX12_ways 19 = .ok (.ireturn, 1) := by decide +kernel
theorem dX12_findsBest_0 : decode cX12_findsBest 0 = .ok (.aload_n 0, 1) := by decide +kernel
theorem dX12_findsBest_1 : decode cX12_findsBest 1 = .ok (.bipush 8, 2) := by decide +kernel
theorem dX12_findsBest_3 : decode cX12_findsBest 3 = .ok (.invokevirtual 126, 3) := by decide +kernel
theorem dX12_findsBest_6 : decode cX12_findsBest 6 = .ok (.aload_n 0, 1) := by decide +kernel
theorem dX12_findsBest_7 : decode cX12_findsBest 7 = .ok (.iconst (-1), 1) := by decide +kernel
theorem dX12_findsBest_8 : decode cX12_findsBest 8 = .ok (.putfield 338, 3) := by decide +kernel
theorem dX12_findsBest_11 : decode cX12_findsBest 11 = .ok (.aload_n 0, 1) := by decide +kernel
theorem dX12_findsBest_12 : decode cX12_findsBest 12 = .ok (.iconst (-1), 1) := by decide +kernel
theorem dX12_findsBest_13 : decode cX12_findsBest 13 = .ok (.putfield 341, 3) := by decide +kernel
theorem dX12_findsBest_16 : decode cX12_findsBest 16 = .ok (.iconst 0, 1) := by decide +kernel
theorem dX12_findsBest_17 : decode cX12_findsBest 17 = .ok (.istore_n 1, 1) := by decide +kernel
theorem dX12_findsBest_18 : decode cX12_findsBest 18 = .ok (.iload_n 1, 1) := by decide +kernel
theorem dX12_findsBest_19 : decode cX12_findsBest 19 = .ok (.aload_n 0, 1) := by decide +kernel
theorem dX12_findsBest_20 : decode cX12_findsBest 20 = .ok (.invokevirtual 344, 3) := by decide +kernel
theorem dX12_findsBest_23 : decode cX12_findsBest 23 = .ok (.if_icmp .ge 79, 3) := by decide +kernel
theorem dX12_findsBest_26 : decode cX12_findsBest 26 = .ok (.aload_n 0, 1) := by decide +kernel
theorem dX12_findsBest_27 : decode cX12_findsBest 27 = .ok (.bipush 8, 2) := by decide +kernel
theorem dX12_findsBest_29 : decode cX12_findsBest 29 = .ok (.invokevirtual 130, 3) := by decide +kernel
theorem dX12_findsBest_32 : decode cX12_findsBest 32 = .ok (.iconst 0, 1) := by decide +kernel
theorem dX12_findsBest_33 : decode cX12_findsBest 33 = .ok (.istore_n 2, 1) := by decide +kernel
theorem dX12_findsBest_34 : decode cX12_findsBest 34 = .ok (.iload_n 2, 1) := by decide +kernel
theorem dX12_findsBest_35 : decode cX12_findsBest 35 = .ok (.bipush 24, 2) := by decide +kernel
theorem dX12_findsBest_37 : decode cX12_findsBest 37 = .ok (.if_icmp .ge 28, 3) := by decide +kernel
theorem dX12_findsBest_40 : decode cX12_findsBest 40 = .ok (.aload_n 0, 1) := by decide +kernel
theorem dX12_findsBest_41 : decode cX12_findsBest 41 = .ok (.aload_n 0, 1) := by decide +kernel
theorem dX12_findsBest_42 : decode cX12_findsBest 42 = .ok (.aload_n 0, 1) := by decide +kernel
theorem dX12_findsBest_43 : decode cX12_findsBest 43 = .ok (.iload_n 1, 1) := by decide +kernel
theorem dX12_findsBest_44 : decode cX12_findsBest 44 = .ok (.iload_n 2, 1) := by decide +kernel
theorem dX12_findsBest_45 : decode cX12_findsBest 45 = .ok (.bipush 6, 2) := by decide +kernel
theorem dX12_findsBest_47 : decode cX12_findsBest 47 = .ok (.idiv, 1) := by decide +kernel
theorem dX12_findsBest_48 : decode cX12_findsBest 48 = .ok (.invokevirtual 347, 3) := by decide +kernel
theorem dX12_findsBest_51 : decode cX12_findsBest 51 = .ok (.iconst 0, 1) := by decide +kernel
theorem dX12_findsBest_52 : decode cX12_findsBest 52 = .ok (.invokevirtual 313, 3) := by decide +kernel
theorem dX12_findsBest_55 : decode cX12_findsBest 55 = .ok (.invokevirtual 317, 3) := by decide +kernel
theorem dX12_findsBest_58 : decode cX12_findsBest 58 = .ok (.pop, 1) := by decide +kernel
theorem dX12_findsBest_59 : decode cX12_findsBest 59 = .ok (.iinc 2 1, 3) := by decide +kernel
theorem dX12_findsBest_62 : decode cX12_findsBest 62 = .ok (.goto (-28), 3) := by decide +kernel
theorem dX12_findsBest_65 : decode cX12_findsBest 65 = .ok (.aload_n 0, 1) := by decide +kernel
theorem dX12_findsBest_66 : decode cX12_findsBest 66 = .ok (.getfield 7, 3) := by decide +kernel
theorem dX12_findsBest_69 : decode cX12_findsBest 69 = .ok (.iconst 1, 1) := by decide +kernel
theorem dX12_findsBest_70 : decode cX12_findsBest 70 = .ok (.iaload, 1) := by decide +kernel
theorem dX12_findsBest_71 : decode cX12_findsBest 71 = .ok (.aload_n 0, 1) := by decide +kernel
theorem dX12_findsBest_72 : decode cX12_findsBest 72 = .ok (.getfield 341, 3) := by decide +kernel
theorem dX12_findsBest_75 : decode cX12_findsBest 75 = .ok (.if_icmp .gt 6, 3) := by decide +kernel
theorem dX12_findsBest_78 : decode cX12_findsBest 78 = .ok (.goto 18, 3) := by decide +kernel
theorem dX12_findsBest_81 : decode cX12_findsBest 81 = .ok (.aload_n 0, 1) := by decide +kernel
theorem dX12_findsBest_82 : decode cX12_findsBest 82 = .ok (.aload_n 0, 1) := by decide +kernel
theorem dX12_findsBest_83 : decode cX12_findsBest 83 = .ok (.getfield 7, 3) := by decide +kernel
theorem dX12_findsBest_86 : decode cX12_findsBest 86 = .ok (.iconst 1, 1) := by decide +kernel
theorem dX12_findsBest_87 : decode cX12_findsBest 87 = .ok (.iaload, 1) := by decide +kernel
theorem dX12_findsBest_88 : decode cX12_findsBest 88 = .ok (.putfield 341, 3) := by decide +kernel
theorem dX12_findsBest_91 : decode cX12_findsBest 91 = .ok (.aload_n 0, 1) := by decide +kernel
theorem dX12_findsBest_92 : decode cX12_findsBest 92 = .ok (.iload_n 1, 1) := by decide +kernel
theorem dX12_findsBest_93 : decode cX12_findsBest 93 = .ok (.putfield 338, 3) := by decide +kernel
theorem dX12_findsBest_96 : decode cX12_findsBest 96 = .ok (.iinc 1 1, 3) := by decide +kernel
theorem dX12_findsBest_99 : decode cX12_findsBest 99 = .ok (.goto (-81), 3) := by decide +kernel
theorem dX12_findsBest_102 : decode cX12_findsBest 102 = .ok (.aload_n 0, 1) := by decide +kernel
theorem dX12_findsBest_103 : decode cX12_findsBest 103 = .ok (.bipush 8, 2) := by decide +kernel
theorem dX12_findsBest_105 : decode cX12_findsBest 105 = .ok (.invokevirtual 130, 3) := by decide +kernel
theorem dX12_findsBest_108 : decode cX12_findsBest 108 = .ok (.return_, 1) := by decide +kernel
theorem dX12_canAsk_0 : decode cX12_canAsk 0 = .ok (.aload_n 0, 1) := by decide +kernel
theorem dX12_canAsk_1 : decode cX12_canAsk 1 = .ok (.aload_n 0, 1) := by decide +kernel
theorem dX12_canAsk_2 : decode cX12_canAsk 2 = .ok (.getfield 135, 3) := by decide +kernel
theorem dX12_canAsk_5 : decode cX12_canAsk 5 = .ok (.iconst 1, 1) := by decide +kernel
theorem dX12_canAsk_6 : decode cX12_canAsk 6 = .ok (.iconst 4, 1) := by decide +kernel
theorem dX12_canAsk_7 : decode cX12_canAsk 7 = .ok (.invokevirtual 138, 3) := by decide +kernel
theorem dX12_canAsk_10 : decode cX12_canAsk 10 = .ok (.ifCond .eq 23, 3) := by decide +kernel
theorem dX12_canAsk_13 : decode cX12_canAsk 13 = .ok (.iload_n 1, 1) := by decide +kernel
theorem dX12_canAsk_14 : decode cX12_canAsk 14 = .ok (.ifCond .eq 15, 3) := by decide +kernel
theorem dX12_canAsk_17 : decode cX12_canAsk 17 = .ok (.aload_n 0, 1) := by decide +kernel
theorem dX12_canAsk_18 : decode cX12_canAsk 18 = .ok (.iload_n 1, 1) := by decide +kernel
theorem dX12_canAsk_19 : decode cX12_canAsk 19 = .ok (.bipush 10, 2) := by decide +kernel
theorem dX12_canAsk_21 : decode cX12_canAsk 21 = .ok (.bipush 13, 2) := by decide +kernel
theorem dX12_canAsk_23 : decode cX12_canAsk 23 = .ok (.invokevirtual 138, 3) := by decide +kernel
theorem dX12_canAsk_26 : decode cX12_canAsk 26 = .ok (.ifCond .eq 7, 3) := by decide +kernel
theorem dX12_canAsk_29 : decode cX12_canAsk 29 = .ok (.iconst 1, 1) := by decide +kernel
theorem dX12_canAsk_30 : decode cX12_canAsk 30 = .ok (.goto 4, 3) := by decide +kernel
theorem dX12_canAsk_33 : decode cX12_canAsk 33 = .ok (.iconst 0, 1) := by decide +kernel
theorem dX12_canAsk_34 : decode cX12_canAsk 34 = .ok (.ireturn, 1) := by decide +kernel
theorem dX12_best_0 : decode cX12_best 0 = .ok (.aload_n 0, 1) := by decide +kernel
theorem dX12_best_1 : decode cX12_best 1 = .ok (.iconst 0, 1) := by decide +kernel
theorem dX12_best_2 : decode cX12_best 2 = .ok (.putfield 120, 3) := by decide +kernel
theorem dX12_best_5 : decode cX12_best 5 = .ok (.aload_n 0, 1) := by decide +kernel
theorem dX12_best_6 : decode cX12_best 6 = .ok (.iload_n 1, 1) := by decide +kernel
theorem dX12_best_7 : decode cX12_best 7 = .ok (.invokevirtual 350, 3) := by decide +kernel
theorem dX12_best_10 : decode cX12_best 10 = .ok (.ifCond .ne 5, 3) := by decide +kernel
theorem dX12_best_13 : decode cX12_best 13 = .ok (.iconst (-1), 1) := by decide +kernel
theorem dX12_best_14 : decode cX12_best 14 = .ok (.ireturn, 1) := by decide +kernel
theorem dX12_best_15 : decode cX12_best 15 = .ok (.aload_n 0, 1) := by decide +kernel
theorem dX12_best_16 : decode cX12_best 16 = .ok (.invokevirtual 353, 3) := by decide +kernel
theorem dX12_best_19 : decode cX12_best 19 = .ok (.iload_n 1, 1) := by decide +kernel
theorem dX12_best_20 : decode cX12_best 20 = .ok (.ifCond .ne 10, 3) := by decide +kernel
theorem dX12_best_23 : decode cX12_best 23 = .ok (.aload_n 0, 1) := by decide +kernel
theorem dX12_best_24 : decode cX12_best 24 = .ok (.getfield 341, 3) := by decide +kernel
theorem dX12_best_27 : decode cX12_best 27 = .ok (.goto 15, 3) := by decide +kernel
theorem dX12_best_30 : decode cX12_best 30 = .ok (.aload_n 0, 1) := by decide +kernel
theorem dX12_best_31 : decode cX12_best 31 = .ok (.aload_n 0, 1) := by decide +kernel
theorem dX12_best_32 : decode cX12_best 32 = .ok (.getfield 338, 3) := by decide +kernel
theorem dX12_best_35 : decode cX12_best 35 = .ok (.iload_n 1, 1) := by decide +kernel
theorem dX12_best_36 : decode cX12_best 36 = .ok (.bipush 10, 2) := by decide +kernel
theorem dX12_best_38 : decode cX12_best 38 = .ok (.isub, 1) := by decide +kernel
theorem dX12_best_39 : decode cX12_best 39 = .ok (.invokevirtual 347, 3) := by decide +kernel
theorem dX12_best_42 : decode cX12_best 42 = .ok (.ireturn, 1) := by decide +kernel
theorem dX12_meetings_0 : decode cX12_meetings 0 = .ok (.iconst 0, 1) := by decide +kernel
theorem dX12_meetings_1 : decode cX12_meetings 1 = .ok (.istore_n 2, 1) := by decide +kernel
theorem dX12_meetings_2 : decode cX12_meetings 2 = .ok (.iconst 0, 1) := by decide +kernel
theorem dX12_meetings_3 : decode cX12_meetings 3 = .ok (.istore_n 3, 1) := by decide +kernel
theorem dX12_meetings_4 : decode cX12_meetings 4 = .ok (.iconst 0, 1) := by decide +kernel
theorem dX12_meetings_5 : decode cX12_meetings 5 = .ok (.istore 4, 2) := by decide +kernel
theorem dX12_meetings_7 : decode cX12_meetings 7 = .ok (.iload 4, 2) := by decide +kernel
theorem dX12_meetings_9 : decode cX12_meetings 9 = .ok (.iconst 4, 1) := by decide +kernel
theorem dX12_meetings_10 : decode cX12_meetings 10 = .ok (.if_icmp .ge 54, 3) := by decide +kernel
theorem dX12_meetings_13 : decode cX12_meetings 13 = .ok (.aload_n 0, 1) := by decide +kernel
theorem dX12_meetings_14 : decode cX12_meetings 14 = .ok (.iload_n 1, 1) := by decide +kernel
theorem dX12_meetings_15 : decode cX12_meetings 15 = .ok (.iload 4, 2) := by decide +kernel
theorem dX12_meetings_17 : decode cX12_meetings 17 = .ok (.invokevirtual 347, 3) := by decide +kernel
theorem dX12_meetings_20 : decode cX12_meetings 20 = .ok (.istore 5, 2) := by decide +kernel
theorem dX12_meetings_22 : decode cX12_meetings 22 = .ok (.iload_n 2, 1) := by decide +kernel
theorem dX12_meetings_23 : decode cX12_meetings 23 = .ok (.iconst 1, 1) := by decide +kernel
theorem dX12_meetings_24 : decode cX12_meetings 24 = .ok (.iload 5, 2) := by decide +kernel
theorem dX12_meetings_26 : decode cX12_meetings 26 = .ok (.ishl, 1) := by decide +kernel
theorem dX12_meetings_27 : decode cX12_meetings 27 = .ok (.ior, 1) := by decide +kernel
theorem dX12_meetings_28 : decode cX12_meetings 28 = .ok (.istore_n 2, 1) := by decide +kernel
theorem dX12_meetings_29 : decode cX12_meetings 29 = .ok (.aload_n 0, 1) := by decide +kernel
theorem dX12_meetings_30 : decode cX12_meetings 30 = .ok (.getfield 62, 3) := by decide +kernel
theorem dX12_meetings_33 : decode cX12_meetings 33 = .ok (.iload 5, 2) := by decide +kernel
theorem dX12_meetings_35 : decode cX12_meetings 35 = .ok (.iaload, 1) := by decide +kernel
theorem dX12_meetings_36 : decode cX12_meetings 36 = .ok (.aload_n 0, 1) := by decide +kernel
theorem dX12_meetings_37 : decode cX12_meetings 37 = .ok (.iload_n 1, 1) := by decide +kernel
theorem dX12_meetings_38 : decode cX12_meetings 38 = .ok (.iload 4, 2) := by decide +kernel
theorem dX12_meetings_40 : decode cX12_meetings 40 = .ok (.iconst 3, 1) := by decide +kernel
theorem dX12_meetings_41 : decode cX12_meetings 41 = .ok (.iadd, 1) := by decide +kernel
theorem dX12_meetings_42 : decode cX12_meetings 42 = .ok (.iconst 4, 1) := by decide +kernel
theorem dX12_meetings_43 : decode cX12_meetings 43 = .ok (.irem, 1) := by decide +kernel
theorem dX12_meetings_44 : decode cX12_meetings 44 = .ok (.invokevirtual 347, 3) := by decide +kernel
theorem dX12_meetings_47 : decode cX12_meetings 47 = .ok (.ishr, 1) := by decide +kernel
theorem dX12_meetings_48 : decode cX12_meetings 48 = .ok (.iconst 1, 1) := by decide +kernel
theorem dX12_meetings_49 : decode cX12_meetings 49 = .ok (.iand, 1) := by decide +kernel
theorem dX12_meetings_50 : decode cX12_meetings 50 = .ok (.iconst 1, 1) := by decide +kernel
theorem dX12_meetings_51 : decode cX12_meetings 51 = .ok (.if_icmp .ne 7, 3) := by decide +kernel
theorem dX12_meetings_54 : decode cX12_meetings 54 = .ok (.iload_n 3, 1) := by decide +kernel
theorem dX12_meetings_55 : decode cX12_meetings 55 = .ok (.iconst 1, 1) := by decide +kernel
theorem dX12_meetings_56 : decode cX12_meetings 56 = .ok (.iadd, 1) := by decide +kernel
theorem dX12_meetings_57 : decode cX12_meetings 57 = .ok (.istore_n 3, 1) := by decide +kernel
theorem dX12_meetings_58 : decode cX12_meetings 58 = .ok (.iinc 4 1, 3) := by decide +kernel
theorem dX12_meetings_61 : decode cX12_meetings 61 = .ok (.goto (-54), 3) := by decide +kernel
theorem dX12_meetings_64 : decode cX12_meetings 64 = .ok (.aload_n 0, 1) := by decide +kernel
theorem dX12_meetings_65 : decode cX12_meetings 65 = .ok (.iload_n 2, 1) := by decide +kernel
theorem dX12_meetings_66 : decode cX12_meetings 66 = .ok (.invokevirtual 335, 3) := by decide +kernel
theorem dX12_meetings_69 : decode cX12_meetings 69 = .ok (.aload_n 0, 1) := by decide +kernel
theorem dX12_meetings_70 : decode cX12_meetings 70 = .ok (.getfield 135, 3) := by decide +kernel
theorem dX12_meetings_73 : decode cX12_meetings 73 = .ok (.if_icmp .ne 7, 3) := by decide +kernel
theorem dX12_meetings_76 : decode cX12_meetings 76 = .ok (.iload_n 3, 1) := by decide +kernel
theorem dX12_meetings_77 : decode cX12_meetings 77 = .ok (.goto 4, 3) := by decide +kernel
theorem dX12_meetings_80 : decode cX12_meetings 80 = .ok (.iconst (-1), 1) := by decide +kernel
theorem dX12_meetings_81 : decode cX12_meetings 81 = .ok (.ireturn, 1) := by decide +kernel
theorem dX12_peace_0 : decode cX12_peace 0 = .ok (.aload_n 0, 1) := by decide +kernel
theorem dX12_peace_1 : decode cX12_peace 1 = .ok (.iconst 0, 1) := by decide +kernel
theorem dX12_peace_2 : decode cX12_peace 2 = .ok (.putfield 120, 3) := by decide +kernel
theorem dX12_peace_5 : decode cX12_peace 5 = .ok (.aload_n 0, 1) := by decide +kernel
theorem dX12_peace_6 : decode cX12_peace 6 = .ok (.iload_n 1, 1) := by decide +kernel
theorem dX12_peace_7 : decode cX12_peace 7 = .ok (.invokevirtual 350, 3) := by decide +kernel
theorem dX12_peace_10 : decode cX12_peace 10 = .ok (.ifCond .ne 5, 3) := by decide +kernel
theorem dX12_peace_13 : decode cX12_peace 13 = .ok (.iconst (-1), 1) := by decide +kernel
theorem dX12_peace_14 : decode cX12_peace 14 = .ok (.ireturn, 1) := by decide +kernel
theorem dX12_peace_15 : decode cX12_peace 15 = .ok (.iconst (-1), 1) := by decide +kernel
theorem dX12_peace_16 : decode cX12_peace 16 = .ok (.istore_n 2, 1) := by decide +kernel
theorem dX12_peace_17 : decode cX12_peace 17 = .ok (.iconst 0, 1) := by decide +kernel
theorem dX12_peace_18 : decode cX12_peace 18 = .ok (.istore_n 3, 1) := by decide +kernel
theorem dX12_peace_19 : decode cX12_peace 19 = .ok (.iconst 0, 1) := by decide +kernel
theorem dX12_peace_20 : decode cX12_peace 20 = .ok (.istore 4, 2) := by decide +kernel
theorem dX12_peace_22 : decode cX12_peace 22 = .ok (.iload 4, 2) := by decide +kernel
theorem dX12_peace_24 : decode cX12_peace 24 = .ok (.aload_n 0, 1) := by decide +kernel
theorem dX12_peace_25 : decode cX12_peace 25 = .ok (.invokevirtual 344, 3) := by decide +kernel
theorem dX12_peace_28 : decode cX12_peace 28 = .ok (.if_icmp .ge 43, 3) := by decide +kernel
theorem dX12_peace_31 : decode cX12_peace 31 = .ok (.aload_n 0, 1) := by decide +kernel
theorem dX12_peace_32 : decode cX12_peace 32 = .ok (.iload 4, 2) := by decide +kernel
theorem dX12_peace_34 : decode cX12_peace 34 = .ok (.invokevirtual 356, 3) := by decide +kernel
theorem dX12_peace_37 : decode cX12_peace 37 = .ok (.istore 5, 2) := by decide +kernel
theorem dX12_peace_39 : decode cX12_peace 39 = .ok (.iload 5, 2) := by decide +kernel
theorem dX12_peace_41 : decode cX12_peace 41 = .ok (.iconst (-1), 1) := by decide +kernel
theorem dX12_peace_42 : decode cX12_peace 42 = .ok (.if_icmp .eq 23, 3) := by decide +kernel
theorem dX12_peace_45 : decode cX12_peace 45 = .ok (.iload_n 2, 1) := by decide +kernel
theorem dX12_peace_46 : decode cX12_peace 46 = .ok (.iconst (-1), 1) := by decide +kernel
theorem dX12_peace_47 : decode cX12_peace 47 = .ok (.if_icmp .eq 12, 3) := by decide +kernel
theorem dX12_peace_50 : decode cX12_peace 50 = .ok (.iload 5, 2) := by decide +kernel
theorem dX12_peace_52 : decode cX12_peace 52 = .ok (.iload_n 3, 1) := by decide +kernel
theorem dX12_peace_53 : decode cX12_peace 53 = .ok (.if_icmp .lt 6, 3) := by decide +kernel
theorem dX12_peace_56 : decode cX12_peace 56 = .ok (.goto 9, 3) := by decide +kernel
theorem dX12_peace_59 : decode cX12_peace 59 = .ok (.iload 4, 2) := by decide +kernel
theorem dX12_peace_61 : decode cX12_peace 61 = .ok (.istore_n 2, 1) := by decide +kernel
theorem dX12_peace_62 : decode cX12_peace 62 = .ok (.iload 5, 2) := by decide +kernel
theorem dX12_peace_64 : decode cX12_peace 64 = .ok (.istore_n 3, 1) := by decide +kernel
theorem dX12_peace_65 : decode cX12_peace 65 = .ok (.iinc 4 1, 3) := by decide +kernel
theorem dX12_peace_68 : decode cX12_peace 68 = .ok (.goto (-46), 3) := by decide +kernel
theorem dX12_peace_71 : decode cX12_peace 71 = .ok (.iload_n 1, 1) := by decide +kernel
theorem dX12_peace_72 : decode cX12_peace 72 = .ok (.ifCond .ne 7, 3) := by decide +kernel
theorem dX12_peace_75 : decode cX12_peace 75 = .ok (.iload_n 3, 1) := by decide +kernel
theorem dX12_peace_76 : decode cX12_peace 76 = .ok (.goto 12, 3) := by decide +kernel
theorem dX12_peace_79 : decode cX12_peace 79 = .ok (.aload_n 0, 1) := by decide +kernel
theorem dX12_peace_80 : decode cX12_peace 80 = .ok (.iload_n 2, 1) := by decide +kernel
theorem dX12_peace_81 : decode cX12_peace 81 = .ok (.iload_n 1, 1) := by decide +kernel
theorem dX12_peace_82 : decode cX12_peace 82 = .ok (.bipush 10, 2) := by decide +kernel
theorem dX12_peace_84 : decode cX12_peace 84 = .ok (.isub, 1) := by decide +kernel
theorem dX12_peace_85 : decode cX12_peace 85 = .ok (.invokevirtual 347, 3) := by decide +kernel
theorem dX12_peace_88 : decode cX12_peace 88 = .ok (.ireturn, 1) := by decide +kernel
theorem dX12_log_0 : decode cX12_log 0 = .ok (.aload_n 0, 1) := by decide +kernel
theorem dX12_log_1 : decode cX12_log 1 = .ok (.iconst 0, 1) := by decide +kernel
theorem dX12_log_2 : decode cX12_log 2 = .ok (.putfield 120, 3) := by decide +kernel
theorem dX12_log_5 : decode cX12_log 5 = .ok (.aload_n 0, 1) := by decide +kernel
theorem dX12_log_6 : decode cX12_log 6 = .ok (.iload_n 1, 1) := by decide +kernel
theorem dX12_log_7 : decode cX12_log 7 = .ok (.invokevirtual 163, 3) := by decide +kernel
theorem dX12_log_10 : decode cX12_log 10 = .ok (.ifCond .eq 23, 3) := by decide +kernel
theorem dX12_log_13 : decode cX12_log 13 = .ok (.aload_n 0, 1) := by decide +kernel
theorem dX12_log_14 : decode cX12_log 14 = .ok (.iload_n 2, 1) := by decide +kernel
theorem dX12_log_15 : decode cX12_log 15 = .ok (.iconst 0, 1) := by decide +kernel
theorem dX12_log_16 : decode cX12_log 16 = .ok (.bipush 60, 2) := by decide +kernel
theorem dX12_log_18 : decode cX12_log 18 = .ok (.invokevirtual 138, 3) := by decide +kernel
theorem dX12_log_21 : decode cX12_log 21 = .ok (.ifCond .eq 12, 3) := by decide +kernel
theorem dX12_log_24 : decode cX12_log 24 = .ok (.aload_n 0, 1) := by decide +kernel
theorem dX12_log_25 : decode cX12_log 25 = .ok (.getfield 151, 3) := by decide +kernel
theorem dX12_log_28 : decode cX12_log 28 = .ok (.bipush 40, 2) := by decide +kernel
theorem dX12_log_30 : decode cX12_log 30 = .ok (.if_icmp .ne 5, 3) := by decide +kernel
theorem dX12_log_33 : decode cX12_log 33 = .ok (.iconst 0, 1) := by decide +kernel
theorem dX12_log_34 : decode cX12_log 34 = .ok (.ireturn, 1) := by decide +kernel
theorem dX12_log_35 : decode cX12_log 35 = .ok (.aload_n 0, 1) := by decide +kernel
theorem dX12_log_36 : decode cX12_log 36 = .ok (.getfield 65, 3) := by decide +kernel
theorem dX12_log_39 : decode cX12_log 39 = .ok (.aload_n 0, 1) := by decide +kernel
theorem dX12_log_40 : decode cX12_log 40 = .ok (.getfield 151, 3) := by decide +kernel
theorem dX12_log_43 : decode cX12_log 43 = .ok (.iload_n 1, 1) := by decide +kernel
theorem dX12_log_44 : decode cX12_log 44 = .ok (.iastore, 1) := by decide +kernel
theorem dX12_log_45 : decode cX12_log 45 = .ok (.aload_n 0, 1) := by decide +kernel
theorem dX12_log_46 : decode cX12_log 46 = .ok (.getfield 68, 3) := by decide +kernel
theorem dX12_log_49 : decode cX12_log 49 = .ok (.aload_n 0, 1) := by decide +kernel
theorem dX12_log_50 : decode cX12_log 50 = .ok (.getfield 151, 3) := by decide +kernel
theorem dX12_log_53 : decode cX12_log 53 = .ok (.iload_n 2, 1) := by decide +kernel
theorem dX12_log_54 : decode cX12_log 54 = .ok (.iastore, 1) := by decide +kernel
theorem dX12_log_55 : decode cX12_log 55 = .ok (.aload_n 0, 1) := by decide +kernel
theorem dX12_log_56 : decode cX12_log 56 = .ok (.aload_n 0, 1) := by decide +kernel
theorem dX12_log_57 : decode cX12_log 57 = .ok (.getfield 151, 3) := by decide +kernel
theorem dX12_log_60 : decode cX12_log 60 = .ok (.iconst 1, 1) := by decide +kernel
theorem dX12_log_61 : decode cX12_log 61 = .ok (.iadd, 1) := by decide +kernel
theorem dX12_log_62 : decode cX12_log 62 = .ok (.putfield 151, 3) := by decide +kernel
theorem dX12_log_65 : decode cX12_log 65 = .ok (.iconst 1, 1) := by decide +kernel
theorem dX12_log_66 : decode cX12_log 66 = .ok (.ireturn, 1) := by decide +kernel
theorem dX12_slow_0 : decode cX12_slow 0 = .ok (.aload_n 0, 1) := by decide +kernel
theorem dX12_slow_1 : decode cX12_slow 1 = .ok (.iconst 0, 1) := by decide +kernel
theorem dX12_slow_2 : decode cX12_slow 2 = .ok (.putfield 120, 3) := by decide +kernel
theorem dX12_slow_5 : decode cX12_slow 5 = .ok (.aload_n 0, 1) := by decide +kernel
theorem dX12_slow_6 : decode cX12_slow 6 = .ok (.iload_n 1, 1) := by decide +kernel
theorem dX12_slow_7 : decode cX12_slow 7 = .ok (.invokevirtual 163, 3) := by decide +kernel
theorem dX12_slow_10 : decode cX12_slow 10 = .ok (.ifCond .eq 13, 3) := by decide +kernel
theorem dX12_slow_13 : decode cX12_slow 13 = .ok (.aload_n 0, 1) := by decide +kernel
theorem dX12_slow_14 : decode cX12_slow 14 = .ok (.iload_n 2, 1) := by decide +kernel
theorem dX12_slow_15 : decode cX12_slow 15 = .ok (.iconst 0, 1) := by decide +kernel
theorem dX12_slow_16 : decode cX12_slow 16 = .ok (.iconst 1, 1) := by decide +kernel
theorem dX12_slow_17 : decode cX12_slow 17 = .ok (.invokevirtual 138, 3) := by decide +kernel
theorem dX12_slow_20 : decode cX12_slow 20 = .ok (.ifCond .ne 5, 3) := by decide +kernel
theorem dX12_slow_23 : decode cX12_slow 23 = .ok (.iconst (-1), 1) := by decide +kernel
theorem dX12_slow_24 : decode cX12_slow 24 = .ok (.ireturn, 1) := by decide +kernel
theorem dX12_slow_25 : decode cX12_slow 25 = .ok (.aload_n 0, 1) := by decide +kernel
theorem dX12_slow_26 : decode cX12_slow 26 = .ok (.iload_n 1, 1) := by decide +kernel
theorem dX12_slow_27 : decode cX12_slow 27 = .ok (.iconst 0, 1) := by decide +kernel
theorem dX12_slow_28 : decode cX12_slow 28 = .ok (.invokevirtual 313, 3) := by decide +kernel
theorem dX12_slow_31 : decode cX12_slow 31 = .ok (.aload_n 0, 1) := by decide +kernel
theorem dX12_slow_32 : decode cX12_slow 32 = .ok (.getfield 32, 3) := by decide +kernel
theorem dX12_slow_35 : decode cX12_slow 35 = .ok (.iload_n 1, 1) := by decide +kernel
theorem dX12_slow_36 : decode cX12_slow 36 = .ok (.iaload, 1) := by decide +kernel
theorem dX12_slow_37 : decode cX12_slow 37 = .ok (.iadd, 1) := by decide +kernel
theorem dX12_slow_38 : decode cX12_slow 38 = .ok (.istore_n 3, 1) := by decide +kernel
theorem dX12_slow_39 : decode cX12_slow 39 = .ok (.iconst 0, 1) := by decide +kernel
theorem dX12_slow_40 : decode cX12_slow 40 = .ok (.istore 4, 2) := by decide +kernel
theorem dX12_slow_42 : decode cX12_slow 42 = .ok (.bipush 60, 2) := by decide +kernel
theorem dX12_slow_44 : decode cX12_slow 44 = .ok (.istore 5, 2) := by decide +kernel
theorem dX12_slow_46 : decode cX12_slow 46 = .ok (.iconst 0, 1) := by decide +kernel
theorem dX12_slow_47 : decode cX12_slow 47 = .ok (.istore 6, 2) := by decide +kernel
theorem dX12_slow_49 : decode cX12_slow 49 = .ok (.iload 6, 2) := by decide +kernel
theorem dX12_slow_51 : decode cX12_slow 51 = .ok (.aload_n 0, 1) := by decide +kernel
theorem dX12_slow_52 : decode cX12_slow 52 = .ok (.getfield 151, 3) := by decide +kernel
theorem dX12_slow_55 : decode cX12_slow 55 = .ok (.if_icmp .ge 76, 3) := by decide +kernel
theorem dX12_slow_58 : decode cX12_slow 58 = .ok (.aload_n 0, 1) := by decide +kernel
theorem dX12_slow_59 : decode cX12_slow 59 = .ok (.getfield 65, 3) := by decide +kernel
theorem dX12_slow_62 : decode cX12_slow 62 = .ok (.iload 6, 2) := by decide +kernel
theorem dX12_slow_64 : decode cX12_slow 64 = .ok (.iaload, 1) := by decide +kernel
theorem dX12_slow_65 : decode cX12_slow 65 = .ok (.iload_n 1, 1) := by decide +kernel
theorem dX12_slow_66 : decode cX12_slow 66 = .ok (.if_icmp .eq 6, 3) := by decide +kernel
theorem dX12_slow_69 : decode cX12_slow 69 = .ok (.goto 56, 3) := by decide +kernel
theorem dX12_slow_72 : decode cX12_slow 72 = .ok (.iload_n 3, 1) := by decide +kernel
theorem dX12_slow_73 : decode cX12_slow 73 = .ok (.aload_n 0, 1) := by decide +kernel
theorem dX12_slow_74 : decode cX12_slow 74 = .ok (.getfield 68, 3) := by decide +kernel
theorem dX12_slow_77 : decode cX12_slow 77 = .ok (.iload 6, 2) := by decide +kernel
theorem dX12_slow_79 : decode cX12_slow 79 = .ok (.iaload, 1) := by decide +kernel
theorem dX12_slow_80 : decode cX12_slow 80 = .ok (.isub, 1) := by decide +kernel
theorem dX12_slow_81 : decode cX12_slow 81 = .ok (.istore 7, 2) := by decide +kernel
theorem dX12_slow_83 : decode cX12_slow 83 = .ok (.iload 7, 2) := by decide +kernel
theorem dX12_slow_85 : decode cX12_slow 85 = .ok (.iload 4, 2) := by decide +kernel
theorem dX12_slow_87 : decode cX12_slow 87 = .ok (.if_icmp .le 8, 3) := by decide +kernel
theorem dX12_slow_90 : decode cX12_slow 90 = .ok (.iload 7, 2) := by decide +kernel
theorem dX12_slow_92 : decode cX12_slow 92 = .ok (.goto 5, 3) := by decide +kernel
theorem dX12_slow_95 : decode cX12_slow 95 = .ok (.iload 4, 2) := by decide +kernel
theorem dX12_slow_97 : decode cX12_slow 97 = .ok (.istore 4, 2) := by decide +kernel
theorem dX12_slow_99 : decode cX12_slow 99 = .ok (.aload_n 0, 1) := by decide +kernel
theorem dX12_slow_100 : decode cX12_slow 100 = .ok (.getfield 68, 3) := by decide +kernel
theorem dX12_slow_103 : decode cX12_slow 103 = .ok (.iload 6, 2) := by decide +kernel
theorem dX12_slow_105 : decode cX12_slow 105 = .ok (.iaload, 1) := by decide +kernel
theorem dX12_slow_106 : decode cX12_slow 106 = .ok (.ifCond .le 15, 3) := by decide +kernel
theorem dX12_slow_109 : decode cX12_slow 109 = .ok (.iload 7, 2) := by decide +kernel
theorem dX12_slow_111 : decode cX12_slow 111 = .ok (.iload 5, 2) := by decide +kernel
theorem dX12_slow_113 : decode cX12_slow 113 = .ok (.if_icmp .ge 8, 3) := by decide +kernel
theorem dX12_slow_116 : decode cX12_slow 116 = .ok (.iload 7, 2) := by decide +kernel
theorem dX12_slow_118 : decode cX12_slow 118 = .ok (.goto 5, 3) := by decide +kernel
theorem dX12_slow_121 : decode cX12_slow 121 = .ok (.iload 5, 2) := by decide +kernel
theorem dX12_slow_123 : decode cX12_slow 123 = .ok (.istore 5, 2) := by decide +kernel
theorem dX12_slow_125 : decode cX12_slow 125 = .ok (.iinc 6 1, 3) := by decide +kernel
theorem dX12_slow_128 : decode cX12_slow 128 = .ok (.goto (-79), 3) := by decide +kernel
theorem dX12_slow_131 : decode cX12_slow 131 = .ok (.iload 4, 2) := by decide +kernel
theorem dX12_slow_133 : decode cX12_slow 133 = .ok (.iload 5, 2) := by decide +kernel
theorem dX12_slow_135 : decode cX12_slow 135 = .ok (.if_icmp .le 7, 3) := by decide +kernel
theorem dX12_slow_138 : decode cX12_slow 138 = .ok (.iconst (-1), 1) := by decide +kernel
theorem dX12_slow_139 : decode cX12_slow 139 = .ok (.goto 14, 3) := by decide +kernel
theorem dX12_slow_142 : decode cX12_slow 142 = .ok (.iload_n 2, 1) := by decide +kernel
theorem dX12_slow_143 : decode cX12_slow 143 = .ok (.ifCond .ne 8, 3) := by decide +kernel
theorem dX12_slow_146 : decode cX12_slow 146 = .ok (.iload 4, 2) := by decide +kernel
theorem dX12_slow_148 : decode cX12_slow 148 = .ok (.goto 5, 3) := by decide +kernel
theorem dX12_slow_151 : decode cX12_slow 151 = .ok (.iload 5, 2) := by decide +kernel
theorem dX12_slow_153 : decode cX12_slow 153 = .ok (.ireturn, 1) := by decide +kernel
theorem dX12_lasts_0 : decode cX12_lasts 0 = .ok (.aload_n 0, 1) := by decide +kernel
theorem dX12_lasts_1 : decode cX12_lasts 1 = .ok (.getfield 7, 3) := by decide +kernel
theorem dX12_lasts_4 : decode cX12_lasts 4 = .ok (.sipush 152, 3) := by decide +kernel
theorem dX12_lasts_7 : decode cX12_lasts 7 = .ok (.iload_n 1, 1) := by decide +kernel
theorem dX12_lasts_8 : decode cX12_lasts 8 = .ok (.iadd, 1) := by decide +kernel
theorem dX12_lasts_9 : decode cX12_lasts 9 = .ok (.iaload, 1) := by decide +kernel
theorem dX12_lasts_10 : decode cX12_lasts 10 = .ok (.ifCond .ne 5, 3) := by decide +kernel
theorem dX12_lasts_13 : decode cX12_lasts 13 = .ok (.iconst 0, 1) := by decide +kernel
theorem dX12_lasts_14 : decode cX12_lasts 14 = .ok (.ireturn, 1) := by decide +kernel
theorem dX12_lasts_15 : decode cX12_lasts 15 = .ok (.aload_n 0, 1) := by decide +kernel
theorem dX12_lasts_16 : decode cX12_lasts 16 = .ok (.getfield 47, 3) := by decide +kernel
theorem dX12_lasts_19 : decode cX12_lasts 19 = .ok (.iload_n 1, 1) := by decide +kernel
theorem dX12_lasts_20 : decode cX12_lasts 20 = .ok (.iaload, 1) := by decide +kernel
theorem dX12_lasts_21 : decode cX12_lasts 21 = .ok (.ifCond .ne 7, 3) := by decide +kernel
theorem dX12_lasts_24 : decode cX12_lasts 24 = .ok (.iconst (-1), 1) := by decide +kernel
theorem dX12_lasts_25 : decode cX12_lasts 25 = .ok (.goto 29, 3) := by decide +kernel
theorem dX12_lasts_28 : decode cX12_lasts 28 = .ok (.aload_n 0, 1) := by decide +kernel
theorem dX12_lasts_29 : decode cX12_lasts 29 = .ok (.getfield 7, 3) := by decide +kernel
theorem dX12_lasts_32 : decode cX12_lasts 32 = .ok (.sipush 152, 3) := by decide +kernel
theorem dX12_lasts_35 : decode cX12_lasts 35 = .ok (.iload_n 1, 1) := by decide +kernel
theorem dX12_lasts_36 : decode cX12_lasts 36 = .ok (.iadd, 1) := by decide +kernel
theorem dX12_lasts_37 : decode cX12_lasts 37 = .ok (.iaload, 1) := by decide +kernel
theorem dX12_lasts_38 : decode cX12_lasts 38 = .ok (.aload_n 0, 1) := by decide +kernel
theorem dX12_lasts_39 : decode cX12_lasts 39 = .ok (.getfield 47, 3) := by decide +kernel
theorem dX12_lasts_42 : decode cX12_lasts 42 = .ok (.iload_n 1, 1) := by decide +kernel
theorem dX12_lasts_43 : decode cX12_lasts 43 = .ok (.iaload, 1) := by decide +kernel
theorem dX12_lasts_44 : decode cX12_lasts 44 = .ok (.iadd, 1) := by decide +kernel
theorem dX12_lasts_45 : decode cX12_lasts 45 = .ok (.iconst 1, 1) := by decide +kernel
theorem dX12_lasts_46 : decode cX12_lasts 46 = .ok (.isub, 1) := by decide +kernel
theorem dX12_lasts_47 : decode cX12_lasts 47 = .ok (.aload_n 0, 1) := by decide +kernel
theorem dX12_lasts_48 : decode cX12_lasts 48 = .ok (.getfield 47, 3) := by decide +kernel
theorem dX12_lasts_51 : decode cX12_lasts 51 = .ok (.iload_n 1, 1) := by decide +kernel
theorem dX12_lasts_52 : decode cX12_lasts 52 = .ok (.iaload, 1) := by decide +kernel
theorem dX12_lasts_53 : decode cX12_lasts 53 = .ok (.idiv, 1) := by decide +kernel
theorem dX12_lasts_54 : decode cX12_lasts 54 = .ok (.ireturn, 1) := by decide +kernel
theorem dX12_breaks_0 : decode cX12_breaks 0 = .ok (.aload_n 0, 1) := by decide +kernel
theorem dX12_breaks_1 : decode cX12_breaks 1 = .ok (.iconst 0, 1) := by decide +kernel
theorem dX12_breaks_2 : decode cX12_breaks 2 = .ok (.putfield 120, 3) := by decide +kernel
theorem dX12_breaks_5 : decode cX12_breaks 5 = .ok (.aload_n 0, 1) := by decide +kernel
theorem dX12_breaks_6 : decode cX12_breaks 6 = .ok (.iload_n 1, 1) := by decide +kernel
theorem dX12_breaks_7 : decode cX12_breaks 7 = .ok (.iconst 1, 1) := by decide +kernel
theorem dX12_breaks_8 : decode cX12_breaks 8 = .ok (.ldc 176, 2) := by decide +kernel
theorem dX12_breaks_10 : decode cX12_breaks 10 = .ok (.invokevirtual 138, 3) := by decide +kernel
theorem dX12_breaks_13 : decode cX12_breaks 13 = .ok (.ifCond .ne 5, 3) := by decide +kernel
theorem dX12_breaks_16 : decode cX12_breaks 16 = .ok (.iconst (-1), 1) := by decide +kernel
theorem dX12_breaks_17 : decode cX12_breaks 17 = .ok (.ireturn, 1) := by decide +kernel
theorem dX12_breaks_18 : decode cX12_breaks 18 = .ok (.iconst (-1), 1) := by decide +kernel
theorem dX12_breaks_19 : decode cX12_breaks 19 = .ok (.istore_n 2, 1) := by decide +kernel
theorem dX12_breaks_20 : decode cX12_breaks 20 = .ok (.iconst 0, 1) := by decide +kernel
theorem dX12_breaks_21 : decode cX12_breaks 21 = .ok (.istore_n 3, 1) := by decide +kernel
theorem dX12_breaks_22 : decode cX12_breaks 22 = .ok (.iload_n 3, 1) := by decide +kernel
theorem dX12_breaks_23 : decode cX12_breaks 23 = .ok (.aload_n 0, 1) := by decide +kernel
theorem dX12_breaks_24 : decode cX12_breaks 24 = .ok (.getfield 145, 3) := by decide +kernel
theorem dX12_breaks_27 : decode cX12_breaks 27 = .ok (.if_icmp .ge 43, 3) := by decide +kernel
theorem dX12_breaks_30 : decode cX12_breaks 30 = .ok (.aload_n 0, 1) := by decide +kernel
theorem dX12_breaks_31 : decode cX12_breaks 31 = .ok (.aload_n 0, 1) := by decide +kernel
theorem dX12_breaks_32 : decode cX12_breaks 32 = .ok (.iload_n 3, 1) := by decide +kernel
theorem dX12_breaks_33 : decode cX12_breaks 33 = .ok (.invokevirtual 359, 3) := by decide +kernel
theorem dX12_breaks_36 : decode cX12_breaks 36 = .ok (.iconst 0, 1) := by decide +kernel
theorem dX12_breaks_37 : decode cX12_breaks 37 = .ok (.iload_n 1, 1) := by decide +kernel
theorem dX12_breaks_38 : decode cX12_breaks 38 = .ok (.invokevirtual 138, 3) := by decide +kernel
theorem dX12_breaks_41 : decode cX12_breaks 41 = .ok (.ifCond .eq 23, 3) := by decide +kernel
theorem dX12_breaks_44 : decode cX12_breaks 44 = .ok (.iload_n 2, 1) := by decide +kernel
theorem dX12_breaks_45 : decode cX12_breaks 45 = .ok (.iconst (-1), 1) := by decide +kernel
theorem dX12_breaks_46 : decode cX12_breaks 46 = .ok (.if_icmp .eq 16, 3) := by decide +kernel
theorem dX12_breaks_49 : decode cX12_breaks 49 = .ok (.aload_n 0, 1) := by decide +kernel
theorem dX12_breaks_50 : decode cX12_breaks 50 = .ok (.iload_n 3, 1) := by decide +kernel
theorem dX12_breaks_51 : decode cX12_breaks 51 = .ok (.invokevirtual 359, 3) := by decide +kernel
theorem dX12_breaks_54 : decode cX12_breaks 54 = .ok (.aload_n 0, 1) := by decide +kernel
theorem dX12_breaks_55 : decode cX12_breaks 55 = .ok (.iload_n 2, 1) := by decide +kernel
theorem dX12_breaks_56 : decode cX12_breaks 56 = .ok (.invokevirtual 359, 3) := by decide +kernel
theorem dX12_breaks_59 : decode cX12_breaks 59 = .ok (.if_icmp .ge 5, 3) := by decide +kernel
theorem dX12_breaks_62 : decode cX12_breaks 62 = .ok (.iload_n 3, 1) := by decide +kernel
theorem dX12_breaks_63 : decode cX12_breaks 63 = .ok (.istore_n 2, 1) := by decide +kernel
theorem dX12_breaks_64 : decode cX12_breaks 64 = .ok (.iinc 3 1, 3) := by decide +kernel
theorem dX12_breaks_67 : decode cX12_breaks 67 = .ok (.goto (-45), 3) := by decide +kernel
theorem dX12_breaks_70 : decode cX12_breaks 70 = .ok (.iload_n 2, 1) := by decide +kernel
theorem dX12_breaks_71 : decode cX12_breaks 71 = .ok (.ireturn, 1) := by decide +kernel
theorem dX12_lasting_0 : decode cX12_lasting 0 = .ok (.aload_n 0, 1) := by decide +kernel
theorem dX12_lasting_1 : decode cX12_lasting 1 = .ok (.iconst 0, 1) := by decide +kernel
theorem dX12_lasting_2 : decode cX12_lasting 2 = .ok (.putfield 120, 3) := by decide +kernel
theorem dX12_lasting_5 : decode cX12_lasting 5 = .ok (.aload_n 0, 1) := by decide +kernel
theorem dX12_lasting_6 : decode cX12_lasting 6 = .ok (.iload_n 1, 1) := by decide +kernel
theorem dX12_lasting_7 : decode cX12_lasting 7 = .ok (.iconst 1, 1) := by decide +kernel
theorem dX12_lasting_8 : decode cX12_lasting 8 = .ok (.ldc 176, 2) := by decide +kernel
theorem dX12_lasting_10 : decode cX12_lasting 10 = .ok (.invokevirtual 138, 3) := by decide +kernel
theorem dX12_lasting_13 : decode cX12_lasting 13 = .ok (.ifCond .eq 13, 3) := by decide +kernel
theorem dX12_lasting_16 : decode cX12_lasting 16 = .ok (.aload_n 0, 1) := by decide +kernel
theorem dX12_lasting_17 : decode cX12_lasting 17 = .ok (.iload_n 2, 1) := by decide +kernel
theorem dX12_lasting_18 : decode cX12_lasting 18 = .ok (.iconst 0, 1) := by decide +kernel
theorem dX12_lasting_19 : decode cX12_lasting 19 = .ok (.iconst 1, 1) := by decide +kernel
theorem dX12_lasting_20 : decode cX12_lasting 20 = .ok (.invokevirtual 138, 3) := by decide +kernel
theorem dX12_lasting_23 : decode cX12_lasting 23 = .ok (.ifCond .ne 5, 3) := by decide +kernel
theorem dX12_lasting_26 : decode cX12_lasting 26 = .ok (.iconst (-1), 1) := by decide +kernel
theorem dX12_lasting_27 : decode cX12_lasting 27 = .ok (.ireturn, 1) := by decide +kernel
theorem dX12_lasting_28 : decode cX12_lasting 28 = .ok (.iconst 0, 1) := by decide +kernel
theorem dX12_lasting_29 : decode cX12_lasting 29 = .ok (.istore_n 3, 1) := by decide +kernel
theorem dX12_lasting_30 : decode cX12_lasting 30 = .ok (.iconst 0, 1) := by decide +kernel
theorem dX12_lasting_31 : decode cX12_lasting 31 = .ok (.istore 4, 2) := by decide +kernel
theorem dX12_lasting_33 : decode cX12_lasting 33 = .ok (.iconst 0, 1) := by decide +kernel
theorem dX12_lasting_34 : decode cX12_lasting 34 = .ok (.istore 5, 2) := by decide +kernel
theorem dX12_lasting_36 : decode cX12_lasting 36 = .ok (.iload 5, 2) := by decide +kernel
theorem dX12_lasting_38 : decode cX12_lasting 38 = .ok (.aload_n 0, 1) := by decide +kernel
theorem dX12_lasting_39 : decode cX12_lasting 39 = .ok (.getfield 145, 3) := by decide +kernel
theorem dX12_lasting_42 : decode cX12_lasting 42 = .ok (.if_icmp .ge 46, 3) := by decide +kernel
theorem dX12_lasting_45 : decode cX12_lasting 45 = .ok (.aload_n 0, 1) := by decide +kernel
theorem dX12_lasting_46 : decode cX12_lasting 46 = .ok (.aload_n 0, 1) := by decide +kernel
theorem dX12_lasting_47 : decode cX12_lasting 47 = .ok (.iload 5, 2) := by decide +kernel
theorem dX12_lasting_49 : decode cX12_lasting 49 = .ok (.invokevirtual 359, 3) := by decide +kernel
theorem dX12_lasting_52 : decode cX12_lasting 52 = .ok (.iconst 0, 1) := by decide +kernel
theorem dX12_lasting_53 : decode cX12_lasting 53 = .ok (.iload_n 1, 1) := by decide +kernel
theorem dX12_lasting_54 : decode cX12_lasting 54 = .ok (.invokevirtual 138, 3) := by decide +kernel
theorem dX12_lasting_57 : decode cX12_lasting 57 = .ok (.ifCond .ne 6, 3) := by decide +kernel
theorem dX12_lasting_60 : decode cX12_lasting 60 = .ok (.goto 22, 3) := by decide +kernel
theorem dX12_lasting_63 : decode cX12_lasting 63 = .ok (.iload_n 3, 1) := by decide +kernel
theorem dX12_lasting_64 : decode cX12_lasting 64 = .ok (.aload_n 0, 1) := by decide +kernel
theorem dX12_lasting_65 : decode cX12_lasting 65 = .ok (.getfield 50, 3) := by decide +kernel
theorem dX12_lasting_68 : decode cX12_lasting 68 = .ok (.iload 5, 2) := by decide +kernel
theorem dX12_lasting_70 : decode cX12_lasting 70 = .ok (.iaload, 1) := by decide +kernel
theorem dX12_lasting_71 : decode cX12_lasting 71 = .ok (.iadd, 1) := by decide +kernel
theorem dX12_lasting_72 : decode cX12_lasting 72 = .ok (.istore_n 3, 1) := by decide +kernel
theorem dX12_lasting_73 : decode cX12_lasting 73 = .ok (.iload 4, 2) := by decide +kernel
theorem dX12_lasting_75 : decode cX12_lasting 75 = .ok (.iconst 1, 1) := by decide +kernel
theorem dX12_lasting_76 : decode cX12_lasting 76 = .ok (.iload 5, 2) := by decide +kernel
theorem dX12_lasting_78 : decode cX12_lasting 78 = .ok (.ishl, 1) := by decide +kernel
theorem dX12_lasting_79 : decode cX12_lasting 79 = .ok (.ior, 1) := by decide +kernel
theorem dX12_lasting_80 : decode cX12_lasting 80 = .ok (.istore 4, 2) := by decide +kernel
theorem dX12_lasting_82 : decode cX12_lasting 82 = .ok (.iinc 5 1, 3) := by decide +kernel
theorem dX12_lasting_85 : decode cX12_lasting 85 = .ok (.goto (-49), 3) := by decide +kernel
theorem dX12_lasting_88 : decode cX12_lasting 88 = .ok (.iload_n 2, 1) := by decide +kernel
theorem dX12_lasting_89 : decode cX12_lasting 89 = .ok (.ifCond .ne 7, 3) := by decide +kernel
theorem dX12_lasting_92 : decode cX12_lasting 92 = .ok (.iload_n 3, 1) := by decide +kernel
theorem dX12_lasting_93 : decode cX12_lasting 93 = .ok (.goto 5, 3) := by decide +kernel
theorem dX12_lasting_96 : decode cX12_lasting 96 = .ok (.iload 4, 2) := by decide +kernel
theorem dX12_lasting_98 : decode cX12_lasting 98 = .ok (.ireturn, 1) := by decide +kernel
theorem dX12_kept_0 : decode cX12_kept 0 = .ok (.aload_n 0, 1) := by decide +kernel
theorem dX12_kept_1 : decode cX12_kept 1 = .ok (.aload_n 0, 1) := by decide +kernel
theorem dX12_kept_2 : decode cX12_kept 2 = .ok (.getfield 362, 3) := by decide +kernel
theorem dX12_kept_5 : decode cX12_kept 5 = .ok (.iconst 1, 1) := by decide +kernel
theorem dX12_kept_6 : decode cX12_kept 6 = .ok (.iadd, 1) := by decide +kernel
theorem dX12_kept_7 : decode cX12_kept 7 = .ok (.putfield 362, 3) := by decide +kernel
theorem dX12_kept_10 : decode cX12_kept 10 = .ok (.aload_n 0, 1) := by decide +kernel
theorem dX12_kept_11 : decode cX12_kept 11 = .ok (.getfield 365, 3) := by decide +kernel
theorem dX12_kept_14 : decode cX12_kept 14 = .ok (.ifCond .ne 15, 3) := by decide +kernel
theorem dX12_kept_17 : decode cX12_kept 17 = .ok (.aload_n 0, 1) := by decide +kernel
theorem dX12_kept_18 : decode cX12_kept 18 = .ok (.getfield 117, 3) := by decide +kernel
theorem dX12_kept_21 : decode cX12_kept 21 = .ok (.aload_n 0, 1) := by decide +kernel
theorem dX12_kept_22 : decode cX12_kept 22 = .ok (.getfield 362, 3) := by decide +kernel
theorem dX12_kept_25 : decode cX12_kept 25 = .ok (.iconst 1, 1) := by decide +kernel
theorem dX12_kept_26 : decode cX12_kept 26 = .ok (.isub, 1) := by decide +kernel
theorem dX12_kept_27 : decode cX12_kept 27 = .ok (.iaload, 1) := by decide +kernel
theorem dX12_kept_28 : decode cX12_kept 28 = .ok (.ireturn, 1) := by decide +kernel
theorem dX12_kept_29 : decode cX12_kept 29 = .ok (.aload_n 0, 1) := by decide +kernel
theorem dX12_kept_30 : decode cX12_kept 30 = .ok (.getfield 117, 3) := by decide +kernel
theorem dX12_kept_33 : decode cX12_kept 33 = .ok (.aload_n 0, 1) := by decide +kernel
theorem dX12_kept_34 : decode cX12_kept 34 = .ok (.getfield 362, 3) := by decide +kernel
theorem dX12_kept_37 : decode cX12_kept 37 = .ok (.iconst 1, 1) := by decide +kernel
theorem dX12_kept_38 : decode cX12_kept 38 = .ok (.isub, 1) := by decide +kernel
theorem dX12_kept_39 : decode cX12_kept 39 = .ok (.iload_n 1, 1) := by decide +kernel
theorem dX12_kept_40 : decode cX12_kept 40 = .ok (.iastore, 1) := by decide +kernel
theorem dX12_kept_41 : decode cX12_kept 41 = .ok (.iload_n 1, 1) := by decide +kernel
theorem dX12_kept_42 : decode cX12_kept 42 = .ok (.ireturn, 1) := by decide +kernel
theorem dX12_keepsLaw_0 : decode cX12_keepsLaw 0 = .ok (.aload_n 0, 1) := by decide +kernel
theorem dX12_keepsLaw_1 : decode cX12_keepsLaw 1 = .ok (.aload_n 0, 1) := by decide +kernel
theorem dX12_keepsLaw_2 : decode cX12_keepsLaw 2 = .ok (.aload_n 0, 1) := by decide +kernel
theorem dX12_keepsLaw_3 : decode cX12_keepsLaw 3 = .ok (.getfield 160, 3) := by decide +kernel
theorem dX12_keepsLaw_6 : decode cX12_keepsLaw 6 = .ok (.invokevirtual 369, 3) := by decide +kernel
theorem dX12_keepsLaw_9 : decode cX12_keepsLaw 9 = .ok (.putfield 160, 3) := by decide +kernel
theorem dX12_keepsLaw_12 : decode cX12_keepsLaw 12 = .ok (.iconst 0, 1) := by decide +kernel
theorem dX12_keepsLaw_13 : decode cX12_keepsLaw 13 = .ok (.istore_n 1, 1) := by decide +kernel
theorem dX12_keepsLaw_14 : decode cX12_keepsLaw 14 = .ok (.iload_n 1, 1) := by decide +kernel
theorem dX12_keepsLaw_15 : decode cX12_keepsLaw 15 = .ok (.bipush 16, 2) := by decide +kernel
theorem dX12_keepsLaw_17 : decode cX12_keepsLaw 17 = .ok (.if_icmp .ge 57, 3) := by decide +kernel
theorem dX12_keepsLaw_20 : decode cX12_keepsLaw 20 = .ok (.aload_n 0, 1) := by decide +kernel
theorem dX12_keepsLaw_21 : decode cX12_keepsLaw 21 = .ok (.getfield 80, 3) := by decide +kernel
theorem dX12_keepsLaw_24 : decode cX12_keepsLaw 24 = .ok (.iload_n 1, 1) := by decide +kernel
theorem dX12_keepsLaw_25 : decode cX12_keepsLaw 25 = .ok (.aload_n 0, 1) := by decide +kernel
theorem dX12_keepsLaw_26 : decode cX12_keepsLaw 26 = .ok (.aload_n 0, 1) := by decide +kernel
theorem dX12_keepsLaw_27 : decode cX12_keepsLaw 27 = .ok (.getfield 80, 3) := by decide +kernel
theorem dX12_keepsLaw_30 : decode cX12_keepsLaw 30 = .ok (.iload_n 1, 1) := by decide +kernel
theorem dX12_keepsLaw_31 : decode cX12_keepsLaw 31 = .ok (.iaload, 1) := by decide +kernel
theorem dX12_keepsLaw_32 : decode cX12_keepsLaw 32 = .ok (.invokevirtual 369, 3) := by decide +kernel
theorem dX12_keepsLaw_35 : decode cX12_keepsLaw 35 = .ok (.iastore, 1) := by decide +kernel
theorem dX12_keepsLaw_36 : decode cX12_keepsLaw 36 = .ok (.aload_n 0, 1) := by decide +kernel
theorem dX12_keepsLaw_37 : decode cX12_keepsLaw 37 = .ok (.getfield 77, 3) := by decide +kernel
theorem dX12_keepsLaw_40 : decode cX12_keepsLaw 40 = .ok (.iload_n 1, 1) := by decide +kernel
theorem dX12_keepsLaw_41 : decode cX12_keepsLaw 41 = .ok (.aload_n 0, 1) := by decide +kernel
theorem dX12_keepsLaw_42 : decode cX12_keepsLaw 42 = .ok (.aload_n 0, 1) := by decide +kernel
theorem dX12_keepsLaw_43 : decode cX12_keepsLaw 43 = .ok (.getfield 77, 3) := by decide +kernel
theorem dX12_keepsLaw_46 : decode cX12_keepsLaw 46 = .ok (.iload_n 1, 1) := by decide +kernel
theorem dX12_keepsLaw_47 : decode cX12_keepsLaw 47 = .ok (.iaload, 1) := by decide +kernel
theorem dX12_keepsLaw_48 : decode cX12_keepsLaw 48 = .ok (.invokevirtual 369, 3) := by decide +kernel
theorem dX12_keepsLaw_51 : decode cX12_keepsLaw 51 = .ok (.iastore, 1) := by decide +kernel
theorem dX12_keepsLaw_52 : decode cX12_keepsLaw 52 = .ok (.aload_n 0, 1) := by decide +kernel
theorem dX12_keepsLaw_53 : decode cX12_keepsLaw 53 = .ok (.getfield 83, 3) := by decide +kernel
theorem dX12_keepsLaw_56 : decode cX12_keepsLaw 56 = .ok (.iload_n 1, 1) := by decide +kernel
theorem dX12_keepsLaw_57 : decode cX12_keepsLaw 57 = .ok (.aload_n 0, 1) := by decide +kernel
theorem dX12_keepsLaw_58 : decode cX12_keepsLaw 58 = .ok (.aload_n 0, 1) := by decide +kernel
theorem dX12_keepsLaw_59 : decode cX12_keepsLaw 59 = .ok (.getfield 83, 3) := by decide +kernel
theorem dX12_keepsLaw_62 : decode cX12_keepsLaw 62 = .ok (.iload_n 1, 1) := by decide +kernel
theorem dX12_keepsLaw_63 : decode cX12_keepsLaw 63 = .ok (.iaload, 1) := by decide +kernel
theorem dX12_keepsLaw_64 : decode cX12_keepsLaw 64 = .ok (.invokevirtual 369, 3) := by decide +kernel
theorem dX12_keepsLaw_67 : decode cX12_keepsLaw 67 = .ok (.iastore, 1) := by decide +kernel
theorem dX12_keepsLaw_68 : decode cX12_keepsLaw 68 = .ok (.iinc 1 1, 3) := by decide +kernel
theorem dX12_keepsLaw_71 : decode cX12_keepsLaw 71 = .ok (.goto (-57), 3) := by decide +kernel
theorem dX12_keepsLaw_74 : decode cX12_keepsLaw 74 = .ok (.iconst 0, 1) := by decide +kernel
theorem dX12_keepsLaw_75 : decode cX12_keepsLaw 75 = .ok (.istore_n 1, 1) := by decide +kernel
theorem dX12_keepsLaw_76 : decode cX12_keepsLaw 76 = .ok (.iload_n 1, 1) := by decide +kernel
theorem dX12_keepsLaw_77 : decode cX12_keepsLaw 77 = .ok (.sipush 400, 3) := by decide +kernel
theorem dX12_keepsLaw_80 : decode cX12_keepsLaw 80 = .ok (.if_icmp .ge 41, 3) := by decide +kernel
theorem dX12_keepsLaw_83 : decode cX12_keepsLaw 83 = .ok (.aload_n 0, 1) := by decide +kernel
theorem dX12_keepsLaw_84 : decode cX12_keepsLaw 84 = .ok (.getfield 86, 3) := by decide +kernel
theorem dX12_keepsLaw_87 : decode cX12_keepsLaw 87 = .ok (.iload_n 1, 1) := by decide +kernel
theorem dX12_keepsLaw_88 : decode cX12_keepsLaw 88 = .ok (.aload_n 0, 1) := by decide +kernel
theorem dX12_keepsLaw_89 : decode cX12_keepsLaw 89 = .ok (.aload_n 0, 1) := by decide +kernel
theorem dX12_keepsLaw_90 : decode cX12_keepsLaw 90 = .ok (.getfield 86, 3) := by decide +kernel
theorem dX12_keepsLaw_93 : decode cX12_keepsLaw 93 = .ok (.iload_n 1, 1) := by decide +kernel
theorem dX12_keepsLaw_94 : decode cX12_keepsLaw 94 = .ok (.iaload, 1) := by decide +kernel
theorem dX12_keepsLaw_95 : decode cX12_keepsLaw 95 = .ok (.invokevirtual 369, 3) := by decide +kernel
theorem dX12_keepsLaw_98 : decode cX12_keepsLaw 98 = .ok (.iastore, 1) := by decide +kernel
theorem dX12_keepsLaw_99 : decode cX12_keepsLaw 99 = .ok (.aload_n 0, 1) := by decide +kernel
theorem dX12_keepsLaw_100 : decode cX12_keepsLaw 100 = .ok (.getfield 89, 3) := by decide +kernel
theorem dX12_keepsLaw_103 : decode cX12_keepsLaw 103 = .ok (.iload_n 1, 1) := by decide +kernel
theorem dX12_keepsLaw_104 : decode cX12_keepsLaw 104 = .ok (.aload_n 0, 1) := by decide +kernel
theorem dX12_keepsLaw_105 : decode cX12_keepsLaw 105 = .ok (.aload_n 0, 1) := by decide +kernel
theorem dX12_keepsLaw_106 : decode cX12_keepsLaw 106 = .ok (.getfield 89, 3) := by decide +kernel
theorem dX12_keepsLaw_109 : decode cX12_keepsLaw 109 = .ok (.iload_n 1, 1) := by decide +kernel
theorem dX12_keepsLaw_110 : decode cX12_keepsLaw 110 = .ok (.iaload, 1) := by decide +kernel
theorem dX12_keepsLaw_111 : decode cX12_keepsLaw 111 = .ok (.invokevirtual 369, 3) := by decide +kernel
theorem dX12_keepsLaw_114 : decode cX12_keepsLaw 114 = .ok (.iastore, 1) := by decide +kernel
theorem dX12_keepsLaw_115 : decode cX12_keepsLaw 115 = .ok (.iinc 1 1, 3) := by decide +kernel
theorem dX12_keepsLaw_118 : decode cX12_keepsLaw 118 = .ok (.goto (-42), 3) := by decide +kernel
theorem dX12_keepsLaw_121 : decode cX12_keepsLaw 121 = .ok (.return_, 1) := by decide +kernel
theorem dX12_keepsOthers_0 : decode cX12_keepsOthers 0 = .ok (.aload_n 0, 1) := by decide +kernel
theorem dX12_keepsOthers_1 : decode cX12_keepsOthers 1 = .ok (.aload_n 0, 1) := by decide +kernel
theorem dX12_keepsOthers_2 : decode cX12_keepsOthers 2 = .ok (.aload_n 0, 1) := by decide +kernel
theorem dX12_keepsOthers_3 : decode cX12_keepsOthers 3 = .ok (.getfield 148, 3) := by decide +kernel
theorem dX12_keepsOthers_6 : decode cX12_keepsOthers 6 = .ok (.invokevirtual 369, 3) := by decide +kernel
theorem dX12_keepsOthers_9 : decode cX12_keepsOthers 9 = .ok (.putfield 148, 3) := by decide +kernel
theorem dX12_keepsOthers_12 : decode cX12_keepsOthers 12 = .ok (.iconst 0, 1) := by decide +kernel
theorem dX12_keepsOthers_13 : decode cX12_keepsOthers 13 = .ok (.istore_n 1, 1) := by decide +kernel
theorem dX12_keepsOthers_14 : decode cX12_keepsOthers 14 = .ok (.iload_n 1, 1) := by decide +kernel
theorem dX12_keepsOthers_15 : decode cX12_keepsOthers 15 = .ok (.bipush 30, 2) := by decide +kernel
theorem dX12_keepsOthers_17 : decode cX12_keepsOthers 17 = .ok (.if_icmp .ge 57, 3) := by decide +kernel
theorem dX12_keepsOthers_20 : decode cX12_keepsOthers 20 = .ok (.aload_n 0, 1) := by decide +kernel
theorem dX12_keepsOthers_21 : decode cX12_keepsOthers 21 = .ok (.getfield 53, 3) := by decide +kernel
theorem dX12_keepsOthers_24 : decode cX12_keepsOthers 24 = .ok (.iload_n 1, 1) := by decide +kernel
theorem dX12_keepsOthers_25 : decode cX12_keepsOthers 25 = .ok (.aload_n 0, 1) := by decide +kernel
theorem dX12_keepsOthers_26 : decode cX12_keepsOthers 26 = .ok (.aload_n 0, 1) := by decide +kernel
theorem dX12_keepsOthers_27 : decode cX12_keepsOthers 27 = .ok (.getfield 53, 3) := by decide +kernel
theorem dX12_keepsOthers_30 : decode cX12_keepsOthers 30 = .ok (.iload_n 1, 1) := by decide +kernel
theorem dX12_keepsOthers_31 : decode cX12_keepsOthers 31 = .ok (.iaload, 1) := by decide +kernel
theorem dX12_keepsOthers_32 : decode cX12_keepsOthers 32 = .ok (.invokevirtual 369, 3) := by decide +kernel
theorem dX12_keepsOthers_35 : decode cX12_keepsOthers 35 = .ok (.iastore, 1) := by decide +kernel
theorem dX12_keepsOthers_36 : decode cX12_keepsOthers 36 = .ok (.aload_n 0, 1) := by decide +kernel
theorem dX12_keepsOthers_37 : decode cX12_keepsOthers 37 = .ok (.getfield 56, 3) := by decide +kernel
theorem dX12_keepsOthers_40 : decode cX12_keepsOthers 40 = .ok (.iload_n 1, 1) := by decide +kernel
theorem dX12_keepsOthers_41 : decode cX12_keepsOthers 41 = .ok (.aload_n 0, 1) := by decide +kernel
theorem dX12_keepsOthers_42 : decode cX12_keepsOthers 42 = .ok (.aload_n 0, 1) := by decide +kernel
theorem dX12_keepsOthers_43 : decode cX12_keepsOthers 43 = .ok (.getfield 56, 3) := by decide +kernel
theorem dX12_keepsOthers_46 : decode cX12_keepsOthers 46 = .ok (.iload_n 1, 1) := by decide +kernel
theorem dX12_keepsOthers_47 : decode cX12_keepsOthers 47 = .ok (.iaload, 1) := by decide +kernel
theorem dX12_keepsOthers_48 : decode cX12_keepsOthers 48 = .ok (.invokevirtual 369, 3) := by decide +kernel
theorem dX12_keepsOthers_51 : decode cX12_keepsOthers 51 = .ok (.iastore, 1) := by decide +kernel
theorem dX12_keepsOthers_52 : decode cX12_keepsOthers 52 = .ok (.aload_n 0, 1) := by decide +kernel
theorem dX12_keepsOthers_53 : decode cX12_keepsOthers 53 = .ok (.getfield 59, 3) := by decide +kernel
theorem dX12_keepsOthers_56 : decode cX12_keepsOthers 56 = .ok (.iload_n 1, 1) := by decide +kernel
theorem dX12_keepsOthers_57 : decode cX12_keepsOthers 57 = .ok (.aload_n 0, 1) := by decide +kernel
theorem dX12_keepsOthers_58 : decode cX12_keepsOthers 58 = .ok (.aload_n 0, 1) := by decide +kernel
theorem dX12_keepsOthers_59 : decode cX12_keepsOthers 59 = .ok (.getfield 59, 3) := by decide +kernel
theorem dX12_keepsOthers_62 : decode cX12_keepsOthers 62 = .ok (.iload_n 1, 1) := by decide +kernel
theorem dX12_keepsOthers_63 : decode cX12_keepsOthers 63 = .ok (.iaload, 1) := by decide +kernel
theorem dX12_keepsOthers_64 : decode cX12_keepsOthers 64 = .ok (.invokevirtual 369, 3) := by decide +kernel
theorem dX12_keepsOthers_67 : decode cX12_keepsOthers 67 = .ok (.iastore, 1) := by decide +kernel
theorem dX12_keepsOthers_68 : decode cX12_keepsOthers 68 = .ok (.iinc 1 1, 3) := by decide +kernel
theorem dX12_keepsOthers_71 : decode cX12_keepsOthers 71 = .ok (.goto (-57), 3) := by decide +kernel
theorem dX12_keepsOthers_74 : decode cX12_keepsOthers 74 = .ok (.aload_n 0, 1) := by decide +kernel
theorem dX12_keepsOthers_75 : decode cX12_keepsOthers 75 = .ok (.aload_n 0, 1) := by decide +kernel
theorem dX12_keepsOthers_76 : decode cX12_keepsOthers 76 = .ok (.aload_n 0, 1) := by decide +kernel
theorem dX12_keepsOthers_77 : decode cX12_keepsOthers 77 = .ok (.getfield 151, 3) := by decide +kernel
theorem dX12_keepsOthers_80 : decode cX12_keepsOthers 80 = .ok (.invokevirtual 369, 3) := by decide +kernel
theorem dX12_keepsOthers_83 : decode cX12_keepsOthers 83 = .ok (.putfield 151, 3) := by decide +kernel
theorem dX12_keepsOthers_86 : decode cX12_keepsOthers 86 = .ok (.iconst 0, 1) := by decide +kernel
theorem dX12_keepsOthers_87 : decode cX12_keepsOthers 87 = .ok (.istore_n 1, 1) := by decide +kernel
theorem dX12_keepsOthers_88 : decode cX12_keepsOthers 88 = .ok (.iload_n 1, 1) := by decide +kernel
theorem dX12_keepsOthers_89 : decode cX12_keepsOthers 89 = .ok (.bipush 40, 2) := by decide +kernel
theorem dX12_keepsOthers_91 : decode cX12_keepsOthers 91 = .ok (.if_icmp .ge 41, 3) := by decide +kernel
theorem dX12_keepsOthers_94 : decode cX12_keepsOthers 94 = .ok (.aload_n 0, 1) := by decide +kernel
theorem dX12_keepsOthers_95 : decode cX12_keepsOthers 95 = .ok (.getfield 65, 3) := by decide +kernel
theorem dX12_keepsOthers_98 : decode cX12_keepsOthers 98 = .ok (.iload_n 1, 1) := by decide +kernel
theorem dX12_keepsOthers_99 : decode cX12_keepsOthers 99 = .ok (.aload_n 0, 1) := by decide +kernel
theorem dX12_keepsOthers_100 : decode cX12_keepsOthers 100 = .ok (.aload_n 0, 1) := by decide +kernel
theorem dX12_keepsOthers_101 : decode cX12_keepsOthers 101 = .ok (.getfield 65, 3) := by decide +kernel
theorem dX12_keepsOthers_104 : decode cX12_keepsOthers 104 = .ok (.iload_n 1, 1) := by decide +kernel
theorem dX12_keepsOthers_105 : decode cX12_keepsOthers 105 = .ok (.iaload, 1) := by decide +kernel
theorem dX12_keepsOthers_106 : decode cX12_keepsOthers 106 = .ok (.invokevirtual 369, 3) := by decide +kernel
theorem dX12_keepsOthers_109 : decode cX12_keepsOthers 109 = .ok (.iastore, 1) := by decide +kernel
theorem dX12_keepsOthers_110 : decode cX12_keepsOthers 110 = .ok (.aload_n 0, 1) := by decide +kernel
theorem dX12_keepsOthers_111 : decode cX12_keepsOthers 111 = .ok (.getfield 68, 3) := by decide +kernel
theorem dX12_keepsOthers_114 : decode cX12_keepsOthers 114 = .ok (.iload_n 1, 1) := by decide +kernel
theorem dX12_keepsOthers_115 : decode cX12_keepsOthers 115 = .ok (.aload_n 0, 1) := by decide +kernel
theorem dX12_keepsOthers_116 : decode cX12_keepsOthers 116 = .ok (.aload_n 0, 1) := by decide +kernel
theorem dX12_keepsOthers_117 : decode cX12_keepsOthers 117 = .ok (.getfield 68, 3) := by decide +kernel
theorem dX12_keepsOthers_120 : decode cX12_keepsOthers 120 = .ok (.iload_n 1, 1) := by decide +kernel
theorem dX12_keepsOthers_121 : decode cX12_keepsOthers 121 = .ok (.iaload, 1) := by decide +kernel
theorem dX12_keepsOthers_122 : decode cX12_keepsOthers 122 = .ok (.invokevirtual 369, 3) := by decide +kernel
theorem dX12_keepsOthers_125 : decode cX12_keepsOthers 125 = .ok (.iastore, 1) := by decide +kernel
theorem dX12_keepsOthers_126 : decode cX12_keepsOthers 126 = .ok (.iinc 1 1, 3) := by decide +kernel
theorem dX12_keepsOthers_129 : decode cX12_keepsOthers 129 = .ok (.goto (-41), 3) := by decide +kernel
theorem dX12_keepsOthers_132 : decode cX12_keepsOthers 132 = .ok (.return_, 1) := by decide +kernel
theorem dX12_image_0 : decode cX12_image 0 = .ok (.aload_n 0, 1) := by decide +kernel
theorem dX12_image_1 : decode cX12_image 1 = .ok (.iconst 0, 1) := by decide +kernel
theorem dX12_image_2 : decode cX12_image 2 = .ok (.putfield 120, 3) := by decide +kernel
theorem dX12_image_5 : decode cX12_image 5 = .ok (.iload_n 1, 1) := by decide +kernel
theorem dX12_image_6 : decode cX12_image 6 = .ok (.ifCond .ne 12, 3) := by decide +kernel
theorem dX12_image_9 : decode cX12_image 9 = .ok (.aload_n 0, 1) := by decide +kernel
theorem dX12_image_10 : decode cX12_image 10 = .ok (.getfield 372, 3) := by decide +kernel
theorem dX12_image_13 : decode cX12_image 13 = .ok (.ifCond .ne 5, 3) := by decide +kernel
theorem dX12_image_16 : decode cX12_image 16 = .ok (.iconst 0, 1) := by decide +kernel
theorem dX12_image_17 : decode cX12_image 17 = .ok (.ireturn, 1) := by decide +kernel
theorem dX12_image_18 : decode cX12_image 18 = .ok (.aload_n 0, 1) := by decide +kernel
theorem dX12_image_19 : decode cX12_image 19 = .ok (.iload_n 1, 1) := by decide +kernel
theorem dX12_image_20 : decode cX12_image 20 = .ok (.putfield 365, 3) := by decide +kernel
theorem dX12_image_23 : decode cX12_image 23 = .ok (.aload_n 0, 1) := by decide +kernel
theorem dX12_image_24 : decode cX12_image 24 = .ok (.iconst 1, 1) := by decide +kernel
theorem dX12_image_25 : decode cX12_image 25 = .ok (.putfield 372, 3) := by decide +kernel
theorem dX12_image_28 : decode cX12_image 28 = .ok (.aload_n 0, 1) := by decide +kernel
theorem dX12_image_29 : decode cX12_image 29 = .ok (.iconst 0, 1) := by decide +kernel
theorem dX12_image_30 : decode cX12_image 30 = .ok (.putfield 362, 3) := by decide +kernel
theorem dX12_image_33 : decode cX12_image 33 = .ok (.aload_n 0, 1) := by decide +kernel
theorem dX12_image_34 : decode cX12_image 34 = .ok (.aload_n 0, 1) := by decide +kernel
theorem dX12_image_35 : decode cX12_image 35 = .ok (.aload_n 0, 1) := by decide +kernel
theorem dX12_image_36 : decode cX12_image 36 = .ok (.getfield 16, 3) := by decide +kernel
theorem dX12_image_39 : decode cX12_image 39 = .ok (.invokevirtual 369, 3) := by decide +kernel
theorem dX12_image_42 : decode cX12_image 42 = .ok (.putfield 16, 3) := by decide +kernel
theorem dX12_image_45 : decode cX12_image 45 = .ok (.aload_n 0, 1) := by decide +kernel
theorem dX12_image_46 : decode cX12_image 46 = .ok (.aload_n 0, 1) := by decide +kernel
theorem dX12_image_47 : decode cX12_image 47 = .ok (.aload_n 0, 1) := by decide +kernel
theorem dX12_image_48 : decode cX12_image 48 = .ok (.getfield 142, 3) := by decide +kernel
theorem dX12_image_51 : decode cX12_image 51 = .ok (.invokevirtual 369, 3) := by decide +kernel
theorem dX12_image_54 : decode cX12_image 54 = .ok (.putfield 142, 3) := by decide +kernel
theorem dX12_image_57 : decode cX12_image 57 = .ok (.aload_n 0, 1) := by decide +kernel
theorem dX12_image_58 : decode cX12_image 58 = .ok (.aload_n 0, 1) := by decide +kernel
theorem dX12_image_59 : decode cX12_image 59 = .ok (.aload_n 0, 1) := by decide +kernel
theorem dX12_image_60 : decode cX12_image 60 = .ok (.getfield 135, 3) := by decide +kernel
theorem dX12_image_63 : decode cX12_image 63 = .ok (.invokevirtual 369, 3) := by decide +kernel
theorem dX12_image_66 : decode cX12_image 66 = .ok (.putfield 135, 3) := by decide +kernel
theorem dX12_image_69 : decode cX12_image 69 = .ok (.aload_n 0, 1) := by decide +kernel
theorem dX12_image_70 : decode cX12_image 70 = .ok (.aload_n 0, 1) := by decide +kernel
theorem dX12_image_71 : decode cX12_image 71 = .ok (.aload_n 0, 1) := by decide +kernel
theorem dX12_image_72 : decode cX12_image 72 = .ok (.getfield 145, 3) := by decide +kernel
theorem dX12_image_75 : decode cX12_image 75 = .ok (.invokevirtual 369, 3) := by decide +kernel
theorem dX12_image_78 : decode cX12_image 78 = .ok (.putfield 145, 3) := by decide +kernel
theorem dX12_image_81 : decode cX12_image 81 = .ok (.aload_n 0, 1) := by decide +kernel
theorem dX12_image_82 : decode cX12_image 82 = .ok (.aload_n 0, 1) := by decide +kernel
theorem dX12_image_83 : decode cX12_image 83 = .ok (.aload_n 0, 1) := by decide +kernel
theorem dX12_image_84 : decode cX12_image 84 = .ok (.getfield 154, 3) := by decide +kernel
theorem dX12_image_87 : decode cX12_image 87 = .ok (.invokevirtual 369, 3) := by decide +kernel
theorem dX12_image_90 : decode cX12_image 90 = .ok (.putfield 154, 3) := by decide +kernel
theorem dX12_image_93 : decode cX12_image 93 = .ok (.aload_n 0, 1) := by decide +kernel
theorem dX12_image_94 : decode cX12_image 94 = .ok (.aload_n 0, 1) := by decide +kernel
theorem dX12_image_95 : decode cX12_image 95 = .ok (.aload_n 0, 1) := by decide +kernel
theorem dX12_image_96 : decode cX12_image 96 = .ok (.getfield 157, 3) := by decide +kernel
theorem dX12_image_99 : decode cX12_image 99 = .ok (.invokevirtual 369, 3) := by decide +kernel
theorem dX12_image_102 : decode cX12_image 102 = .ok (.putfield 157, 3) := by decide +kernel
theorem dX12_image_105 : decode cX12_image 105 = .ok (.iconst 0, 1) := by decide +kernel
theorem dX12_image_106 : decode cX12_image 106 = .ok (.istore_n 2, 1) := by decide +kernel
theorem dX12_image_107 : decode cX12_image 107 = .ok (.iload_n 2, 1) := by decide +kernel
theorem dX12_image_108 : decode cX12_image 108 = .ok (.sipush 160, 3) := by decide +kernel
theorem dX12_image_111 : decode cX12_image 111 = .ok (.if_icmp .ge 25, 3) := by decide +kernel
theorem dX12_image_114 : decode cX12_image 114 = .ok (.aload_n 0, 1) := by decide +kernel
theorem dX12_image_115 : decode cX12_image 115 = .ok (.getfield 7, 3) := by decide +kernel
theorem dX12_image_118 : decode cX12_image 118 = .ok (.iload_n 2, 1) := by decide +kernel
theorem dX12_image_119 : decode cX12_image 119 = .ok (.aload_n 0, 1) := by decide +kernel
theorem dX12_image_120 : decode cX12_image 120 = .ok (.aload_n 0, 1) := by decide +kernel
theorem dX12_image_121 : decode cX12_image 121 = .ok (.getfield 7, 3) := by decide +kernel
theorem dX12_image_124 : decode cX12_image 124 = .ok (.iload_n 2, 1) := by decide +kernel
theorem dX12_image_125 : decode cX12_image 125 = .ok (.iaload, 1) := by decide +kernel
theorem dX12_image_126 : decode cX12_image 126 = .ok (.invokevirtual 369, 3) := by decide +kernel
theorem dX12_image_129 : decode cX12_image 129 = .ok (.iastore, 1) := by decide +kernel
theorem dX12_image_130 : decode cX12_image 130 = .ok (.iinc 2 1, 3) := by decide +kernel
theorem dX12_image_133 : decode cX12_image 133 = .ok (.goto (-26), 3) := by decide +kernel
theorem dX12_image_136 : decode cX12_image 136 = .ok (.iconst 0, 1) := by decide +kernel
theorem dX12_image_137 : decode cX12_image 137 = .ok (.istore_n 2, 1) := by decide +kernel
theorem dX12_image_138 : decode cX12_image 138 = .ok (.iload_n 2, 1) := by decide +kernel
theorem dX12_image_139 : decode cX12_image 139 = .ok (.bipush 10, 2) := by decide +kernel
theorem dX12_image_141 : decode cX12_image 141 = .ok (.if_icmp .ge 57, 3) := by decide +kernel
theorem dX12_image_144 : decode cX12_image 144 = .ok (.aload_n 0, 1) := by decide +kernel
theorem dX12_image_145 : decode cX12_image 145 = .ok (.getfield 20, 3) := by decide +kernel
theorem dX12_image_148 : decode cX12_image 148 = .ok (.iload_n 2, 1) := by decide +kernel
theorem dX12_image_149 : decode cX12_image 149 = .ok (.aload_n 0, 1) := by decide +kernel
theorem dX12_image_150 : decode cX12_image 150 = .ok (.aload_n 0, 1) := by decide +kernel
theorem dX12_image_151 : decode cX12_image 151 = .ok (.getfield 20, 3) := by decide +kernel
theorem dX12_image_154 : decode cX12_image 154 = .ok (.iload_n 2, 1) := by decide +kernel
theorem dX12_image_155 : decode cX12_image 155 = .ok (.iaload, 1) := by decide +kernel
theorem dX12_image_156 : decode cX12_image 156 = .ok (.invokevirtual 369, 3) := by decide +kernel
theorem dX12_image_159 : decode cX12_image 159 = .ok (.iastore, 1) := by decide +kernel
theorem dX12_image_160 : decode cX12_image 160 = .ok (.aload_n 0, 1) := by decide +kernel
theorem dX12_image_161 : decode cX12_image 161 = .ok (.getfield 23, 3) := by decide +kernel
theorem dX12_image_164 : decode cX12_image 164 = .ok (.iload_n 2, 1) := by decide +kernel
theorem dX12_image_165 : decode cX12_image 165 = .ok (.aload_n 0, 1) := by decide +kernel
theorem dX12_image_166 : decode cX12_image 166 = .ok (.aload_n 0, 1) := by decide +kernel
theorem dX12_image_167 : decode cX12_image 167 = .ok (.getfield 23, 3) := by decide +kernel
theorem dX12_image_170 : decode cX12_image 170 = .ok (.iload_n 2, 1) := by decide +kernel
theorem dX12_image_171 : decode cX12_image 171 = .ok (.iaload, 1) := by decide +kernel
theorem dX12_image_172 : decode cX12_image 172 = .ok (.invokevirtual 369, 3) := by decide +kernel
theorem dX12_image_175 : decode cX12_image 175 = .ok (.iastore, 1) := by decide +kernel
theorem dX12_image_176 : decode cX12_image 176 = .ok (.aload_n 0, 1) := by decide +kernel
theorem dX12_image_177 : decode cX12_image 177 = .ok (.getfield 26, 3) := by decide +kernel
theorem dX12_image_180 : decode cX12_image 180 = .ok (.iload_n 2, 1) := by decide +kernel
theorem dX12_image_181 : decode cX12_image 181 = .ok (.aload_n 0, 1) := by decide +kernel
theorem dX12_image_182 : decode cX12_image 182 = .ok (.aload_n 0, 1) := by decide +kernel
theorem dX12_image_183 : decode cX12_image 183 = .ok (.getfield 26, 3) := by decide +kernel
theorem dX12_image_186 : decode cX12_image 186 = .ok (.iload_n 2, 1) := by decide +kernel
theorem dX12_image_187 : decode cX12_image 187 = .ok (.iaload, 1) := by decide +kernel
theorem dX12_image_188 : decode cX12_image 188 = .ok (.invokevirtual 369, 3) := by decide +kernel
theorem dX12_image_191 : decode cX12_image 191 = .ok (.iastore, 1) := by decide +kernel
theorem dX12_image_192 : decode cX12_image 192 = .ok (.iinc 2 1, 3) := by decide +kernel
theorem dX12_image_195 : decode cX12_image 195 = .ok (.goto (-57), 3) := by decide +kernel
theorem dX12_image_198 : decode cX12_image 198 = .ok (.iconst 0, 1) := by decide +kernel
theorem dX12_image_199 : decode cX12_image 199 = .ok (.istore_n 2, 1) := by decide +kernel
theorem dX12_image_200 : decode cX12_image 200 = .ok (.iload_n 2, 1) := by decide +kernel
theorem dX12_image_201 : decode cX12_image 201 = .ok (.bipush 9, 2) := by decide +kernel
theorem dX12_image_203 : decode cX12_image 203 = .ok (.if_icmp .ge 89, 3) := by decide +kernel
theorem dX12_image_206 : decode cX12_image 206 = .ok (.aload_n 0, 1) := by decide +kernel
theorem dX12_image_207 : decode cX12_image 207 = .ok (.getfield 29, 3) := by decide +kernel
theorem dX12_image_210 : decode cX12_image 210 = .ok (.iload_n 2, 1) := by decide +kernel
theorem dX12_image_211 : decode cX12_image 211 = .ok (.aload_n 0, 1) := by decide +kernel
theorem dX12_image_212 : decode cX12_image 212 = .ok (.aload_n 0, 1) := by decide +kernel
theorem dX12_image_213 : decode cX12_image 213 = .ok (.getfield 29, 3) := by decide +kernel
theorem dX12_image_216 : decode cX12_image 216 = .ok (.iload_n 2, 1) := by decide +kernel
theorem dX12_image_217 : decode cX12_image 217 = .ok (.iaload, 1) := by decide +kernel
theorem dX12_image_218 : decode cX12_image 218 = .ok (.invokevirtual 369, 3) := by decide +kernel
theorem dX12_image_221 : decode cX12_image 221 = .ok (.iastore, 1) := by decide +kernel
theorem dX12_image_222 : decode cX12_image 222 = .ok (.aload_n 0, 1) := by decide +kernel
theorem dX12_image_223 : decode cX12_image 223 = .ok (.getfield 32, 3) := by decide +kernel
theorem dX12_image_226 : decode cX12_image 226 = .ok (.iload_n 2, 1) := by decide +kernel
theorem dX12_image_227 : decode cX12_image 227 = .ok (.aload_n 0, 1) := by decide +kernel
theorem dX12_image_228 : decode cX12_image 228 = .ok (.aload_n 0, 1) := by decide +kernel
theorem dX12_image_229 : decode cX12_image 229 = .ok (.getfield 32, 3) := by decide +kernel
theorem dX12_image_232 : decode cX12_image 232 = .ok (.iload_n 2, 1) := by decide +kernel
theorem dX12_image_233 : decode cX12_image 233 = .ok (.iaload, 1) := by decide +kernel
theorem dX12_image_234 : decode cX12_image 234 = .ok (.invokevirtual 369, 3) := by decide +kernel
theorem dX12_image_237 : decode cX12_image 237 = .ok (.iastore, 1) := by decide +kernel
theorem dX12_image_238 : decode cX12_image 238 = .ok (.aload_n 0, 1) := by decide +kernel
theorem dX12_image_239 : decode cX12_image 239 = .ok (.getfield 35, 3) := by decide +kernel
theorem dX12_image_242 : decode cX12_image 242 = .ok (.iload_n 2, 1) := by decide +kernel
theorem dX12_image_243 : decode cX12_image 243 = .ok (.aload_n 0, 1) := by decide +kernel
theorem dX12_image_244 : decode cX12_image 244 = .ok (.aload_n 0, 1) := by decide +kernel
theorem dX12_image_245 : decode cX12_image 245 = .ok (.getfield 35, 3) := by decide +kernel
theorem dX12_image_248 : decode cX12_image 248 = .ok (.iload_n 2, 1) := by decide +kernel
theorem dX12_image_249 : decode cX12_image 249 = .ok (.iaload, 1) := by decide +kernel
theorem dX12_image_250 : decode cX12_image 250 = .ok (.invokevirtual 369, 3) := by decide +kernel
theorem dX12_image_253 : decode cX12_image 253 = .ok (.iastore, 1) := by decide +kernel
theorem dX12_image_254 : decode cX12_image 254 = .ok (.aload_n 0, 1) := by decide +kernel
theorem dX12_image_255 : decode cX12_image 255 = .ok (.getfield 38, 3) := by decide +kernel
theorem dX12_image_258 : decode cX12_image 258 = .ok (.iload_n 2, 1) := by decide +kernel
theorem dX12_image_259 : decode cX12_image 259 = .ok (.aload_n 0, 1) := by decide +kernel
theorem dX12_image_260 : decode cX12_image 260 = .ok (.aload_n 0, 1) := by decide +kernel
theorem dX12_image_261 : decode cX12_image 261 = .ok (.getfield 38, 3) := by decide +kernel
theorem dX12_image_264 : decode cX12_image 264 = .ok (.iload_n 2, 1) := by decide +kernel
theorem dX12_image_265 : decode cX12_image 265 = .ok (.iaload, 1) := by decide +kernel
theorem dX12_image_266 : decode cX12_image 266 = .ok (.invokevirtual 369, 3) := by decide +kernel
theorem dX12_image_269 : decode cX12_image 269 = .ok (.iastore, 1) := by decide +kernel
theorem dX12_image_270 : decode cX12_image 270 = .ok (.aload_n 0, 1) := by decide +kernel
theorem dX12_image_271 : decode cX12_image 271 = .ok (.getfield 62, 3) := by decide +kernel
theorem dX12_image_274 : decode cX12_image 274 = .ok (.iload_n 2, 1) := by decide +kernel
theorem dX12_image_275 : decode cX12_image 275 = .ok (.aload_n 0, 1) := by decide +kernel
theorem dX12_image_276 : decode cX12_image 276 = .ok (.aload_n 0, 1) := by decide +kernel
theorem dX12_image_277 : decode cX12_image 277 = .ok (.getfield 62, 3) := by decide +kernel
theorem dX12_image_280 : decode cX12_image 280 = .ok (.iload_n 2, 1) := by decide +kernel
theorem dX12_image_281 : decode cX12_image 281 = .ok (.iaload, 1) := by decide +kernel
theorem dX12_image_282 : decode cX12_image 282 = .ok (.invokevirtual 369, 3) := by decide +kernel
theorem dX12_image_285 : decode cX12_image 285 = .ok (.iastore, 1) := by decide +kernel
theorem dX12_image_286 : decode cX12_image 286 = .ok (.iinc 2 1, 3) := by decide +kernel
theorem dX12_image_289 : decode cX12_image 289 = .ok (.goto (-89), 3) := by decide +kernel
theorem dX12_image_292 : decode cX12_image 292 = .ok (.iconst 0, 1) := by decide +kernel
theorem dX12_image_293 : decode cX12_image 293 = .ok (.istore_n 2, 1) := by decide +kernel
theorem dX12_image_294 : decode cX12_image 294 = .ok (.iload_n 2, 1) := by decide +kernel
theorem dX12_image_295 : decode cX12_image 295 = .ok (.bipush 40, 2) := by decide +kernel
theorem dX12_image_297 : decode cX12_image 297 = .ok (.if_icmp .ge 25, 3) := by decide +kernel
theorem dX12_image_300 : decode cX12_image 300 = .ok (.aload_n 0, 1) := by decide +kernel
theorem dX12_image_301 : decode cX12_image 301 = .ok (.getfield 41, 3) := by decide +kernel
theorem dX12_image_304 : decode cX12_image 304 = .ok (.iload_n 2, 1) := by decide +kernel
theorem dX12_image_305 : decode cX12_image 305 = .ok (.aload_n 0, 1) := by decide +kernel
theorem dX12_image_306 : decode cX12_image 306 = .ok (.aload_n 0, 1) := by decide +kernel
theorem dX12_image_307 : decode cX12_image 307 = .ok (.getfield 41, 3) := by decide +kernel
theorem dX12_image_310 : decode cX12_image 310 = .ok (.iload_n 2, 1) := by decide +kernel
theorem dX12_image_311 : decode cX12_image 311 = .ok (.iaload, 1) := by decide +kernel
theorem dX12_image_312 : decode cX12_image 312 = .ok (.invokevirtual 369, 3) := by decide +kernel
theorem dX12_image_315 : decode cX12_image 315 = .ok (.iastore, 1) := by decide +kernel
theorem dX12_image_316 : decode cX12_image 316 = .ok (.iinc 2 1, 3) := by decide +kernel
theorem dX12_image_319 : decode cX12_image 319 = .ok (.goto (-25), 3) := by decide +kernel
theorem dX12_image_322 : decode cX12_image 322 = .ok (.iconst 0, 1) := by decide +kernel
theorem dX12_image_323 : decode cX12_image 323 = .ok (.istore_n 2, 1) := by decide +kernel
theorem dX12_image_324 : decode cX12_image 324 = .ok (.iload_n 2, 1) := by decide +kernel
theorem dX12_image_325 : decode cX12_image 325 = .ok (.bipush 24, 2) := by decide +kernel
theorem dX12_image_327 : decode cX12_image 327 = .ok (.if_icmp .ge 25, 3) := by decide +kernel
theorem dX12_image_330 : decode cX12_image 330 = .ok (.aload_n 0, 1) := by decide +kernel
theorem dX12_image_331 : decode cX12_image 331 = .ok (.getfield 44, 3) := by decide +kernel
theorem dX12_image_334 : decode cX12_image 334 = .ok (.iload_n 2, 1) := by decide +kernel
theorem dX12_image_335 : decode cX12_image 335 = .ok (.aload_n 0, 1) := by decide +kernel
theorem dX12_image_336 : decode cX12_image 336 = .ok (.aload_n 0, 1) := by decide +kernel
theorem dX12_image_337 : decode cX12_image 337 = .ok (.getfield 44, 3) := by decide +kernel
theorem dX12_image_340 : decode cX12_image 340 = .ok (.iload_n 2, 1) := by decide +kernel
theorem dX12_image_341 : decode cX12_image 341 = .ok (.iaload, 1) := by decide +kernel
theorem dX12_image_342 : decode cX12_image 342 = .ok (.invokevirtual 369, 3) := by decide +kernel
theorem dX12_image_345 : decode cX12_image 345 = .ok (.iastore, 1) := by decide +kernel
theorem dX12_image_346 : decode cX12_image 346 = .ok (.iinc 2 1, 3) := by decide +kernel
theorem dX12_image_349 : decode cX12_image 349 = .ok (.goto (-25), 3) := by decide +kernel
theorem dX12_image_352 : decode cX12_image 352 = .ok (.iconst 0, 1) := by decide +kernel
theorem dX12_image_353 : decode cX12_image 353 = .ok (.istore_n 2, 1) := by decide +kernel
theorem dX12_image_354 : decode cX12_image 354 = .ok (.iload_n 2, 1) := by decide +kernel
theorem dX12_image_355 : decode cX12_image 355 = .ok (.bipush 8, 2) := by decide +kernel
theorem dX12_image_357 : decode cX12_image 357 = .ok (.if_icmp .ge 41, 3) := by decide +kernel
theorem dX12_image_360 : decode cX12_image 360 = .ok (.aload_n 0, 1) := by decide +kernel
theorem dX12_image_361 : decode cX12_image 361 = .ok (.getfield 47, 3) := by decide +kernel
theorem dX12_image_364 : decode cX12_image 364 = .ok (.iload_n 2, 1) := by decide +kernel
theorem dX12_image_365 : decode cX12_image 365 = .ok (.aload_n 0, 1) := by decide +kernel
theorem dX12_image_366 : decode cX12_image 366 = .ok (.aload_n 0, 1) := by decide +kernel
theorem dX12_image_367 : decode cX12_image 367 = .ok (.getfield 47, 3) := by decide +kernel
theorem dX12_image_370 : decode cX12_image 370 = .ok (.iload_n 2, 1) := by decide +kernel
theorem dX12_image_371 : decode cX12_image 371 = .ok (.iaload, 1) := by decide +kernel
theorem dX12_image_372 : decode cX12_image 372 = .ok (.invokevirtual 369, 3) := by decide +kernel
theorem dX12_image_375 : decode cX12_image 375 = .ok (.iastore, 1) := by decide +kernel
theorem dX12_image_376 : decode cX12_image 376 = .ok (.aload_n 0, 1) := by decide +kernel
theorem dX12_image_377 : decode cX12_image 377 = .ok (.getfield 50, 3) := by decide +kernel
theorem dX12_image_380 : decode cX12_image 380 = .ok (.iload_n 2, 1) := by decide +kernel
theorem dX12_image_381 : decode cX12_image 381 = .ok (.aload_n 0, 1) := by decide +kernel
theorem dX12_image_382 : decode cX12_image 382 = .ok (.aload_n 0, 1) := by decide +kernel
theorem dX12_image_383 : decode cX12_image 383 = .ok (.getfield 50, 3) := by decide +kernel
theorem dX12_image_386 : decode cX12_image 386 = .ok (.iload_n 2, 1) := by decide +kernel
theorem dX12_image_387 : decode cX12_image 387 = .ok (.iaload, 1) := by decide +kernel
theorem dX12_image_388 : decode cX12_image 388 = .ok (.invokevirtual 369, 3) := by decide +kernel
theorem dX12_image_391 : decode cX12_image 391 = .ok (.iastore, 1) := by decide +kernel
theorem dX12_image_392 : decode cX12_image 392 = .ok (.iinc 2 1, 3) := by decide +kernel
theorem dX12_image_395 : decode cX12_image 395 = .ok (.goto (-41), 3) := by decide +kernel
theorem dX12_image_398 : decode cX12_image 398 = .ok (.aload_n 0, 1) := by decide +kernel
theorem dX12_image_399 : decode cX12_image 399 = .ok (.invokevirtual 375, 3) := by decide +kernel
theorem dX12_image_402 : decode cX12_image 402 = .ok (.aload_n 0, 1) := by decide +kernel
theorem dX12_image_403 : decode cX12_image 403 = .ok (.invokevirtual 378, 3) := by decide +kernel
theorem dX12_image_406 : decode cX12_image 406 = .ok (.iload_n 1, 1) := by decide +kernel
theorem dX12_image_407 : decode cX12_image 407 = .ok (.ifCond .ne 8, 3) := by decide +kernel
theorem dX12_image_410 : decode cX12_image 410 = .ok (.aload_n 0, 1) := by decide +kernel
theorem dX12_image_411 : decode cX12_image 411 = .ok (.iconst 0, 1) := by decide +kernel
theorem dX12_image_412 : decode cX12_image 412 = .ok (.putfield 123, 3) := by decide +kernel
theorem dX12_image_415 : decode cX12_image 415 = .ok (.iconst 1, 1) := by decide +kernel
theorem dX12_image_416 : decode cX12_image 416 = .ok (.ireturn, 1) := by decide +kernel
theorem dX12_look_0 : decode cX12_look 0 = .ok (.aload_n 0, 1) := by decide +kernel
theorem dX12_look_1 : decode cX12_look 1 = .ok (.iconst 0, 1) := by decide +kernel
theorem dX12_look_2 : decode cX12_look 2 = .ok (.putfield 120, 3) := by decide +kernel
theorem dX12_look_5 : decode cX12_look 5 = .ok (.iload_n 1, 1) := by decide +kernel
theorem dX12_look_6 : decode cX12_look 6 = .ok (.ifCond .ne 8, 3) := by decide +kernel
theorem dX12_look_9 : decode cX12_look 9 = .ok (.aload_n 0, 1) := by decide +kernel
theorem dX12_look_10 : decode cX12_look 10 = .ok (.getfield 16, 3) := by decide +kernel
theorem dX12_look_13 : decode cX12_look 13 = .ok (.ireturn, 1) := by decide +kernel
theorem dX12_look_14 : decode cX12_look 14 = .ok (.iload_n 1, 1) := by decide +kernel
theorem dX12_look_15 : decode cX12_look 15 = .ok (.iconst 1, 1) := by decide +kernel
theorem dX12_look_16 : decode cX12_look 16 = .ok (.if_icmp .ne 10, 3) := by decide +kernel
theorem dX12_look_19 : decode cX12_look 19 = .ok (.aload_n 0, 1) := by decide +kernel
theorem dX12_look_20 : decode cX12_look 20 = .ok (.getfield 7, 3) := by decide +kernel
theorem dX12_look_23 : decode cX12_look 23 = .ok (.iconst 0, 1) := by decide +kernel
theorem dX12_look_24 : decode cX12_look 24 = .ok (.iaload, 1) := by decide +kernel
theorem dX12_look_25 : decode cX12_look 25 = .ok (.ireturn, 1) := by decide +kernel
theorem dX12_look_26 : decode cX12_look 26 = .ok (.iload_n 1, 1) := by decide +kernel
theorem dX12_look_27 : decode cX12_look 27 = .ok (.iconst 2, 1) := by decide +kernel
theorem dX12_look_28 : decode cX12_look 28 = .ok (.if_icmp .ne 10, 3) := by decide +kernel
theorem dX12_look_31 : decode cX12_look 31 = .ok (.aload_n 0, 1) := by decide +kernel
theorem dX12_look_32 : decode cX12_look 32 = .ok (.getfield 7, 3) := by decide +kernel
theorem dX12_look_35 : decode cX12_look 35 = .ok (.iconst 1, 1) := by decide +kernel
theorem dX12_look_36 : decode cX12_look 36 = .ok (.iaload, 1) := by decide +kernel
theorem dX12_look_37 : decode cX12_look 37 = .ok (.ireturn, 1) := by decide +kernel
theorem dX12_look_38 : decode cX12_look 38 = .ok (.iload_n 1, 1) := by decide +kernel
theorem dX12_look_39 : decode cX12_look 39 = .ok (.iconst 3, 1) := by decide +kernel
theorem dX12_look_40 : decode cX12_look 40 = .ok (.if_icmp .ne 8, 3) := by decide +kernel
theorem dX12_look_43 : decode cX12_look 43 = .ok (.aload_n 0, 1) := by decide +kernel
theorem dX12_look_44 : decode cX12_look 44 = .ok (.getfield 142, 3) := by decide +kernel
theorem dX12_look_47 : decode cX12_look 47 = .ok (.ireturn, 1) := by decide +kernel
theorem dX12_look_48 : decode cX12_look 48 = .ok (.iload_n 1, 1) := by decide +kernel
theorem dX12_look_49 : decode cX12_look 49 = .ok (.iconst 4, 1) := by decide +kernel
theorem dX12_look_50 : decode cX12_look 50 = .ok (.if_icmp .ne 8, 3) := by decide +kernel
theorem dX12_look_53 : decode cX12_look 53 = .ok (.aload_n 0, 1) := by decide +kernel
theorem dX12_look_54 : decode cX12_look 54 = .ok (.getfield 135, 3) := by decide +kernel
theorem dX12_look_57 : decode cX12_look 57 = .ok (.ireturn, 1) := by decide +kernel
theorem dX12_look_58 : decode cX12_look 58 = .ok (.iload_n 1, 1) := by decide +kernel
theorem dX12_look_59 : decode cX12_look 59 = .ok (.iconst 5, 1) := by decide +kernel
theorem dX12_look_60 : decode cX12_look 60 = .ok (.if_icmp .ne 8, 3) := by decide +kernel
theorem dX12_look_63 : decode cX12_look 63 = .ok (.aload_n 0, 1) := by decide +kernel
theorem dX12_look_64 : decode cX12_look 64 = .ok (.getfield 145, 3) := by decide +kernel
theorem dX12_look_67 : decode cX12_look 67 = .ok (.ireturn, 1) := by decide +kernel
theorem dX12_look_68 : decode cX12_look 68 = .ok (.iload_n 1, 1) := by decide +kernel
theorem dX12_look_69 : decode cX12_look 69 = .ok (.bipush 6, 2) := by decide +kernel
theorem dX12_look_71 : decode cX12_look 71 = .ok (.if_icmp .ne 10, 3) := by decide +kernel
theorem dX12_look_74 : decode cX12_look 74 = .ok (.aload_n 0, 1) := by decide +kernel
theorem dX12_look_75 : decode cX12_look 75 = .ok (.getfield 7, 3) := by decide +kernel
theorem dX12_look_78 : decode cX12_look 78 = .ok (.iconst 2, 1) := by decide +kernel
theorem dX12_look_79 : decode cX12_look 79 = .ok (.iaload, 1) := by decide +kernel
theorem dX12_look_80 : decode cX12_look 80 = .ok (.ireturn, 1) := by decide +kernel
theorem dX12_look_81 : decode cX12_look 81 = .ok (.iload_n 1, 1) := by decide +kernel
theorem dX12_look_82 : decode cX12_look 82 = .ok (.bipush 7, 2) := by decide +kernel
theorem dX12_look_84 : decode cX12_look 84 = .ok (.if_icmp .ne 10, 3) := by decide +kernel
theorem dX12_look_87 : decode cX12_look 87 = .ok (.aload_n 0, 1) := by decide +kernel
theorem dX12_look_88 : decode cX12_look 88 = .ok (.getfield 7, 3) := by decide +kernel
theorem dX12_look_91 : decode cX12_look 91 = .ok (.iconst 3, 1) := by decide +kernel
theorem dX12_look_92 : decode cX12_look 92 = .ok (.iaload, 1) := by decide +kernel
theorem dX12_look_93 : decode cX12_look 93 = .ok (.ireturn, 1) := by decide +kernel
theorem dX12_look_94 : decode cX12_look 94 = .ok (.iload_n 1, 1) := by decide +kernel
theorem dX12_look_95 : decode cX12_look 95 = .ok (.bipush 8, 2) := by decide +kernel
theorem dX12_look_97 : decode cX12_look 97 = .ok (.if_icmp .ne 16, 3) := by decide +kernel
theorem dX12_look_100 : decode cX12_look 100 = .ok (.aload_n 0, 1) := by decide +kernel
theorem dX12_look_101 : decode cX12_look 101 = .ok (.invokevirtual 292, 3) := by decide +kernel
theorem dX12_look_104 : decode cX12_look 104 = .ok (.ifCond .eq 7, 3) := by decide +kernel
theorem dX12_look_107 : decode cX12_look 107 = .ok (.iconst 1, 1) := by decide +kernel
theorem dX12_look_108 : decode cX12_look 108 = .ok (.goto 4, 3) := by decide +kernel
theorem dX12_look_111 : decode cX12_look 111 = .ok (.iconst 0, 1) := by decide +kernel
theorem dX12_look_112 : decode cX12_look 112 = .ok (.ireturn, 1) := by decide +kernel
theorem dX12_look_113 : decode cX12_look 113 = .ok (.iload_n 1, 1) := by decide +kernel
theorem dX12_look_114 : decode cX12_look 114 = .ok (.bipush 9, 2) := by decide +kernel
theorem dX12_look_116 : decode cX12_look 116 = .ok (.if_icmp .ne 10, 3) := by decide +kernel
theorem dX12_look_119 : decode cX12_look 119 = .ok (.aload_n 0, 1) := by decide +kernel
theorem dX12_look_120 : decode cX12_look 120 = .ok (.getfield 7, 3) := by decide +kernel
theorem dX12_look_123 : decode cX12_look 123 = .ok (.iconst 4, 1) := by decide +kernel
theorem dX12_look_124 : decode cX12_look 124 = .ok (.iaload, 1) := by decide +kernel
theorem dX12_look_125 : decode cX12_look 125 = .ok (.ireturn, 1) := by decide +kernel
theorem dX12_look_126 : decode cX12_look 126 = .ok (.iload_n 1, 1) := by decide +kernel
theorem dX12_look_127 : decode cX12_look 127 = .ok (.bipush 10, 2) := by decide +kernel
theorem dX12_look_129 : decode cX12_look 129 = .ok (.if_icmp .ne 8, 3) := by decide +kernel
theorem dX12_look_132 : decode cX12_look 132 = .ok (.aload_n 0, 1) := by decide +kernel
theorem dX12_look_133 : decode cX12_look 133 = .ok (.getfield 123, 3) := by decide +kernel
theorem dX12_look_136 : decode cX12_look 136 = .ok (.ireturn, 1) := by decide +kernel
theorem dX12_look_137 : decode cX12_look 137 = .ok (.iload_n 1, 1) := by decide +kernel
theorem dX12_look_138 : decode cX12_look 138 = .ok (.bipush 11, 2) := by decide +kernel
theorem dX12_look_140 : decode cX12_look 140 = .ok (.if_icmp .ne 8, 3) := by decide +kernel
theorem dX12_look_143 : decode cX12_look 143 = .ok (.aload_n 0, 1) := by decide +kernel
theorem dX12_look_144 : decode cX12_look 144 = .ok (.invokevirtual 168, 3) := by decide +kernel
theorem dX12_look_147 : decode cX12_look 147 = .ok (.ireturn, 1) := by decide +kernel
theorem dX12_look_148 : decode cX12_look 148 = .ok (.iload_n 1, 1) := by decide +kernel
theorem dX12_look_149 : decode cX12_look 149 = .ok (.bipush 12, 2) := by decide +kernel
theorem dX12_look_151 : decode cX12_look 151 = .ok (.if_icmp .ne 8, 3) := by decide +kernel
theorem dX12_look_154 : decode cX12_look 154 = .ok (.aload_n 0, 1) := by decide +kernel
theorem dX12_look_155 : decode cX12_look 155 = .ok (.getfield 160, 3) := by decide +kernel
theorem dX12_look_158 : decode cX12_look 158 = .ok (.ireturn, 1) := by decide +kernel
theorem dX12_look_159 : decode cX12_look 159 = .ok (.iload_n 1, 1) := by decide +kernel
theorem dX12_look_160 : decode cX12_look 160 = .ok (.bipush 13, 2) := by decide +kernel
theorem dX12_look_162 : decode cX12_look 162 = .ok (.if_icmp .ne 8, 3) := by decide +kernel
theorem dX12_look_165 : decode cX12_look 165 = .ok (.aload_n 0, 1) := by decide +kernel
theorem dX12_look_166 : decode cX12_look 166 = .ok (.getfield 154, 3) := by decide +kernel
theorem dX12_look_169 : decode cX12_look 169 = .ok (.ireturn, 1) := by decide +kernel
theorem dX12_look_170 : decode cX12_look 170 = .ok (.iload_n 1, 1) := by decide +kernel
theorem dX12_look_171 : decode cX12_look 171 = .ok (.bipush 14, 2) := by decide +kernel
theorem dX12_look_173 : decode cX12_look 173 = .ok (.if_icmp .ne 8, 3) := by decide +kernel
theorem dX12_look_176 : decode cX12_look 176 = .ok (.aload_n 0, 1) := by decide +kernel
theorem dX12_look_177 : decode cX12_look 177 = .ok (.getfield 157, 3) := by decide +kernel
theorem dX12_look_180 : decode cX12_look 180 = .ok (.ireturn, 1) := by decide +kernel
theorem dX12_look_181 : decode cX12_look 181 = .ok (.iload_n 1, 1) := by decide +kernel
theorem dX12_look_182 : decode cX12_look 182 = .ok (.bipush 15, 2) := by decide +kernel
theorem dX12_look_184 : decode cX12_look 184 = .ok (.if_icmp .ne 10, 3) := by decide +kernel
theorem dX12_look_187 : decode cX12_look 187 = .ok (.aload_n 0, 1) := by decide +kernel
theorem dX12_look_188 : decode cX12_look 188 = .ok (.getfield 7, 3) := by decide +kernel
theorem dX12_look_191 : decode cX12_look 191 = .ok (.iconst 5, 1) := by decide +kernel
theorem dX12_look_192 : decode cX12_look 192 = .ok (.iaload, 1) := by decide +kernel
theorem dX12_look_193 : decode cX12_look 193 = .ok (.ireturn, 1) := by decide +kernel
theorem dX12_look_194 : decode cX12_look 194 = .ok (.aload_n 0, 1) := by decide +kernel
theorem dX12_look_195 : decode cX12_look 195 = .ok (.iload_n 1, 1) := by decide +kernel
theorem dX12_look_196 : decode cX12_look 196 = .ok (.bipush 20, 2) := by decide +kernel
theorem dX12_look_198 : decode cX12_look 198 = .ok (.bipush 43, 2) := by decide +kernel
theorem dX12_look_200 : decode cX12_look 200 = .ok (.invokevirtual 138, 3) := by decide +kernel
theorem dX12_look_203 : decode cX12_look 203 = .ok (.ifCond .eq 15, 3) := by decide +kernel
theorem dX12_look_206 : decode cX12_look 206 = .ok (.aload_n 0, 1) := by decide +kernel
theorem dX12_look_207 : decode cX12_look 207 = .ok (.getfield 44, 3) := by decide +kernel
theorem dX12_look_210 : decode cX12_look 210 = .ok (.iload_n 1, 1) := by decide +kernel
theorem dX12_look_211 : decode cX12_look 211 = .ok (.bipush 20, 2) := by decide +kernel
theorem dX12_look_213 : decode cX12_look 213 = .ok (.isub, 1) := by decide +kernel
theorem dX12_look_214 : decode cX12_look 214 = .ok (.iaload, 1) := by decide +kernel
theorem dX12_look_215 : decode cX12_look 215 = .ok (.iconst 1, 1) := by decide +kernel
theorem dX12_look_216 : decode cX12_look 216 = .ok (.isub, 1) := by decide +kernel
theorem dX12_look_217 : decode cX12_look 217 = .ok (.ireturn, 1) := by decide +kernel
theorem dX12_look_218 : decode cX12_look 218 = .ok (.aload_n 0, 1) := by decide +kernel
theorem dX12_look_219 : decode cX12_look 219 = .ok (.iload_n 1, 1) := by decide +kernel
theorem dX12_look_220 : decode cX12_look 220 = .ok (.bipush 50, 2) := by decide +kernel
theorem dX12_look_222 : decode cX12_look 222 = .ok (.bipush 49, 2) := by decide +kernel
theorem dX12_look_224 : decode cX12_look 224 = .ok (.aload_n 0, 1) := by decide +kernel
theorem dX12_look_225 : decode cX12_look 225 = .ok (.getfield 16, 3) := by decide +kernel
theorem dX12_look_228 : decode cX12_look 228 = .ok (.iadd, 1) := by decide +kernel
theorem dX12_look_229 : decode cX12_look 229 = .ok (.invokevirtual 138, 3) := by decide +kernel
theorem dX12_look_232 : decode cX12_look 232 = .ok (.ifCond .eq 17, 3) := by decide +kernel
theorem dX12_look_235 : decode cX12_look 235 = .ok (.aload_n 0, 1) := by decide +kernel
theorem dX12_look_236 : decode cX12_look 236 = .ok (.getfield 41, 3) := by decide +kernel
theorem dX12_look_239 : decode cX12_look 239 = .ok (.iload_n 1, 1) := by decide +kernel
theorem dX12_look_240 : decode cX12_look 240 = .ok (.bipush 50, 2) := by decide +kernel
theorem dX12_look_242 : decode cX12_look 242 = .ok (.isub, 1) := by decide +kernel
theorem dX12_look_243 : decode cX12_look 243 = .ok (.iaload, 1) := by decide +kernel
theorem dX12_look_244 : decode cX12_look 244 = .ok (.iconst 1, 1) := by decide +kernel
theorem dX12_look_245 : decode cX12_look 245 = .ok (.isub, 1) := by decide +kernel
theorem dX12_look_246 : decode cX12_look 246 = .ok (.goto 5, 3) := by decide +kernel
theorem dX12_look_249 : decode cX12_look 249 = .ok (.bipush (-2), 2) := by decide +kernel
theorem dX12_look_251 : decode cX12_look 251 = .ok (.ireturn, 1) := by decide +kernel
