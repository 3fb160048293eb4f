theorem m_10 : (.classLink RL 7 RX4 : Cond) ∈ lw_g := lw_in (i := 10) rfl rfl
theorem m_11 : (.instantiable RX4 8 : Cond) ∈ lw_g := lw_in (i := 11) rfl rfl
theorem m_12 : (.methodLink RL 9 yX4_init : Cond) ∈ lw_g := lw_in (i := 12) rfl rfl
theorem m_13 : (.instanceMethod yX4_init : Cond) ∈ lw_g := lw_in (i := 13) rfl rfl
theorem m_14 : (.code yX4_init cX4_init 1 none : Cond) ∈ lw_g := lw_in (i := 14) rfl rfl
theorem m_106 : (.methodLink RL 13 yX4_feed : Cond) ∈ lw_g := lw_in (i := 106) rfl rfl
theorem m_107 : (.instanceMethod yX4_feed : Cond) ∈ lw_g := lw_in (i := 107) rfl rfl
theorem m_108 : (.selects RX4 yX4_feed yX4_feed : Cond) ∈ lw_g := lw_in (i := 108) rfl rfl
theorem m_109 : (.code yX4_feed cX4_feed 6 (some .boolean) : Cond) ∈ lw_g := lw_in (i := 109) rfl rfl
theorem m_122 : (.methodLink RL 18 yX4_end : Cond) ∈ lw_g := lw_in (i := 122) rfl rfl
theorem m_123 : (.instanceMethod yX4_end : Cond) ∈ lw_g := lw_in (i := 123) rfl rfl
theorem m_124 : (.selects RX4 yX4_end yX4_end : Cond) ∈ lw_g := lw_in (i := 124) rfl rfl
theorem m_125 : (.code yX4_end cX4_end 2 (some .boolean) : Cond) ∈ lw_g := lw_in (i := 125) rfl rfl
theorem m_137 : (.methodLink RL 23 yX4_width : Cond) ∈ lw_g := lw_in (i := 137) rfl rfl
theorem m_138 : (.instanceMethod yX4_width : Cond) ∈ lw_g := lw_in (i := 138) rfl rfl
theorem m_139 : (.selects RX4 yX4_width yX4_width : Cond) ∈ lw_g := lw_in (i := 139) rfl rfl
theorem m_140 : (.code yX4_width cX4_width 2 (some .boolean) : Cond) ∈ lw_g := lw_in (i := 140) rfl rfl
theorem m_141 : (.methodLink RL 27 yX4_add : Cond) ∈ lw_g := lw_in (i := 141) rfl rfl
theorem m_142 : (.instanceMethod yX4_add : Cond) ∈ lw_g := lw_in (i := 142) rfl rfl
theorem m_143 : (.selects RX4 yX4_add yX4_add : Cond) ∈ lw_g := lw_in (i := 143) rfl rfl
theorem m_144 : (.code yX4_add cX4_add 3 (some .boolean) : Cond) ∈ lw_g := lw_in (i := 144) rfl rfl
theorem m_155 : (.methodLink RL 32 yX4_clear : Cond) ∈ lw_g := lw_in (i := 155) rfl rfl
theorem m_156 : (.instanceMethod yX4_clear : Cond) ∈ lw_g := lw_in (i := 156) rfl rfl
theorem m_157 : (.selects RX4 yX4_clear yX4_clear : Cond) ∈ lw_g := lw_in (i := 157) rfl rfl
theorem m_158 : (.code yX4_clear cX4_clear 1 none : Cond) ∈ lw_g := lw_in (i := 158) rfl rfl
theorem m_163 : (.methodLink RL 36 yX4_encode : Cond) ∈ lw_g := lw_in (i := 163) rfl rfl
theorem m_164 : (.instanceMethod yX4_encode : Cond) ∈ lw_g := lw_in (i := 164) rfl rfl
theorem m_165 : (.selects RX4 yX4_encode yX4_encode : Cond) ∈ lw_g := lw_in (i := 165) rfl rfl
theorem m_166 : (.code yX4_encode cX4_encode 1 (some .int) : Cond) ∈ lw_g := lw_in (i := 166) rfl rfl
theorem m_218 : (.methodLink RL 41 yX4_decode : Cond) ∈ lw_g := lw_in (i := 218) rfl rfl
theorem m_219 : (.instanceMethod yX4_decode : Cond) ∈ lw_g := lw_in (i := 219) rfl rfl
theorem m_220 : (.selects RX4 yX4_decode yX4_decode : Cond) ∈ lw_g := lw_in (i := 220) rfl rfl
theorem m_221 : (.code yX4_decode cX4_decode 3 (some .int) : Cond) ∈ lw_g := lw_in (i := 221) rfl rfl
theorem m_259 : (.methodLink RL 46 yX4_turn : Cond) ∈ lw_g := lw_in (i := 259) rfl rfl
theorem m_260 : (.instanceMethod yX4_turn : Cond) ∈ lw_g := lw_in (i := 260) rfl rfl
theorem m_261 : (.selects RX4 yX4_turn yX4_turn : Cond) ∈ lw_g := lw_in (i := 261) rfl rfl
theorem m_262 : (.code yX4_turn cX4_turn 1 (some .boolean) : Cond) ∈ lw_g := lw_in (i := 262) rfl rfl
theorem m_263 : (.methodLink RL 51 yX4_size : Cond) ∈ lw_g := lw_in (i := 263) rfl rfl
theorem m_264 : (.instanceMethod yX4_size : Cond) ∈ lw_g := lw_in (i := 264) rfl rfl
theorem m_265 : (.selects RX4 yX4_size yX4_size : Cond) ∈ lw_g := lw_in (i := 265) rfl rfl
theorem m_266 : (.code yX4_size cX4_size 1 (some .int) : Cond) ∈ lw_g := lw_in (i := 266) rfl rfl
theorem m_268 : (.methodLink RL 55 yX4_value : Cond) ∈ lw_g := lw_in (i := 268) rfl rfl
theorem m_269 : (.instanceMethod yX4_value : Cond) ∈ lw_g := lw_in (i := 269) rfl rfl
theorem m_270 : (.selects RX4 yX4_value yX4_value : Cond) ∈ lw_g := lw_in (i := 270) rfl rfl
theorem m_271 : (.code yX4_value cX4_value 2 (some .int) : Cond) ∈ lw_g := lw_in (i := 271) rfl rfl
theorem m_273 : (.methodLink RL 59 yX4_output : Cond) ∈ lw_g := lw_in (i := 273) rfl rfl
theorem m_274 : (.instanceMethod yX4_output : Cond) ∈ lw_g := lw_in (i := 274) rfl rfl
theorem m_275 : (.selects RX4 yX4_output yX4_output : Cond) ∈ lw_g := lw_in (i := 275) rfl rfl
theorem m_276 : (.code yX4_output cX4_output 2 (some .int) : Cond) ∈ lw_g := lw_in (i := 276) rfl rfl
theorem m_278 : (.classLink RL 10 RX5 : Cond) ∈ lw_g := lw_in (i := 278) rfl rfl
theorem m_279 : (.instantiable RX5 13 : Cond) ∈ lw_g := lw_in (i := 279) rfl rfl
theorem m_280 : (.methodLink RL 12 yX5_init : Cond) ∈ lw_g := lw_in (i := 280) rfl rfl
theorem m_281 : (.instanceMethod yX5_init : Cond) ∈ lw_g := lw_in (i := 281) rfl rfl
theorem m_282 : (.code yX5_init cX5_init 1 none : Cond) ∈ lw_g := lw_in (i := 282) rfl rfl
theorem m_324 : (.methodLink RL 17 yX5_feed : Cond) ∈ lw_g := lw_in (i := 324) rfl rfl
theorem m_325 : (.instanceMethod yX5_feed : Cond) ∈ lw_g := lw_in (i := 325) rfl rfl
theorem m_326 : (.selects RX5 yX5_feed yX5_feed : Cond) ∈ lw_g := lw_in (i := 326) rfl rfl
theorem m_327 : (.code yX5_feed cX5_feed 8 (some .boolean) : Cond) ∈ lw_g := lw_in (i := 327) rfl rfl
theorem m_328 : (.methodLink RL 22 yX5_end : Cond) ∈ lw_g := lw_in (i := 328) rfl rfl
theorem m_329 : (.instanceMethod yX5_end : Cond) ∈ lw_g := lw_in (i := 329) rfl rfl
theorem m_330 : (.selects RX5 yX5_end yX5_end : Cond) ∈ lw_g := lw_in (i := 330) rfl rfl
theorem m_331 : (.code yX5_end cX5_end 3 (some .boolean) : Cond) ∈ lw_g := lw_in (i := 331) rfl rfl
theorem m_332 : (.methodLink RL 26 yX5_width : Cond) ∈ lw_g := lw_in (i := 332) rfl rfl
theorem m_333 : (.instanceMethod yX5_width : Cond) ∈ lw_g := lw_in (i := 333) rfl rfl
theorem m_334 : (.selects RX5 yX5_width yX5_width : Cond) ∈ lw_g := lw_in (i := 334) rfl rfl
theorem m_335 : (.code yX5_width cX5_width 2 (some .boolean) : Cond) ∈ lw_g := lw_in (i := 335) rfl rfl
theorem m_336 : (.methodLink RL 31 yX5_add : Cond) ∈ lw_g := lw_in (i := 336) rfl rfl
theorem m_337 : (.instanceMethod yX5_add : Cond) ∈ lw_g := lw_in (i := 337) rfl rfl
theorem m_338 : (.selects RX5 yX5_add yX5_add : Cond) ∈ lw_g := lw_in (i := 338) rfl rfl
theorem m_339 : (.code yX5_add cX5_add 4 (some .boolean) : Cond) ∈ lw_g := lw_in (i := 339) rfl rfl
theorem m_340 : (.methodLink RL 35 yX5_clear : Cond) ∈ lw_g := lw_in (i := 340) rfl rfl
theorem m_341 : (.instanceMethod yX5_clear : Cond) ∈ lw_g := lw_in (i := 341) rfl rfl
theorem m_342 : (.selects RX5 yX5_clear yX5_clear : Cond) ∈ lw_g := lw_in (i := 342) rfl rfl
theorem m_343 : (.code yX5_clear cX5_clear 1 none : Cond) ∈ lw_g := lw_in (i := 343) rfl rfl
theorem m_344 : (.methodLink RL 40 yX5_encode : Cond) ∈ lw_g := lw_in (i := 344) rfl rfl
theorem m_345 : (.instanceMethod yX5_encode : Cond) ∈ lw_g := lw_in (i := 345) rfl rfl
theorem m_346 : (.selects RX5 yX5_encode yX5_encode : Cond) ∈ lw_g := lw_in (i := 346) rfl rfl
theorem m_347 : (.code yX5_encode cX5_encode 2 (some .int) : Cond) ∈ lw_g := lw_in (i := 347) rfl rfl
theorem m_365 : (.methodLink RL 45 yX5_decode : Cond) ∈ lw_g := lw_in (i := 365) rfl rfl
theorem m_366 : (.instanceMethod yX5_decode : Cond) ∈ lw_g := lw_in (i := 366) rfl rfl
theorem m_367 : (.selects RX5 yX5_decode yX5_decode : Cond) ∈ lw_g := lw_in (i := 367) rfl rfl
theorem m_368 : (.code yX5_decode cX5_decode 3 (some .int) : Cond) ∈ lw_g := lw_in (i := 368) rfl rfl
theorem m_390 : (.methodLink RL 50 yX5_turn : Cond) ∈ lw_g := lw_in (i := 390) rfl rfl
theorem m_391 : (.instanceMethod yX5_turn : Cond) ∈ lw_g := lw_in (i := 391) rfl rfl
theorem m_392 : (.selects RX5 yX5_turn yX5_turn : Cond) ∈ lw_g := lw_in (i := 392) rfl rfl
theorem m_393 : (.code yX5_turn cX5_turn 2 (some .boolean) : Cond) ∈ lw_g := lw_in (i := 393) rfl rfl
theorem m_394 : (.methodLink RL 54 yX5_size : Cond) ∈ lw_g := lw_in (i := 394) rfl rfl
theorem m_395 : (.instanceMethod yX5_size : Cond) ∈ lw_g := lw_in (i := 395) rfl rfl
theorem m_396 : (.selects RX5 yX5_size yX5_size : Cond) ∈ lw_g := lw_in (i := 396) rfl rfl
theorem m_397 : (.code yX5_size cX5_size 1 (some .int) : Cond) ∈ lw_g := lw_in (i := 397) rfl rfl
theorem m_398 : (.methodLink RL 58 yX5_value : Cond) ∈ lw_g := lw_in (i := 398) rfl rfl
theorem m_399 : (.instanceMethod yX5_value : Cond) ∈ lw_g := lw_in (i := 399) rfl rfl
theorem m_400 : (.selects RX5 yX5_value yX5_value : Cond) ∈ lw_g := lw_in (i := 400) rfl rfl
theorem m_401 : (.code yX5_value cX5_value 2 (some .int) : Cond) ∈ lw_g := lw_in (i := 401) rfl rfl
theorem m_402 : (.methodLink RL 62 yX5_output : Cond) ∈ lw_g := lw_in (i := 402) rfl rfl
theorem m_403 : (.instanceMethod yX5_output : Cond) ∈ lw_g := lw_in (i := 403) rfl rfl
theorem m_404 : (.selects RX5 yX5_output yX5_output : Cond) ∈ lw_g := lw_in (i := 404) rfl rfl
theorem m_405 : (.code yX5_output cX5_output 2 (some .int) : Cond) ∈ lw_g := lw_in (i := 405) rfl rfl
