theorem m_10 : (.classLink RL 7 RX4 : Cond) ∈ lw_g := lw_in (i := 10) rfl rfl
theorem m_11 : (.instantiable RX4 8 : Cond) ∈ lw_g := lw_in (i := 11) rfl rfl
theorem m_12 : (.methodLink RL 9 yX4_init : Cond) ∈ lw_g := lw_in (i := 12) rfl rfl
theorem m_13 : (.instanceMethod yX4_init : Cond) ∈ lw_g := lw_in (i := 13) rfl rfl
theorem m_14 : (.code yX4_init cX4_init 1 none : Cond) ∈ lw_g := lw_in (i := 14) rfl rfl
theorem m_100 : (.methodLink RL 13 yX4_feed : Cond) ∈ lw_g := lw_in (i := 100) rfl rfl
theorem m_101 : (.instanceMethod yX4_feed : Cond) ∈ lw_g := lw_in (i := 101) rfl rfl
theorem m_102 : (.selects RX4 yX4_feed yX4_feed : Cond) ∈ lw_g := lw_in (i := 102) rfl rfl
theorem m_103 : (.code yX4_feed cX4_feed 6 (some .boolean) : Cond) ∈ lw_g := lw_in (i := 103) rfl rfl
theorem m_116 : (.methodLink RL 18 yX4_end : Cond) ∈ lw_g := lw_in (i := 116) rfl rfl
theorem m_117 : (.instanceMethod yX4_end : Cond) ∈ lw_g := lw_in (i := 117) rfl rfl
theorem m_118 : (.selects RX4 yX4_end yX4_end : Cond) ∈ lw_g := lw_in (i := 118) rfl rfl
theorem m_119 : (.code yX4_end cX4_end 2 (some .boolean) : Cond) ∈ lw_g := lw_in (i := 119) rfl rfl
theorem m_131 : (.methodLink RL 23 yX4_width : Cond) ∈ lw_g := lw_in (i := 131) rfl rfl
theorem m_132 : (.instanceMethod yX4_width : Cond) ∈ lw_g := lw_in (i := 132) rfl rfl
theorem m_133 : (.selects RX4 yX4_width yX4_width : Cond) ∈ lw_g := lw_in (i := 133) rfl rfl
theorem m_134 : (.code yX4_width cX4_width 2 (some .boolean) : Cond) ∈ lw_g := lw_in (i := 134) rfl rfl
theorem m_135 : (.methodLink RL 27 yX4_add : Cond) ∈ lw_g := lw_in (i := 135) rfl rfl
theorem m_136 : (.instanceMethod yX4_add : Cond) ∈ lw_g := lw_in (i := 136) rfl rfl
theorem m_137 : (.selects RX4 yX4_add yX4_add : Cond) ∈ lw_g := lw_in (i := 137) rfl rfl
theorem m_138 : (.code yX4_add cX4_add 3 (some .boolean) : Cond) ∈ lw_g := lw_in (i := 138) rfl rfl
theorem m_149 : (.methodLink RL 32 yX4_clear : Cond) ∈ lw_g := lw_in (i := 149) rfl rfl
theorem m_150 : (.instanceMethod yX4_clear : Cond) ∈ lw_g := lw_in (i := 150) rfl rfl
theorem m_151 : (.selects RX4 yX4_clear yX4_clear : Cond) ∈ lw_g := lw_in (i := 151) rfl rfl
theorem m_152 : (.code yX4_clear cX4_clear 1 none : Cond) ∈ lw_g := lw_in (i := 152) rfl rfl
theorem m_157 : (.methodLink RL 36 yX4_encode : Cond) ∈ lw_g := lw_in (i := 157) rfl rfl
theorem m_158 : (.instanceMethod yX4_encode : Cond) ∈ lw_g := lw_in (i := 158) rfl rfl
theorem m_159 : (.selects RX4 yX4_encode yX4_encode : Cond) ∈ lw_g := lw_in (i := 159) rfl rfl
theorem m_160 : (.code yX4_encode cX4_encode 1 (some .int) : Cond) ∈ lw_g := lw_in (i := 160) rfl rfl
theorem m_212 : (.methodLink RL 41 yX4_decode : Cond) ∈ lw_g := lw_in (i := 212) rfl rfl
theorem m_213 : (.instanceMethod yX4_decode : Cond) ∈ lw_g := lw_in (i := 213) rfl rfl
theorem m_214 : (.selects RX4 yX4_decode yX4_decode : Cond) ∈ lw_g := lw_in (i := 214) rfl rfl
theorem m_215 : (.code yX4_decode cX4_decode 3 (some .int) : Cond) ∈ lw_g := lw_in (i := 215) rfl rfl
theorem m_253 : (.methodLink RL 46 yX4_turn : Cond) ∈ lw_g := lw_in (i := 253) rfl rfl
theorem m_254 : (.instanceMethod yX4_turn : Cond) ∈ lw_g := lw_in (i := 254) rfl rfl
theorem m_255 : (.selects RX4 yX4_turn yX4_turn : Cond) ∈ lw_g := lw_in (i := 255) rfl rfl
theorem m_256 : (.code yX4_turn cX4_turn 1 (some .boolean) : Cond) ∈ lw_g := lw_in (i := 256) rfl rfl
theorem m_257 : (.methodLink RL 51 yX4_size : Cond) ∈ lw_g := lw_in (i := 257) rfl rfl
theorem m_258 : (.instanceMethod yX4_size : Cond) ∈ lw_g := lw_in (i := 258) rfl rfl
theorem m_259 : (.selects RX4 yX4_size yX4_size : Cond) ∈ lw_g := lw_in (i := 259) rfl rfl
theorem m_260 : (.code yX4_size cX4_size 1 (some .int) : Cond) ∈ lw_g := lw_in (i := 260) rfl rfl
theorem m_262 : (.methodLink RL 55 yX4_value : Cond) ∈ lw_g := lw_in (i := 262) rfl rfl
theorem m_263 : (.instanceMethod yX4_value : Cond) ∈ lw_g := lw_in (i := 263) rfl rfl
theorem m_264 : (.selects RX4 yX4_value yX4_value : Cond) ∈ lw_g := lw_in (i := 264) rfl rfl
theorem m_265 : (.code yX4_value cX4_value 2 (some .int) : Cond) ∈ lw_g := lw_in (i := 265) rfl rfl
theorem m_267 : (.methodLink RL 59 yX4_output : Cond) ∈ lw_g := lw_in (i := 267) rfl rfl
theorem m_268 : (.instanceMethod yX4_output : Cond) ∈ lw_g := lw_in (i := 268) rfl rfl
theorem m_269 : (.selects RX4 yX4_output yX4_output : Cond) ∈ lw_g := lw_in (i := 269) rfl rfl
theorem m_270 : (.code yX4_output cX4_output 2 (some .int) : Cond) ∈ lw_g := lw_in (i := 270) rfl rfl
theorem m_272 : (.classLink RL 10 RX5 : Cond) ∈ lw_g := lw_in (i := 272) rfl rfl
theorem m_273 : (.instantiable RX5 13 : Cond) ∈ lw_g := lw_in (i := 273) rfl rfl
theorem m_274 : (.methodLink RL 12 yX5_init : Cond) ∈ lw_g := lw_in (i := 274) rfl rfl
theorem m_275 : (.instanceMethod yX5_init : Cond) ∈ lw_g := lw_in (i := 275) rfl rfl
theorem m_276 : (.code yX5_init cX5_init 1 none : Cond) ∈ lw_g := lw_in (i := 276) rfl rfl
theorem m_318 : (.methodLink RL 17 yX5_feed : Cond) ∈ lw_g := lw_in (i := 318) rfl rfl
theorem m_319 : (.instanceMethod yX5_feed : Cond) ∈ lw_g := lw_in (i := 319) rfl rfl
theorem m_320 : (.selects RX5 yX5_feed yX5_feed : Cond) ∈ lw_g := lw_in (i := 320) rfl rfl
theorem m_321 : (.code yX5_feed cX5_feed 8 (some .boolean) : Cond) ∈ lw_g := lw_in (i := 321) rfl rfl
theorem m_322 : (.methodLink RL 22 yX5_end : Cond) ∈ lw_g := lw_in (i := 322) rfl rfl
theorem m_323 : (.instanceMethod yX5_end : Cond) ∈ lw_g := lw_in (i := 323) rfl rfl
theorem m_324 : (.selects RX5 yX5_end yX5_end : Cond) ∈ lw_g := lw_in (i := 324) rfl rfl
theorem m_325 : (.code yX5_end cX5_end 3 (some .boolean) : Cond) ∈ lw_g := lw_in (i := 325) rfl rfl
theorem m_326 : (.methodLink RL 26 yX5_width : Cond) ∈ lw_g := lw_in (i := 326) rfl rfl
theorem m_327 : (.instanceMethod yX5_width : Cond) ∈ lw_g := lw_in (i := 327) rfl rfl
theorem m_328 : (.selects RX5 yX5_width yX5_width : Cond) ∈ lw_g := lw_in (i := 328) rfl rfl
theorem m_329 : (.code yX5_width cX5_width 2 (some .boolean) : Cond) ∈ lw_g := lw_in (i := 329) rfl rfl
theorem m_330 : (.methodLink RL 31 yX5_add : Cond) ∈ lw_g := lw_in (i := 330) rfl rfl
theorem m_331 : (.instanceMethod yX5_add : Cond) ∈ lw_g := lw_in (i := 331) rfl rfl
theorem m_332 : (.selects RX5 yX5_add yX5_add : Cond) ∈ lw_g := lw_in (i := 332) rfl rfl
theorem m_333 : (.code yX5_add cX5_add 4 (some .boolean) : Cond) ∈ lw_g := lw_in (i := 333) rfl rfl
theorem m_334 : (.methodLink RL 35 yX5_clear : Cond) ∈ lw_g := lw_in (i := 334) rfl rfl
theorem m_335 : (.instanceMethod yX5_clear : Cond) ∈ lw_g := lw_in (i := 335) rfl rfl
theorem m_336 : (.selects RX5 yX5_clear yX5_clear : Cond) ∈ lw_g := lw_in (i := 336) rfl rfl
theorem m_337 : (.code yX5_clear cX5_clear 1 none : Cond) ∈ lw_g := lw_in (i := 337) rfl rfl
theorem m_338 : (.methodLink RL 40 yX5_encode : Cond) ∈ lw_g := lw_in (i := 338) rfl rfl
theorem m_339 : (.instanceMethod yX5_encode : Cond) ∈ lw_g := lw_in (i := 339) rfl rfl
theorem m_340 : (.selects RX5 yX5_encode yX5_encode : Cond) ∈ lw_g := lw_in (i := 340) rfl rfl
theorem m_341 : (.code yX5_encode cX5_encode 2 (some .int) : Cond) ∈ lw_g := lw_in (i := 341) rfl rfl
theorem m_359 : (.methodLink RL 45 yX5_decode : Cond) ∈ lw_g := lw_in (i := 359) rfl rfl
theorem m_360 : (.instanceMethod yX5_decode : Cond) ∈ lw_g := lw_in (i := 360) rfl rfl
theorem m_361 : (.selects RX5 yX5_decode yX5_decode : Cond) ∈ lw_g := lw_in (i := 361) rfl rfl
theorem m_362 : (.code yX5_decode cX5_decode 3 (some .int) : Cond) ∈ lw_g := lw_in (i := 362) rfl rfl
theorem m_384 : (.methodLink RL 50 yX5_turn : Cond) ∈ lw_g := lw_in (i := 384) rfl rfl
theorem m_385 : (.instanceMethod yX5_turn : Cond) ∈ lw_g := lw_in (i := 385) rfl rfl
theorem m_386 : (.selects RX5 yX5_turn yX5_turn : Cond) ∈ lw_g := lw_in (i := 386) rfl rfl
theorem m_387 : (.code yX5_turn cX5_turn 2 (some .boolean) : Cond) ∈ lw_g := lw_in (i := 387) rfl rfl
theorem m_388 : (.methodLink RL 54 yX5_size : Cond) ∈ lw_g := lw_in (i := 388) rfl rfl
theorem m_389 : (.instanceMethod yX5_size : Cond) ∈ lw_g := lw_in (i := 389) rfl rfl
theorem m_390 : (.selects RX5 yX5_size yX5_size : Cond) ∈ lw_g := lw_in (i := 390) rfl rfl
theorem m_391 : (.code yX5_size cX5_size 1 (some .int) : Cond) ∈ lw_g := lw_in (i := 391) rfl rfl
theorem m_392 : (.methodLink RL 58 yX5_value : Cond) ∈ lw_g := lw_in (i := 392) rfl rfl
theorem m_393 : (.instanceMethod yX5_value : Cond) ∈ lw_g := lw_in (i := 393) rfl rfl
theorem m_394 : (.selects RX5 yX5_value yX5_value : Cond) ∈ lw_g := lw_in (i := 394) rfl rfl
theorem m_395 : (.code yX5_value cX5_value 2 (some .int) : Cond) ∈ lw_g := lw_in (i := 395) rfl rfl
theorem m_396 : (.methodLink RL 62 yX5_output : Cond) ∈ lw_g := lw_in (i := 396) rfl rfl
theorem m_397 : (.instanceMethod yX5_output : Cond) ∈ lw_g := lw_in (i := 397) rfl rfl
theorem m_398 : (.selects RX5 yX5_output yX5_output : Cond) ∈ lw_g := lw_in (i := 398) rfl rfl
theorem m_399 : (.code yX5_output cX5_output 2 (some .int) : Cond) ∈ lw_g := lw_in (i := 399) rfl rfl
