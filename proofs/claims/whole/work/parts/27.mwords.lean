theorem m_277 : (.methodLink RX5 1 objectInit : Cond) ∈ lw_g := lw_in (i := 277) rfl rfl
theorem m_278 : (.fieldLink RX5 25 "RunRowsModel" "code" "I" : Cond) ∈ lw_g := lw_in (i := 278) rfl rfl
theorem m_279 : (.fieldLink RX5 7 "RunRowsModel" "row" "[I" : Cond) ∈ lw_g := lw_in (i := 279) rfl rfl
theorem m_280 : (.fieldLink RX5 13 "RunRowsModel" "spare" "[I" : Cond) ∈ lw_g := lw_in (i := 280) rfl rfl
theorem m_281 : (.fieldLink RX5 53 "RunRowsModel" "size" "I" : Cond) ∈ lw_g := lw_in (i := 281) rfl rfl
theorem m_282 : (.fieldLink RX5 50 "RunRowsModel" "width" "I" : Cond) ∈ lw_g := lw_in (i := 282) rfl rfl
theorem m_283 : (.fieldLink RX5 44 "RunRowsModel" "taped" "I" : Cond) ∈ lw_g := lw_in (i := 283) rfl rfl
theorem m_284 : (.fieldLink RX5 47 "RunRowsModel" "inputSize" "I" : Cond) ∈ lw_g := lw_in (i := 284) rfl rfl
theorem m_288 : (.fieldLink RX5 16 "RunRowsModel" "tape" "[I" : Cond) ∈ lw_g := lw_in (i := 288) rfl rfl
theorem m_342 : (.methodLink RX5 83 yX5_writeRuns : Cond) ∈ lw_g := lw_in (i := 342) rfl rfl
theorem m_344 : (.instanceMethod yX5_writeRuns : Cond) ∈ lw_g := lw_in (i := 344) rfl rfl
theorem m_345 : (.code yX5_writeRuns cX5_writeRuns 11 none : Cond) ∈ lw_g := lw_in (i := 345) rfl rfl
theorem m_363 : (.methodLink RX5 87 yX5_readRuns : Cond) ∈ lw_g := lw_in (i := 363) rfl rfl
theorem m_365 : (.instanceMethod yX5_readRuns : Cond) ∈ lw_g := lw_in (i := 365) rfl rfl
theorem m_366 : (.code yX5_readRuns cX5_readRuns 10 none : Cond) ∈ lw_g := lw_in (i := 366) rfl rfl
theorem m_367 : (.methodLink RX5 66 yX5_varint : Cond) ∈ lw_g := lw_in (i := 367) rfl rfl
theorem m_369 : (.instanceMethod yX5_varint : Cond) ∈ lw_g := lw_in (i := 369) rfl rfl
theorem m_370 : (.code yX5_varint cX5_varint 6 (some .long) : Cond) ∈ lw_g := lw_in (i := 370) rfl rfl
theorem m_371 : (.methodLink RX5 70 yX5_readOne : Cond) ∈ lw_g := lw_in (i := 371) rfl rfl
theorem m_373 : (.instanceMethod yX5_readOne : Cond) ∈ lw_g := lw_in (i := 373) rfl rfl
theorem m_374 : (.code yX5_readOne cX5_readOne 11 (some .int) : Cond) ∈ lw_g := lw_in (i := 374) rfl rfl
theorem m_379 : (.methodLink RX5 74 yX5_readGroups : Cond) ∈ lw_g := lw_in (i := 379) rfl rfl
theorem m_381 : (.instanceMethod yX5_readGroups : Cond) ∈ lw_g := lw_in (i := 381) rfl rfl
theorem m_382 : (.code yX5_readGroups cX5_readGroups 10 (some .int) : Cond) ∈ lw_g := lw_in (i := 382) rfl rfl
theorem mp_11 : (.selects RX5 yX5_writeRuns yX5_writeRuns : Cond) ∈ lw_g := lw_inp (i := 11) rfl rfl
theorem mp_14 : (.selects RX5 yX5_readRuns yX5_readRuns : Cond) ∈ lw_g := lw_inp (i := 14) rfl rfl
theorem mp_15 : (.selects RX5 yX5_varint yX5_varint : Cond) ∈ lw_g := lw_inp (i := 15) rfl rfl
theorem mp_16 : (.selects RX5 yX5_readOne yX5_readOne : Cond) ∈ lw_g := lw_inp (i := 16) rfl rfl
theorem mp_18 : (.selects RX5 yX5_readGroups yX5_readGroups : Cond) ∈ lw_g := lw_inp (i := 18) rfl rfl
