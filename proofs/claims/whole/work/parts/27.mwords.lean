theorem m_283 : (.methodLink RX5 1 objectInit : Cond) ∈ lw_g := lw_in (i := 283) rfl rfl
theorem m_284 : (.fieldLink RX5 25 "RunRowsModel" "code" "I" : Cond) ∈ lw_g := lw_in (i := 284) rfl rfl
theorem m_285 : (.fieldLink RX5 7 "RunRowsModel" "row" "[I" : Cond) ∈ lw_g := lw_in (i := 285) rfl rfl
theorem m_286 : (.fieldLink RX5 13 "RunRowsModel" "spare" "[I" : Cond) ∈ lw_g := lw_in (i := 286) rfl rfl
theorem m_287 : (.fieldLink RX5 53 "RunRowsModel" "size" "I" : Cond) ∈ lw_g := lw_in (i := 287) rfl rfl
theorem m_288 : (.fieldLink RX5 50 "RunRowsModel" "width" "I" : Cond) ∈ lw_g := lw_in (i := 288) rfl rfl
theorem m_289 : (.fieldLink RX5 44 "RunRowsModel" "taped" "I" : Cond) ∈ lw_g := lw_in (i := 289) rfl rfl
theorem m_290 : (.fieldLink RX5 47 "RunRowsModel" "inputSize" "I" : Cond) ∈ lw_g := lw_in (i := 290) rfl rfl
theorem m_294 : (.fieldLink RX5 16 "RunRowsModel" "tape" "[I" : Cond) ∈ lw_g := lw_in (i := 294) rfl rfl
theorem m_348 : (.methodLink RX5 83 yX5_writeRuns : Cond) ∈ lw_g := lw_in (i := 348) rfl rfl
theorem m_350 : (.instanceMethod yX5_writeRuns : Cond) ∈ lw_g := lw_in (i := 350) rfl rfl
theorem m_351 : (.code yX5_writeRuns cX5_writeRuns 11 none : Cond) ∈ lw_g := lw_in (i := 351) rfl rfl
theorem m_369 : (.methodLink RX5 87 yX5_readRuns : Cond) ∈ lw_g := lw_in (i := 369) rfl rfl
theorem m_371 : (.instanceMethod yX5_readRuns : Cond) ∈ lw_g := lw_in (i := 371) rfl rfl
theorem m_372 : (.code yX5_readRuns cX5_readRuns 10 none : Cond) ∈ lw_g := lw_in (i := 372) rfl rfl
theorem m_373 : (.methodLink RX5 66 yX5_varint : Cond) ∈ lw_g := lw_in (i := 373) rfl rfl
theorem m_375 : (.instanceMethod yX5_varint : Cond) ∈ lw_g := lw_in (i := 375) rfl rfl
theorem m_376 : (.code yX5_varint cX5_varint 6 (some .long) : Cond) ∈ lw_g := lw_in (i := 376) rfl rfl
theorem m_377 : (.methodLink RX5 70 yX5_readOne : Cond) ∈ lw_g := lw_in (i := 377) rfl rfl
theorem m_379 : (.instanceMethod yX5_readOne : Cond) ∈ lw_g := lw_in (i := 379) rfl rfl
theorem m_380 : (.code yX5_readOne cX5_readOne 11 (some .int) : Cond) ∈ lw_g := lw_in (i := 380) rfl rfl
theorem m_385 : (.methodLink RX5 74 yX5_readGroups : Cond) ∈ lw_g := lw_in (i := 385) rfl rfl
theorem m_387 : (.instanceMethod yX5_readGroups : Cond) ∈ lw_g := lw_in (i := 387) rfl rfl
theorem m_388 : (.code yX5_readGroups cX5_readGroups 10 (some .int) : Cond) ∈ lw_g := lw_in (i := 388) rfl rfl
theorem mp_11 : (.selects RX5 yX5_writeRuns yX5_writeRuns : Cond) ∈ lw_g := lw_inp (i := 11) rfl rfl
theorem mp_14 : (.selects RX5 yX5_readRuns yX5_readRuns : Cond) ∈ lw_g := lw_inp (i := 14) rfl rfl
theorem mp_15 : (.selects RX5 yX5_varint yX5_varint : Cond) ∈ lw_g := lw_inp (i := 15) rfl rfl
theorem mp_16 : (.selects RX5 yX5_readOne yX5_readOne : Cond) ∈ lw_g := lw_inp (i := 16) rfl rfl
theorem mp_18 : (.selects RX5 yX5_readGroups yX5_readGroups : Cond) ∈ lw_g := lw_inp (i := 18) rfl rfl
