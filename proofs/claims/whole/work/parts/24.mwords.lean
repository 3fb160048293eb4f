theorem m_292 : (.fieldLink RX5 35 "RunRowsModel" "at" "I" : Cond) ∈ lw_g := lw_in (i := 292) rfl rfl
theorem m_293 : (.fieldLink RX5 32 "RunRowsModel" "fault" "I" : Cond) ∈ lw_g := lw_in (i := 293) rfl rfl
theorem m_295 : (.fieldLink RX5 19 "RunRowsModel" "input" "[I" : Cond) ∈ lw_g := lw_in (i := 295) rfl rfl
theorem m_381 : (.methodLink RX5 77 yX5_bitsAt : Cond) ∈ lw_g := lw_in (i := 381) rfl rfl
theorem m_383 : (.instanceMethod yX5_bitsAt : Cond) ∈ lw_g := lw_in (i := 383) rfl rfl
theorem m_384 : (.code yX5_bitsAt cX5_bitsAt 6 (some .int) : Cond) ∈ lw_g := lw_in (i := 384) rfl rfl
theorem m_389 : (.constantLong RX5 81 (lN 8) : Cond) ∈ lw_g := lw_in (i := 389) rfl rfl
theorem mp_17 : (.selects RX5 yX5_bitsAt yX5_bitsAt : Cond) ∈ lw_g := lw_inp (i := 17) rfl rfl
