theorem m_286 : (.fieldLink RX5 35 "RunRowsModel" "at" "I" : Cond) ∈ lw_g := lw_in (i := 286) rfl rfl
theorem m_287 : (.fieldLink RX5 32 "RunRowsModel" "fault" "I" : Cond) ∈ lw_g := lw_in (i := 287) rfl rfl
theorem m_289 : (.fieldLink RX5 19 "RunRowsModel" "input" "[I" : Cond) ∈ lw_g := lw_in (i := 289) rfl rfl
theorem m_375 : (.methodLink RX5 77 yX5_bitsAt : Cond) ∈ lw_g := lw_in (i := 375) rfl rfl
theorem m_377 : (.instanceMethod yX5_bitsAt : Cond) ∈ lw_g := lw_in (i := 377) rfl rfl
theorem m_378 : (.code yX5_bitsAt cX5_bitsAt 6 (some .int) : Cond) ∈ lw_g := lw_in (i := 378) rfl rfl
theorem m_383 : (.constantLong RX5 81 (lN 8) : Cond) ∈ lw_g := lw_in (i := 383) rfl rfl
theorem mp_17 : (.selects RX5 yX5_bitsAt yX5_bitsAt : Cond) ∈ lw_g := lw_inp (i := 17) rfl rfl
