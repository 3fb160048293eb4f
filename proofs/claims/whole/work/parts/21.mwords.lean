theorem m_7 : (.initialized RX5 : Cond) ∈ lw_g := lw_in (i := 7) rfl rfl
theorem m_291 : (.fieldLink RX5 29 "RunRowsModel" "outSize" "I" : Cond) ∈ lw_g := lw_in (i := 291) rfl rfl
theorem m_296 : (.fieldLink RX5 22 "RunRowsModel" "out" "[I" : Cond) ∈ lw_g := lw_in (i := 296) rfl rfl
theorem m_352 : (.methodLink RX5 56 yX5_alike : Cond) ∈ lw_g := lw_in (i := 352) rfl rfl
theorem m_353 : (.static yX5_alike : Cond) ∈ lw_g := lw_in (i := 353) rfl rfl
theorem m_354 : (.code yX5_alike cX5_alike 4 (some .int) : Cond) ∈ lw_g := lw_in (i := 354) rfl rfl
theorem m_355 : (.constantLong RX5 60 (lN 2) : Cond) ∈ lw_g := lw_in (i := 355) rfl rfl
theorem m_356 : (.methodLink RX5 62 yX5_putVarint : Cond) ∈ lw_g := lw_in (i := 356) rfl rfl
theorem m_358 : (.instanceMethod yX5_putVarint : Cond) ∈ lw_g := lw_in (i := 358) rfl rfl
theorem m_359 : (.code yX5_putVarint cX5_putVarint 5 none : Cond) ∈ lw_g := lw_in (i := 359) rfl rfl
theorem m_360 : (.constantLong RX5 38 (lN 127) : Cond) ∈ lw_g := lw_in (i := 360) rfl rfl
theorem m_361 : (.methodLink RX5 40 yX5_put : Cond) ∈ lw_g := lw_in (i := 361) rfl rfl
theorem m_363 : (.instanceMethod yX5_put : Cond) ∈ lw_g := lw_in (i := 363) rfl rfl
theorem m_364 : (.code yX5_put cX5_put 2 none : Cond) ∈ lw_g := lw_in (i := 364) rfl rfl
theorem mp_12 : (.selects RX5 yX5_putVarint yX5_putVarint : Cond) ∈ lw_g := lw_inp (i := 12) rfl rfl
theorem mp_13 : (.selects RX5 yX5_put yX5_put : Cond) ∈ lw_g := lw_inp (i := 13) rfl rfl
