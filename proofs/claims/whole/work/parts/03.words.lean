theorem m_1 : (.initialized RX4 : Cond) ∈ lw_g := lw_in (i := 1) rfl rfl
theorem m_2 : (.initialized RX0 : Cond) ∈ lw_g := lw_in (i := 2) rfl rfl
theorem m_3 : (.initialized "java/lang/Math" : Cond) ∈ lw_g := lw_in (i := 3) rfl rfl
theorem m_4 : (.initialized RX3 : Cond) ∈ lw_g := lw_in (i := 4) rfl rfl
theorem m_5 : (.initialized RX1 : Cond) ∈ lw_g := lw_in (i := 5) rfl rfl
theorem m_6 : (.initialized RX2 : Cond) ∈ lw_g := lw_in (i := 6) rfl rfl
theorem m_8 : (.initialized "java/lang/System" : Cond) ∈ lw_g := lw_in (i := 8) rfl rfl
theorem m_9 : (.initialized RJ7 : Cond) ∈ lw_g := lw_in (i := 9) rfl rfl
theorem m_15 : (.methodLink RX4 1 objectInit : Cond) ∈ lw_g := lw_in (i := 15) rfl rfl
theorem m_16 : (.instanceMethod objectInit : Cond) ∈ lw_g := lw_in (i := 16) rfl rfl
theorem m_17 : (.code objectInit ⟨#[0xb1]⟩ 1 none : Cond) ∈ lw_g := lw_in (i := 17) rfl rfl
theorem m_18 : (.classLink RX4 7 RX0 : Cond) ∈ lw_g := lw_in (i := 18) rfl rfl
theorem m_19 : (.instantiable RX0 2 : Cond) ∈ lw_g := lw_in (i := 19) rfl rfl
theorem m_20 : (.methodLink RX4 11 yX0_init : Cond) ∈ lw_g := lw_in (i := 20) rfl rfl
theorem m_21 : (.instanceMethod yX0_init : Cond) ∈ lw_g := lw_in (i := 21) rfl rfl
theorem m_22 : (.code yX0_init cX0_init 2 none : Cond) ∈ lw_g := lw_in (i := 22) rfl rfl
theorem m_23 : (.methodLink RX0 3 objectInit : Cond) ∈ lw_g := lw_in (i := 23) rfl rfl
theorem m_24 : (.methodLink RX0 15 Lib.Math.max.name : Cond) ∈ lw_g := lw_in (i := 24) rfl rfl
theorem m_25 : (.static Lib.Math.max.name : Cond) ∈ lw_g := lw_in (i := 25) rfl rfl
theorem m_26 : (.code Lib.Math.max.name Lib.Math.max.code 2 (some .int) : Cond) ∈ lw_g := lw_in (i := 26) rfl rfl
theorem m_27 : (.fieldLink RX0 21 "RunRows$Bytes" "bytes" "[B" : Cond) ∈ lw_g := lw_in (i := 27) rfl rfl
theorem m_28 : (.fieldLink RX0 9 "RunRows$Bytes" "count" "I" : Cond) ∈ lw_g := lw_in (i := 28) rfl rfl
theorem m_34 : (.arrayClass .byte : Cond) ∈ lw_g := lw_in (i := 34) rfl rfl
theorem m_35 : (.classLink RX4 18 RX3 : Cond) ∈ lw_g := lw_in (i := 35) rfl rfl
theorem m_36 : (.instantiable RX3 1 : Cond) ∈ lw_g := lw_in (i := 36) rfl rfl
theorem m_38 : (.instanceMethod yX3_init : Cond) ∈ lw_g := lw_in (i := 38) rfl rfl
theorem m_39 : (.code yX3_init cX3_init 1 none : Cond) ∈ lw_g := lw_in (i := 39) rfl rfl
theorem m_40 : (.methodLink RX3 3 objectInit : Cond) ∈ lw_g := lw_in (i := 40) rfl rfl
theorem m_41 : (.classLink RX3 9 RX0 : Cond) ∈ lw_g := lw_in (i := 41) rfl rfl
theorem m_42 : (.methodLink RX3 11 yX0_init : Cond) ∈ lw_g := lw_in (i := 42) rfl rfl
theorem m_43 : (.fieldLink RX3 14 "RunRows$Writer" "to" "LRunRows$Bytes;" : Cond) ∈ lw_g := lw_in (i := 43) rfl rfl
theorem m_48 : (.classLink RX4 25 RX1 : Cond) ∈ lw_g := lw_in (i := 48) rfl rfl
theorem m_49 : (.instantiable RX1 3 : Cond) ∈ lw_g := lw_in (i := 49) rfl rfl
theorem m_51 : (.instanceMethod yX1_init : Cond) ∈ lw_g := lw_in (i := 51) rfl rfl
theorem m_52 : (.code yX1_init cX1_init 1 none : Cond) ∈ lw_g := lw_in (i := 52) rfl rfl
theorem m_53 : (.methodLink RX1 3 objectInit : Cond) ∈ lw_g := lw_in (i := 53) rfl rfl
theorem m_54 : (.classLink RX1 9 RX0 : Cond) ∈ lw_g := lw_in (i := 54) rfl rfl
theorem m_55 : (.methodLink RX1 11 yX0_init : Cond) ∈ lw_g := lw_in (i := 55) rfl rfl
theorem m_56 : (.fieldLink RX1 14 "RunRows$Reader" "from" "LRunRows$Bytes;" : Cond) ∈ lw_g := lw_in (i := 56) rfl rfl
theorem m_58 : (.fieldLink RX1 20 "RunRows$Reader" "at" "I" : Cond) ∈ lw_g := lw_in (i := 58) rfl rfl
theorem m_59 : (.fieldLink RX1 24 "RunRows$Reader" "head" "J" : Cond) ∈ lw_g := lw_in (i := 59) rfl rfl
theorem m_67 : (.classLink RX4 44 RX2 : Cond) ∈ lw_g := lw_in (i := 67) rfl rfl
theorem m_68 : (.instantiable RX2 2 : Cond) ∈ lw_g := lw_in (i := 68) rfl rfl
theorem m_70 : (.instanceMethod yX2_init : Cond) ∈ lw_g := lw_in (i := 70) rfl rfl
theorem m_71 : (.code yX2_init cX2_init 1 none : Cond) ∈ lw_g := lw_in (i := 71) rfl rfl
theorem m_72 : (.methodLink RX2 3 objectInit : Cond) ∈ lw_g := lw_in (i := 72) rfl rfl
theorem m_73 : (.fieldLink RX2 9 "RunRows$Row" "numbers" "[I" : Cond) ∈ lw_g := lw_in (i := 73) rfl rfl
theorem m_74 : (.fieldLink RX2 15 "RunRows$Row" "count" "I" : Cond) ∈ lw_g := lw_in (i := 74) rfl rfl
theorem m_80 : (.arrayClass .int : Cond) ∈ lw_g := lw_in (i := 80) rfl rfl
theorem m_81 : (.fieldLink RX4 14 "RunRows" "tape" "LRunRows$Bytes;" : Cond) ∈ lw_g := lw_in (i := 81) rfl rfl
theorem m_82 : (.fieldLink RX4 21 "RunRows" "writer" "LRunRows$Writer;" : Cond) ∈ lw_g := lw_in (i := 82) rfl rfl
theorem m_83 : (.fieldLink RX4 28 "RunRows" "reader" "LRunRows$Reader;" : Cond) ∈ lw_g := lw_in (i := 83) rfl rfl
theorem m_84 : (.fieldLink RX4 35 "RunRows" "output" "LRunRows$Bytes;" : Cond) ∈ lw_g := lw_in (i := 84) rfl rfl
theorem m_85 : (.fieldLink RX4 41 "RunRows" "input" "LRunRows$Bytes;" : Cond) ∈ lw_g := lw_in (i := 85) rfl rfl
theorem m_86 : (.fieldLink RX4 47 "RunRows" "row" "LRunRows$Row;" : Cond) ∈ lw_g := lw_in (i := 86) rfl rfl
theorem m_87 : (.fieldLink RX4 51 "RunRows" "spare" "LRunRows$Row;" : Cond) ∈ lw_g := lw_in (i := 87) rfl rfl
theorem m_88 : (.fieldLink RX4 54 "RunRows" "width" "I" : Cond) ∈ lw_g := lw_in (i := 88) rfl rfl
theorem m_110 : (.methodLink RX4 58 yX0_room : Cond) ∈ lw_g := lw_in (i := 110) rfl rfl
theorem m_111 : (.instanceMethod yX0_room : Cond) ∈ lw_g := lw_in (i := 111) rfl rfl
theorem m_112 : (.selects RX0 yX0_room yX0_room : Cond) ∈ lw_g := lw_in (i := 112) rfl rfl
theorem m_113 : (.code yX0_room cX0_room 1 (some .int) : Cond) ∈ lw_g := lw_in (i := 113) rfl rfl
theorem m_114 : (.methodLink RX4 62 yX0_putFour : Cond) ∈ lw_g := lw_in (i := 114) rfl rfl
theorem m_115 : (.instanceMethod yX0_putFour : Cond) ∈ lw_g := lw_in (i := 115) rfl rfl
theorem m_116 : (.selects RX0 yX0_putFour yX0_putFour : Cond) ∈ lw_g := lw_in (i := 116) rfl rfl
theorem m_117 : (.code yX0_putFour cX0_putFour 3 none : Cond) ∈ lw_g := lw_in (i := 117) rfl rfl
theorem m_118 : (.methodLink RX0 25 yX0_put : Cond) ∈ lw_g := lw_in (i := 118) rfl rfl
theorem m_119 : (.instanceMethod yX0_put : Cond) ∈ lw_g := lw_in (i := 119) rfl rfl
theorem m_120 : (.selects RX0 yX0_put yX0_put : Cond) ∈ lw_g := lw_in (i := 120) rfl rfl
theorem m_121 : (.code yX0_put cX0_put 2 none : Cond) ∈ lw_g := lw_in (i := 121) rfl rfl
theorem m_126 : (.methodLink RX4 65 yX0_become : Cond) ∈ lw_g := lw_in (i := 126) rfl rfl
theorem m_127 : (.instanceMethod yX0_become : Cond) ∈ lw_g := lw_in (i := 127) rfl rfl
theorem m_128 : (.selects RX0 yX0_become yX0_become : Cond) ∈ lw_g := lw_in (i := 128) rfl rfl
theorem m_129 : (.code yX0_become cX0_become 3 (some .boolean) : Cond) ∈ lw_g := lw_in (i := 129) rfl rfl
theorem m_130 : (.methodLink RX0 29 arraycopyName : Cond) ∈ lw_g := lw_in (i := 130) rfl rfl
theorem m_131 : (.static arraycopyName : Cond) ∈ lw_g := lw_in (i := 131) rfl rfl
theorem m_132 : (.native arraycopyName : Cond) ∈ lw_g := lw_in (i := 132) rfl rfl
theorem m_133 : (.methodLink RX4 69 yX0_empty : Cond) ∈ lw_g := lw_in (i := 133) rfl rfl
theorem m_134 : (.instanceMethod yX0_empty : Cond) ∈ lw_g := lw_in (i := 134) rfl rfl
theorem m_135 : (.selects RX0 yX0_empty yX0_empty : Cond) ∈ lw_g := lw_in (i := 135) rfl rfl
theorem m_136 : (.code yX0_empty cX0_empty 1 none : Cond) ∈ lw_g := lw_in (i := 136) rfl rfl
theorem m_145 : (.methodLink RX4 72 yX2_append : Cond) ∈ lw_g := lw_in (i := 145) rfl rfl
theorem m_146 : (.instanceMethod yX2_append : Cond) ∈ lw_g := lw_in (i := 146) rfl rfl
theorem m_147 : (.selects RX2 yX2_append yX2_append : Cond) ∈ lw_g := lw_in (i := 147) rfl rfl
theorem m_148 : (.code yX2_append cX2_append 3 (some .boolean) : Cond) ∈ lw_g := lw_in (i := 148) rfl rfl
theorem m_149 : (.methodLink RX2 19 yJ7_fill : Cond) ∈ lw_g := lw_in (i := 149) rfl rfl
theorem m_150 : (.static yJ7_fill : Cond) ∈ lw_g := lw_in (i := 150) rfl rfl
theorem m_151 : (.code yJ7_fill cJ7_fill 5 none : Cond) ∈ lw_g := lw_in (i := 151) rfl rfl
theorem m_152 : (.methodLink RJ7 13 yJ7_rangeCheck : Cond) ∈ lw_g := lw_in (i := 152) rfl rfl
theorem m_153 : (.static yJ7_rangeCheck : Cond) ∈ lw_g := lw_in (i := 153) rfl rfl
theorem m_154 : (.code yJ7_rangeCheck cJ7_rangeCheck 3 none : Cond) ∈ lw_g := lw_in (i := 154) rfl rfl
theorem m_159 : (.methodLink RX4 76 yX2_empty : Cond) ∈ lw_g := lw_in (i := 159) rfl rfl
theorem m_160 : (.instanceMethod yX2_empty : Cond) ∈ lw_g := lw_in (i := 160) rfl rfl
theorem m_161 : (.selects RX2 yX2_empty yX2_empty : Cond) ∈ lw_g := lw_in (i := 161) rfl rfl
theorem m_162 : (.code yX2_empty cX2_empty 1 none : Cond) ∈ lw_g := lw_in (i := 162) rfl rfl
theorem m_167 : (.methodLink RX4 77 yX2_fits : Cond) ∈ lw_g := lw_in (i := 167) rfl rfl
theorem m_168 : (.instanceMethod yX2_fits : Cond) ∈ lw_g := lw_in (i := 168) rfl rfl
theorem m_169 : (.selects RX2 yX2_fits yX2_fits : Cond) ∈ lw_g := lw_in (i := 169) rfl rfl
theorem m_170 : (.code yX2_fits cX2_fits 3 (some .boolean) : Cond) ∈ lw_g := lw_in (i := 170) rfl rfl
theorem m_171 : (.methodLink RX2 25 yX2_at : Cond) ∈ lw_g := lw_in (i := 171) rfl rfl
theorem m_172 : (.instanceMethod yX2_at : Cond) ∈ lw_g := lw_in (i := 172) rfl rfl
theorem m_173 : (.selects RX2 yX2_at yX2_at : Cond) ∈ lw_g := lw_in (i := 173) rfl rfl
theorem m_174 : (.code yX2_at cX2_at 2 (some .int) : Cond) ∈ lw_g := lw_in (i := 174) rfl rfl
theorem m_175 : (.constantLong RX2 29 (lN 4294967295) : Cond) ∈ lw_g := lw_in (i := 175) rfl rfl
theorem m_176 : (.methodLink RX4 81 yX3_write : Cond) ∈ lw_g := lw_in (i := 176) rfl rfl
theorem m_177 : (.instanceMethod yX3_write : Cond) ∈ lw_g := lw_in (i := 177) rfl rfl
theorem m_178 : (.selects RX3 yX3_write yX3_write : Cond) ∈ lw_g := lw_in (i := 178) rfl rfl
theorem m_179 : (.code yX3_write cX3_write 7 none : Cond) ∈ lw_g := lw_in (i := 179) rfl rfl
theorem m_180 : (.methodLink RX3 20 yX2_count : Cond) ∈ lw_g := lw_in (i := 180) rfl rfl
theorem m_181 : (.instanceMethod yX2_count : Cond) ∈ lw_g := lw_in (i := 181) rfl rfl
theorem m_182 : (.selects RX2 yX2_count yX2_count : Cond) ∈ lw_g := lw_in (i := 182) rfl rfl
theorem m_183 : (.code yX2_count cX2_count 1 (some .int) : Cond) ∈ lw_g := lw_in (i := 183) rfl rfl
theorem m_184 : (.methodLink RX3 26 yX2_sameFrom : Cond) ∈ lw_g := lw_in (i := 184) rfl rfl
theorem m_185 : (.instanceMethod yX2_sameFrom : Cond) ∈ lw_g := lw_in (i := 185) rfl rfl
theorem m_186 : (.selects RX2 yX2_sameFrom yX2_sameFrom : Cond) ∈ lw_g := lw_in (i := 186) rfl rfl
theorem m_187 : (.code yX2_sameFrom cX2_sameFrom 4 (some .int) : Cond) ∈ lw_g := lw_in (i := 187) rfl rfl
theorem m_188 : (.methodLink RX3 30 yX2_at : Cond) ∈ lw_g := lw_in (i := 188) rfl rfl
theorem m_189 : (.methodLink RX3 33 yX3_writeOne : Cond) ∈ lw_g := lw_in (i := 189) rfl rfl
theorem m_191 : (.instanceMethod yX3_writeOne : Cond) ∈ lw_g := lw_in (i := 191) rfl rfl
theorem m_192 : (.code yX3_writeOne cX3_writeOne 5 none : Cond) ∈ lw_g := lw_in (i := 192) rfl rfl
theorem m_193 : (.methodLink RX3 45 yX3_writeHead : Cond) ∈ lw_g := lw_in (i := 193) rfl rfl
theorem m_195 : (.instanceMethod yX3_writeHead : Cond) ∈ lw_g := lw_in (i := 195) rfl rfl
theorem m_196 : (.code yX3_writeHead cX3_writeHead 4 none : Cond) ∈ lw_g := lw_in (i := 196) rfl rfl
theorem m_197 : (.methodLink RX3 51 yX0_put : Cond) ∈ lw_g := lw_in (i := 197) rfl rfl
theorem m_199 : (.static yX4_numberBytes : Cond) ∈ lw_g := lw_in (i := 199) rfl rfl
theorem m_200 : (.code yX4_numberBytes cX4_numberBytes 1 (some .int) : Cond) ∈ lw_g := lw_in (i := 200) rfl rfl
theorem m_201 : (.methodLink RX3 37 yX3_groupsFrom : Cond) ∈ lw_g := lw_in (i := 201) rfl rfl
theorem m_203 : (.instanceMethod yX3_groupsFrom : Cond) ∈ lw_g := lw_in (i := 203) rfl rfl
theorem m_204 : (.code yX3_groupsFrom cX3_groupsFrom 5 (some .int) : Cond) ∈ lw_g := lw_in (i := 204) rfl rfl
theorem m_205 : (.methodLink RX3 41 yX3_writeGroups : Cond) ∈ lw_g := lw_in (i := 205) rfl rfl
theorem m_207 : (.instanceMethod yX3_writeGroups : Cond) ∈ lw_g := lw_in (i := 207) rfl rfl
theorem m_208 : (.code yX3_writeGroups cX3_writeGroups 6 none : Cond) ∈ lw_g := lw_in (i := 208) rfl rfl
theorem m_209 : (.methodLink RX3 54 yX3_writeGroup : Cond) ∈ lw_g := lw_in (i := 209) rfl rfl
theorem m_211 : (.instanceMethod yX3_writeGroup : Cond) ∈ lw_g := lw_in (i := 211) rfl rfl
theorem m_212 : (.code yX3_writeGroup cX3_writeGroup 8 none : Cond) ∈ lw_g := lw_in (i := 212) rfl rfl
theorem m_213 : (.constantLong RX3 58 (lN 4294967295) : Cond) ∈ lw_g := lw_in (i := 213) rfl rfl
theorem m_214 : (.methodLink RX4 85 yX0_count : Cond) ∈ lw_g := lw_in (i := 214) rfl rfl
theorem m_215 : (.instanceMethod yX0_count : Cond) ∈ lw_g := lw_in (i := 215) rfl rfl
theorem m_216 : (.selects RX0 yX0_count yX0_count : Cond) ∈ lw_g := lw_in (i := 216) rfl rfl
theorem m_217 : (.code yX0_count cX0_count 1 (some .int) : Cond) ∈ lw_g := lw_in (i := 217) rfl rfl
theorem m_222 : (.methodLink RX4 88 yX1_read : Cond) ∈ lw_g := lw_in (i := 222) rfl rfl
theorem m_223 : (.instanceMethod yX1_read : Cond) ∈ lw_g := lw_in (i := 223) rfl rfl
theorem m_224 : (.selects RX1 yX1_read yX1_read : Cond) ∈ lw_g := lw_in (i := 224) rfl rfl
theorem m_225 : (.code yX1_read cX1_read 6 (some .int) : Cond) ∈ lw_g := lw_in (i := 225) rfl rfl
theorem m_226 : (.methodLink RX1 28 yX2_empty : Cond) ∈ lw_g := lw_in (i := 226) rfl rfl
theorem m_227 : (.methodLink RX1 33 yX2_count : Cond) ∈ lw_g := lw_in (i := 227) rfl rfl
theorem m_228 : (.methodLink RX1 37 yX1_readRun : Cond) ∈ lw_g := lw_in (i := 228) rfl rfl
theorem m_230 : (.instanceMethod yX1_readRun : Cond) ∈ lw_g := lw_in (i := 230) rfl rfl
theorem m_231 : (.code yX1_readRun cX1_readRun 12 (some .int) : Cond) ∈ lw_g := lw_in (i := 231) rfl rfl
theorem m_232 : (.methodLink RX1 42 yX1_readHead : Cond) ∈ lw_g := lw_in (i := 232) rfl rfl
theorem m_234 : (.instanceMethod yX1_readHead : Cond) ∈ lw_g := lw_in (i := 234) rfl rfl
theorem m_235 : (.code yX1_readHead cX1_readHead 3 (some .int) : Cond) ∈ lw_g := lw_in (i := 235) rfl rfl
theorem m_236 : (.methodLink RX1 56 yX0_at : Cond) ∈ lw_g := lw_in (i := 236) rfl rfl
theorem m_237 : (.instanceMethod yX0_at : Cond) ∈ lw_g := lw_in (i := 237) rfl rfl
theorem m_238 : (.selects RX0 yX0_at yX0_at : Cond) ∈ lw_g := lw_in (i := 238) rfl rfl
theorem m_239 : (.code yX0_at cX0_at 2 (some .int) : Cond) ∈ lw_g := lw_in (i := 239) rfl rfl
theorem m_241 : (.methodLink RX1 41 yX0_count : Cond) ∈ lw_g := lw_in (i := 241) rfl rfl
theorem m_242 : (.methodLink RX1 49 yX1_readOne : Cond) ∈ lw_g := lw_in (i := 242) rfl rfl
theorem m_244 : (.instanceMethod yX1_readOne : Cond) ∈ lw_g := lw_in (i := 244) rfl rfl
theorem m_245 : (.code yX1_readOne cX1_readOne 7 (some .int) : Cond) ∈ lw_g := lw_in (i := 245) rfl rfl
theorem m_246 : (.methodLink RX1 58 yX1_nextByte : Cond) ∈ lw_g := lw_in (i := 246) rfl rfl
theorem m_248 : (.instanceMethod yX1_nextByte : Cond) ∈ lw_g := lw_in (i := 248) rfl rfl
theorem m_249 : (.code yX1_nextByte cX1_nextByte 2 (some .long) : Cond) ∈ lw_g := lw_in (i := 249) rfl rfl
theorem m_250 : (.methodLink RX1 62 yX2_append : Cond) ∈ lw_g := lw_in (i := 250) rfl rfl
theorem m_251 : (.methodLink RX1 52 yX1_readGroups : Cond) ∈ lw_g := lw_in (i := 251) rfl rfl
theorem m_253 : (.instanceMethod yX1_readGroups : Cond) ∈ lw_g := lw_in (i := 253) rfl rfl
theorem m_254 : (.code yX1_readGroups cX1_readGroups 12 (some .int) : Cond) ∈ lw_g := lw_in (i := 254) rfl rfl
theorem m_255 : (.methodLink RX4 92 yX4_exchangeRows : Cond) ∈ lw_g := lw_in (i := 255) rfl rfl
theorem m_257 : (.instanceMethod yX4_exchangeRows : Cond) ∈ lw_g := lw_in (i := 257) rfl rfl
theorem m_258 : (.code yX4_exchangeRows cX4_exchangeRows 2 none : Cond) ∈ lw_g := lw_in (i := 258) rfl rfl
theorem m_267 : (.methodLink RX4 95 yX2_count : Cond) ∈ lw_g := lw_in (i := 267) rfl rfl
theorem m_272 : (.methodLink RX4 96 yX2_at : Cond) ∈ lw_g := lw_in (i := 272) rfl rfl
theorem m_277 : (.methodLink RX4 100 yX0_at : Cond) ∈ lw_g := lw_in (i := 277) rfl rfl
theorem mp_0 : (.selects RX3 yX3_writeOne yX3_writeOne : Cond) ∈ lw_g := lw_inp (i := 0) rfl rfl
theorem mp_1 : (.selects RX3 yX3_writeHead yX3_writeHead : Cond) ∈ lw_g := lw_inp (i := 1) rfl rfl
theorem mp_2 : (.selects RX3 yX3_groupsFrom yX3_groupsFrom : Cond) ∈ lw_g := lw_inp (i := 2) rfl rfl
theorem mp_3 : (.selects RX3 yX3_writeGroups yX3_writeGroups : Cond) ∈ lw_g := lw_inp (i := 3) rfl rfl
theorem mp_4 : (.selects RX3 yX3_writeGroup yX3_writeGroup : Cond) ∈ lw_g := lw_inp (i := 4) rfl rfl
theorem mp_5 : (.selects RX1 yX1_readRun yX1_readRun : Cond) ∈ lw_g := lw_inp (i := 5) rfl rfl
theorem mp_6 : (.selects RX1 yX1_readHead yX1_readHead : Cond) ∈ lw_g := lw_inp (i := 6) rfl rfl
theorem mp_7 : (.selects RX1 yX1_readOne yX1_readOne : Cond) ∈ lw_g := lw_inp (i := 7) rfl rfl
theorem mp_8 : (.selects RX1 yX1_nextByte yX1_nextByte : Cond) ∈ lw_g := lw_inp (i := 8) rfl rfl
theorem mp_9 : (.selects RX1 yX1_readGroups yX1_readGroups : Cond) ∈ lw_g := lw_inp (i := 9) rfl rfl
theorem mp_10 : (.selects RX4 yX4_exchangeRows yX4_exchangeRows : Cond) ∈ lw_g := lw_inp (i := 10) rfl rfl
