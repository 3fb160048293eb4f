theorem m_1 : (.initialized RX4 : Cond) ∈ lw_g := lw_in (i := 1) rfl rfl
theorem m_2 : (.initialized RX0 : Cond) ∈ lw_g := lw_in (i := 2) rfl rfl
theorem m_3 : (.initialized "java/lang/Math" : Cond) ∈ lw_g := lw_in (i := 3) rfl rfl
theorem m_4 : (.initialized RX3 : Cond) ∈ lw_g := lw_in (i := 4) rfl rfl
theorem m_5 : (.initialized RX1 : Cond) ∈ lw_g := lw_in (i := 5) rfl rfl
theorem m_6 : (.initialized RX2 : Cond) ∈ lw_g := lw_in (i := 6) rfl rfl
theorem m_8 : (.initialized "java/lang/System" : Cond) ∈ lw_g := lw_in (i := 8) rfl rfl
theorem m_9 : (.initialized RJ7 : Cond) ∈ lw_g := lw_in (i := 9) rfl rfl
theorem m_15 : (.methodLink RX4 1 objectInit : Cond) ∈ lw_g := lw_in (i := 15) rfl rfl
theorem m_16 : (.instanceMethod objectInit : Cond) ∈ lw_g := lw_in (i := 16) rfl rfl
theorem m_17 : (.code objectInit ⟨#[0xb1]⟩ 1 none : Cond) ∈ lw_g := lw_in (i := 17) rfl rfl
theorem m_18 : (.classLink RX4 7 RX0 : Cond) ∈ lw_g := lw_in (i := 18) rfl rfl
theorem m_19 : (.instantiable RX0 2 : Cond) ∈ lw_g := lw_in (i := 19) rfl rfl
theorem m_20 : (.methodLink RX4 11 yX0_init : Cond) ∈ lw_g := lw_in (i := 20) rfl rfl
theorem m_21 : (.instanceMethod yX0_init : Cond) ∈ lw_g := lw_in (i := 21) rfl rfl
theorem m_22 : (.code yX0_init cX0_init 2 none : Cond) ∈ lw_g := lw_in (i := 22) rfl rfl
theorem m_23 : (.methodLink RX0 3 objectInit : Cond) ∈ lw_g := lw_in (i := 23) rfl rfl
theorem m_24 : (.methodLink RX0 15 Lib.Math.max.name : Cond) ∈ lw_g := lw_in (i := 24) rfl rfl
theorem m_25 : (.static Lib.Math.max.name : Cond) ∈ lw_g := lw_in (i := 25) rfl rfl
theorem m_26 : (.code Lib.Math.max.name Lib.Math.max.code 2 (some .int) : Cond) ∈ lw_g := lw_in (i := 26) rfl rfl
theorem m_27 : (.fieldLink RX0 21 "RunRows$Bytes" "bytes" "[B" : Cond) ∈ lw_g := lw_in (i := 27) rfl rfl
theorem m_28 : (.fieldLink RX0 9 "RunRows$Bytes" "count" "I" : Cond) ∈ lw_g := lw_in (i := 28) rfl rfl
theorem m_34 : (.arrayClass .byte : Cond) ∈ lw_g := lw_in (i := 34) rfl rfl
theorem m_35 : (.classLink RX4 24 RX3 : Cond) ∈ lw_g := lw_in (i := 35) rfl rfl
theorem m_36 : (.instantiable RX3 1 : Cond) ∈ lw_g := lw_in (i := 36) rfl rfl
theorem m_37 : (.methodLink RX4 26 yX3_init : Cond) ∈ lw_g := lw_in (i := 37) rfl rfl
theorem m_38 : (.instanceMethod yX3_init : Cond) ∈ lw_g := lw_in (i := 38) rfl rfl
theorem m_39 : (.code yX3_init cX3_init 2 none : Cond) ∈ lw_g := lw_in (i := 39) rfl rfl
theorem m_40 : (.methodLink RX3 3 objectInit : Cond) ∈ lw_g := lw_in (i := 40) rfl rfl
theorem m_41 : (.fieldLink RX3 9 "RunRows$Writer" "to" "LRunRows$Bytes;" : Cond) ∈ lw_g := lw_in (i := 41) rfl rfl
theorem m_45 : (.classLink RX4 33 RX1 : Cond) ∈ lw_g := lw_in (i := 45) rfl rfl
theorem m_46 : (.instantiable RX1 3 : Cond) ∈ lw_g := lw_in (i := 46) rfl rfl
theorem m_47 : (.methodLink RX4 35 yX1_init : Cond) ∈ lw_g := lw_in (i := 47) rfl rfl
theorem m_48 : (.instanceMethod yX1_init : Cond) ∈ lw_g := lw_in (i := 48) rfl rfl
theorem m_49 : (.code yX1_init cX1_init 2 none : Cond) ∈ lw_g := lw_in (i := 49) rfl rfl
theorem m_50 : (.methodLink RX1 3 objectInit : Cond) ∈ lw_g := lw_in (i := 50) rfl rfl
theorem m_51 : (.fieldLink RX1 19 "RunRows$Reader" "from" "LRunRows$Bytes;" : Cond) ∈ lw_g := lw_in (i := 51) rfl rfl
theorem m_52 : (.fieldLink RX1 9 "RunRows$Reader" "at" "I" : Cond) ∈ lw_g := lw_in (i := 52) rfl rfl
theorem m_53 : (.fieldLink RX1 15 "RunRows$Reader" "head" "J" : Cond) ∈ lw_g := lw_in (i := 53) rfl rfl
theorem m_61 : (.classLink RX4 40 RX2 : Cond) ∈ lw_g := lw_in (i := 61) rfl rfl
theorem m_62 : (.instantiable RX2 2 : Cond) ∈ lw_g := lw_in (i := 62) rfl rfl
theorem m_64 : (.instanceMethod yX2_init : Cond) ∈ lw_g := lw_in (i := 64) rfl rfl
theorem m_65 : (.code yX2_init cX2_init 1 none : Cond) ∈ lw_g := lw_in (i := 65) rfl rfl
theorem m_66 : (.methodLink RX2 3 objectInit : Cond) ∈ lw_g := lw_in (i := 66) rfl rfl
theorem m_67 : (.fieldLink RX2 9 "RunRows$Row" "numbers" "[I" : Cond) ∈ lw_g := lw_in (i := 67) rfl rfl
theorem m_68 : (.fieldLink RX2 15 "RunRows$Row" "count" "I" : Cond) ∈ lw_g := lw_in (i := 68) rfl rfl
theorem m_74 : (.arrayClass .int : Cond) ∈ lw_g := lw_in (i := 74) rfl rfl
theorem m_75 : (.fieldLink RX4 14 "RunRows" "tape" "LRunRows$Bytes;" : Cond) ∈ lw_g := lw_in (i := 75) rfl rfl
theorem m_76 : (.fieldLink RX4 18 "RunRows" "input" "LRunRows$Bytes;" : Cond) ∈ lw_g := lw_in (i := 76) rfl rfl
theorem m_77 : (.fieldLink RX4 21 "RunRows" "output" "LRunRows$Bytes;" : Cond) ∈ lw_g := lw_in (i := 77) rfl rfl
theorem m_78 : (.fieldLink RX4 29 "RunRows" "writer" "LRunRows$Writer;" : Cond) ∈ lw_g := lw_in (i := 78) rfl rfl
theorem m_79 : (.fieldLink RX4 36 "RunRows" "reader" "LRunRows$Reader;" : Cond) ∈ lw_g := lw_in (i := 79) rfl rfl
theorem m_80 : (.fieldLink RX4 43 "RunRows" "row" "LRunRows$Row;" : Cond) ∈ lw_g := lw_in (i := 80) rfl rfl
theorem m_81 : (.fieldLink RX4 47 "RunRows" "spare" "LRunRows$Row;" : Cond) ∈ lw_g := lw_in (i := 81) rfl rfl
theorem m_82 : (.fieldLink RX4 50 "RunRows" "width" "I" : Cond) ∈ lw_g := lw_in (i := 82) rfl rfl
theorem m_104 : (.methodLink RX4 54 yX0_room : Cond) ∈ lw_g := lw_in (i := 104) rfl rfl
theorem m_105 : (.instanceMethod yX0_room : Cond) ∈ lw_g := lw_in (i := 105) rfl rfl
theorem m_106 : (.selects RX0 yX0_room yX0_room : Cond) ∈ lw_g := lw_in (i := 106) rfl rfl
theorem m_107 : (.code yX0_room cX0_room 1 (some .int) : Cond) ∈ lw_g := lw_in (i := 107) rfl rfl
theorem m_108 : (.methodLink RX4 58 yX0_putFour : Cond) ∈ lw_g := lw_in (i := 108) rfl rfl
theorem m_109 : (.instanceMethod yX0_putFour : Cond) ∈ lw_g := lw_in (i := 109) rfl rfl
theorem m_110 : (.selects RX0 yX0_putFour yX0_putFour : Cond) ∈ lw_g := lw_in (i := 110) rfl rfl
theorem m_111 : (.code yX0_putFour cX0_putFour 3 none : Cond) ∈ lw_g := lw_in (i := 111) rfl rfl
theorem m_112 : (.methodLink RX0 25 yX0_put : Cond) ∈ lw_g := lw_in (i := 112) rfl rfl
theorem m_113 : (.instanceMethod yX0_put : Cond) ∈ lw_g := lw_in (i := 113) rfl rfl
theorem m_114 : (.selects RX0 yX0_put yX0_put : Cond) ∈ lw_g := lw_in (i := 114) rfl rfl
theorem m_115 : (.code yX0_put cX0_put 2 none : Cond) ∈ lw_g := lw_in (i := 115) rfl rfl
theorem m_120 : (.methodLink RX4 61 yX0_become : Cond) ∈ lw_g := lw_in (i := 120) rfl rfl
theorem m_121 : (.instanceMethod yX0_become : Cond) ∈ lw_g := lw_in (i := 121) rfl rfl
theorem m_122 : (.selects RX0 yX0_become yX0_become : Cond) ∈ lw_g := lw_in (i := 122) rfl rfl
theorem m_123 : (.code yX0_become cX0_become 3 (some .boolean) : Cond) ∈ lw_g := lw_in (i := 123) rfl rfl
theorem m_124 : (.methodLink RX0 29 arraycopyName : Cond) ∈ lw_g := lw_in (i := 124) rfl rfl
theorem m_125 : (.static arraycopyName : Cond) ∈ lw_g := lw_in (i := 125) rfl rfl
theorem m_126 : (.native arraycopyName : Cond) ∈ lw_g := lw_in (i := 126) rfl rfl
theorem m_127 : (.methodLink RX4 65 yX0_empty : Cond) ∈ lw_g := lw_in (i := 127) rfl rfl
theorem m_128 : (.instanceMethod yX0_empty : Cond) ∈ lw_g := lw_in (i := 128) rfl rfl
theorem m_129 : (.selects RX0 yX0_empty yX0_empty : Cond) ∈ lw_g := lw_in (i := 129) rfl rfl
theorem m_130 : (.code yX0_empty cX0_empty 1 none : Cond) ∈ lw_g := lw_in (i := 130) rfl rfl
theorem m_139 : (.methodLink RX4 68 yX2_append : Cond) ∈ lw_g := lw_in (i := 139) rfl rfl
theorem m_140 : (.instanceMethod yX2_append : Cond) ∈ lw_g := lw_in (i := 140) rfl rfl
theorem m_141 : (.selects RX2 yX2_append yX2_append : Cond) ∈ lw_g := lw_in (i := 141) rfl rfl
theorem m_142 : (.code yX2_append cX2_append 3 (some .boolean) : Cond) ∈ lw_g := lw_in (i := 142) rfl rfl
theorem m_143 : (.methodLink RX2 19 yJ7_fill : Cond) ∈ lw_g := lw_in (i := 143) rfl rfl
theorem m_144 : (.static yJ7_fill : Cond) ∈ lw_g := lw_in (i := 144) rfl rfl
theorem m_145 : (.code yJ7_fill cJ7_fill 5 none : Cond) ∈ lw_g := lw_in (i := 145) rfl rfl
theorem m_146 : (.methodLink RJ7 13 yJ7_rangeCheck : Cond) ∈ lw_g := lw_in (i := 146) rfl rfl
theorem m_147 : (.static yJ7_rangeCheck : Cond) ∈ lw_g := lw_in (i := 147) rfl rfl
theorem m_148 : (.code yJ7_rangeCheck cJ7_rangeCheck 3 none : Cond) ∈ lw_g := lw_in (i := 148) rfl rfl
theorem m_153 : (.methodLink RX4 72 yX2_empty : Cond) ∈ lw_g := lw_in (i := 153) rfl rfl
theorem m_154 : (.instanceMethod yX2_empty : Cond) ∈ lw_g := lw_in (i := 154) rfl rfl
theorem m_155 : (.selects RX2 yX2_empty yX2_empty : Cond) ∈ lw_g := lw_in (i := 155) rfl rfl
theorem m_156 : (.code yX2_empty cX2_empty 1 none : Cond) ∈ lw_g := lw_in (i := 156) rfl rfl
theorem m_161 : (.methodLink RX4 73 yX2_fits : Cond) ∈ lw_g := lw_in (i := 161) rfl rfl
theorem m_162 : (.instanceMethod yX2_fits : Cond) ∈ lw_g := lw_in (i := 162) rfl rfl
theorem m_163 : (.selects RX2 yX2_fits yX2_fits : Cond) ∈ lw_g := lw_in (i := 163) rfl rfl
theorem m_164 : (.code yX2_fits cX2_fits 3 (some .boolean) : Cond) ∈ lw_g := lw_in (i := 164) rfl rfl
theorem m_165 : (.methodLink RX2 25 yX2_at : Cond) ∈ lw_g := lw_in (i := 165) rfl rfl
theorem m_166 : (.instanceMethod yX2_at : Cond) ∈ lw_g := lw_in (i := 166) rfl rfl
theorem m_167 : (.selects RX2 yX2_at yX2_at : Cond) ∈ lw_g := lw_in (i := 167) rfl rfl
theorem m_168 : (.code yX2_at cX2_at 2 (some .int) : Cond) ∈ lw_g := lw_in (i := 168) rfl rfl
theorem m_169 : (.constantLong RX2 29 (lN 4294967295) : Cond) ∈ lw_g := lw_in (i := 169) rfl rfl
theorem m_170 : (.methodLink RX4 77 yX3_write : Cond) ∈ lw_g := lw_in (i := 170) rfl rfl
theorem m_171 : (.instanceMethod yX3_write : Cond) ∈ lw_g := lw_in (i := 171) rfl rfl
theorem m_172 : (.selects RX3 yX3_write yX3_write : Cond) ∈ lw_g := lw_in (i := 172) rfl rfl
theorem m_173 : (.code yX3_write cX3_write 7 none : Cond) ∈ lw_g := lw_in (i := 173) rfl rfl
theorem m_174 : (.methodLink RX3 15 yX2_count : Cond) ∈ lw_g := lw_in (i := 174) rfl rfl
theorem m_175 : (.instanceMethod yX2_count : Cond) ∈ lw_g := lw_in (i := 175) rfl rfl
theorem m_176 : (.selects RX2 yX2_count yX2_count : Cond) ∈ lw_g := lw_in (i := 176) rfl rfl
theorem m_177 : (.code yX2_count cX2_count 1 (some .int) : Cond) ∈ lw_g := lw_in (i := 177) rfl rfl
theorem m_178 : (.methodLink RX3 21 yX2_sameFrom : Cond) ∈ lw_g := lw_in (i := 178) rfl rfl
theorem m_179 : (.instanceMethod yX2_sameFrom : Cond) ∈ lw_g := lw_in (i := 179) rfl rfl
theorem m_180 : (.selects RX2 yX2_sameFrom yX2_sameFrom : Cond) ∈ lw_g := lw_in (i := 180) rfl rfl
theorem m_181 : (.code yX2_sameFrom cX2_sameFrom 4 (some .int) : Cond) ∈ lw_g := lw_in (i := 181) rfl rfl
theorem m_182 : (.methodLink RX3 25 yX2_at : Cond) ∈ lw_g := lw_in (i := 182) rfl rfl
theorem m_183 : (.methodLink RX3 28 yX3_writeOne : Cond) ∈ lw_g := lw_in (i := 183) rfl rfl
theorem m_185 : (.instanceMethod yX3_writeOne : Cond) ∈ lw_g := lw_in (i := 185) rfl rfl
theorem m_186 : (.code yX3_writeOne cX3_writeOne 5 none : Cond) ∈ lw_g := lw_in (i := 186) rfl rfl
theorem m_187 : (.methodLink RX3 40 yX3_writeHead : Cond) ∈ lw_g := lw_in (i := 187) rfl rfl
theorem m_189 : (.instanceMethod yX3_writeHead : Cond) ∈ lw_g := lw_in (i := 189) rfl rfl
theorem m_190 : (.code yX3_writeHead cX3_writeHead 4 none : Cond) ∈ lw_g := lw_in (i := 190) rfl rfl
theorem m_191 : (.methodLink RX3 47 yX0_put : Cond) ∈ lw_g := lw_in (i := 191) rfl rfl
theorem m_193 : (.static yX4_numberBytes : Cond) ∈ lw_g := lw_in (i := 193) rfl rfl
theorem m_194 : (.code yX4_numberBytes cX4_numberBytes 1 (some .int) : Cond) ∈ lw_g := lw_in (i := 194) rfl rfl
theorem m_195 : (.methodLink RX3 32 yX3_groupsFrom : Cond) ∈ lw_g := lw_in (i := 195) rfl rfl
theorem m_197 : (.instanceMethod yX3_groupsFrom : Cond) ∈ lw_g := lw_in (i := 197) rfl rfl
theorem m_198 : (.code yX3_groupsFrom cX3_groupsFrom 5 (some .int) : Cond) ∈ lw_g := lw_in (i := 198) rfl rfl
theorem m_199 : (.methodLink RX3 36 yX3_writeGroups : Cond) ∈ lw_g := lw_in (i := 199) rfl rfl
theorem m_201 : (.instanceMethod yX3_writeGroups : Cond) ∈ lw_g := lw_in (i := 201) rfl rfl
theorem m_202 : (.code yX3_writeGroups cX3_writeGroups 6 none : Cond) ∈ lw_g := lw_in (i := 202) rfl rfl
theorem m_203 : (.methodLink RX3 52 yX3_writeGroup : Cond) ∈ lw_g := lw_in (i := 203) rfl rfl
theorem m_205 : (.instanceMethod yX3_writeGroup : Cond) ∈ lw_g := lw_in (i := 205) rfl rfl
theorem m_206 : (.code yX3_writeGroup cX3_writeGroup 8 none : Cond) ∈ lw_g := lw_in (i := 206) rfl rfl
theorem m_207 : (.constantLong RX3 56 (lN 4294967295) : Cond) ∈ lw_g := lw_in (i := 207) rfl rfl
theorem m_208 : (.methodLink RX4 81 yX0_count : Cond) ∈ lw_g := lw_in (i := 208) rfl rfl
theorem m_209 : (.instanceMethod yX0_count : Cond) ∈ lw_g := lw_in (i := 209) rfl rfl
theorem m_210 : (.selects RX0 yX0_count yX0_count : Cond) ∈ lw_g := lw_in (i := 210) rfl rfl
theorem m_211 : (.code yX0_count cX0_count 1 (some .int) : Cond) ∈ lw_g := lw_in (i := 211) rfl rfl
theorem m_216 : (.methodLink RX4 84 yX1_read : Cond) ∈ lw_g := lw_in (i := 216) rfl rfl
theorem m_217 : (.instanceMethod yX1_read : Cond) ∈ lw_g := lw_in (i := 217) rfl rfl
theorem m_218 : (.selects RX1 yX1_read yX1_read : Cond) ∈ lw_g := lw_in (i := 218) rfl rfl
theorem m_219 : (.code yX1_read cX1_read 6 (some .int) : Cond) ∈ lw_g := lw_in (i := 219) rfl rfl
theorem m_220 : (.methodLink RX1 23 yX2_empty : Cond) ∈ lw_g := lw_in (i := 220) rfl rfl
theorem m_221 : (.methodLink RX1 28 yX2_count : Cond) ∈ lw_g := lw_in (i := 221) rfl rfl
theorem m_222 : (.methodLink RX1 32 yX1_readRun : Cond) ∈ lw_g := lw_in (i := 222) rfl rfl
theorem m_224 : (.instanceMethod yX1_readRun : Cond) ∈ lw_g := lw_in (i := 224) rfl rfl
theorem m_225 : (.code yX1_readRun cX1_readRun 12 (some .int) : Cond) ∈ lw_g := lw_in (i := 225) rfl rfl
theorem m_226 : (.methodLink RX1 39 yX1_readHead : Cond) ∈ lw_g := lw_in (i := 226) rfl rfl
theorem m_228 : (.instanceMethod yX1_readHead : Cond) ∈ lw_g := lw_in (i := 228) rfl rfl
theorem m_229 : (.code yX1_readHead cX1_readHead 3 (some .int) : Cond) ∈ lw_g := lw_in (i := 229) rfl rfl
theorem m_230 : (.methodLink RX1 53 yX0_at : Cond) ∈ lw_g := lw_in (i := 230) rfl rfl
theorem m_231 : (.instanceMethod yX0_at : Cond) ∈ lw_g := lw_in (i := 231) rfl rfl
theorem m_232 : (.selects RX0 yX0_at yX0_at : Cond) ∈ lw_g := lw_in (i := 232) rfl rfl
theorem m_233 : (.code yX0_at cX0_at 2 (some .int) : Cond) ∈ lw_g := lw_in (i := 233) rfl rfl
theorem m_235 : (.methodLink RX1 36 yX0_count : Cond) ∈ lw_g := lw_in (i := 235) rfl rfl
theorem m_236 : (.methodLink RX1 46 yX1_readOne : Cond) ∈ lw_g := lw_in (i := 236) rfl rfl
theorem m_238 : (.instanceMethod yX1_readOne : Cond) ∈ lw_g := lw_in (i := 238) rfl rfl
theorem m_239 : (.code yX1_readOne cX1_readOne 7 (some .int) : Cond) ∈ lw_g := lw_in (i := 239) rfl rfl
theorem m_240 : (.methodLink RX1 55 yX1_nextByte : Cond) ∈ lw_g := lw_in (i := 240) rfl rfl
theorem m_242 : (.instanceMethod yX1_nextByte : Cond) ∈ lw_g := lw_in (i := 242) rfl rfl
theorem m_243 : (.code yX1_nextByte cX1_nextByte 2 (some .long) : Cond) ∈ lw_g := lw_in (i := 243) rfl rfl
theorem m_244 : (.methodLink RX1 59 yX2_append : Cond) ∈ lw_g := lw_in (i := 244) rfl rfl
theorem m_245 : (.methodLink RX1 49 yX1_readGroups : Cond) ∈ lw_g := lw_in (i := 245) rfl rfl
theorem m_247 : (.instanceMethod yX1_readGroups : Cond) ∈ lw_g := lw_in (i := 247) rfl rfl
theorem m_248 : (.code yX1_readGroups cX1_readGroups 12 (some .int) : Cond) ∈ lw_g := lw_in (i := 248) rfl rfl
theorem m_249 : (.methodLink RX4 88 yX4_exchangeRows : Cond) ∈ lw_g := lw_in (i := 249) rfl rfl
theorem m_251 : (.instanceMethod yX4_exchangeRows : Cond) ∈ lw_g := lw_in (i := 251) rfl rfl
theorem m_252 : (.code yX4_exchangeRows cX4_exchangeRows 2 none : Cond) ∈ lw_g := lw_in (i := 252) rfl rfl
theorem m_261 : (.methodLink RX4 91 yX2_count : Cond) ∈ lw_g := lw_in (i := 261) rfl rfl
theorem m_266 : (.methodLink RX4 92 yX2_at : Cond) ∈ lw_g := lw_in (i := 266) rfl rfl
theorem m_271 : (.methodLink RX4 96 yX0_at : Cond) ∈ lw_g := lw_in (i := 271) rfl rfl
theorem mp_0 : (.selects RX3 yX3_writeOne yX3_writeOne : Cond) ∈ lw_g := lw_inp (i := 0) rfl rfl
theorem mp_1 : (.selects RX3 yX3_writeHead yX3_writeHead : Cond) ∈ lw_g := lw_inp (i := 1) rfl rfl
theorem mp_2 : (.selects RX3 yX3_groupsFrom yX3_groupsFrom : Cond) ∈ lw_g := lw_inp (i := 2) rfl rfl
theorem mp_3 : (.selects RX3 yX3_writeGroups yX3_writeGroups : Cond) ∈ lw_g := lw_inp (i := 3) rfl rfl
theorem mp_4 : (.selects RX3 yX3_writeGroup yX3_writeGroup : Cond) ∈ lw_g := lw_inp (i := 4) rfl rfl
theorem mp_5 : (.selects RX1 yX1_readRun yX1_readRun : Cond) ∈ lw_g := lw_inp (i := 5) rfl rfl
theorem mp_6 : (.selects RX1 yX1_readHead yX1_readHead : Cond) ∈ lw_g := lw_inp (i := 6) rfl rfl
theorem mp_7 : (.selects RX1 yX1_readOne yX1_readOne : Cond) ∈ lw_g := lw_inp (i := 7) rfl rfl
theorem mp_8 : (.selects RX1 yX1_nextByte yX1_nextByte : Cond) ∈ lw_g := lw_inp (i := 8) rfl rfl
theorem mp_9 : (.selects RX1 yX1_readGroups yX1_readGroups : Cond) ∈ lw_g := lw_inp (i := 9) rfl rfl
theorem mp_10 : (.selects RX4 yX4_exchangeRows yX4_exchangeRows : Cond) ∈ lw_g := lw_inp (i := 10) rfl rfl
