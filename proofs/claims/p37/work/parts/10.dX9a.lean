theorem dX9_init_0 : decode cX9_init 0 = .ok (.aload_n 0, 1) := by decide +kernel
theorem dX9_init_1 : decode cX9_init 1 = .ok (.invokespecial 3, 3) := by decide +kernel
theorem dX9_init_4 : decode cX9_init 4 = .ok (.aload_n 0, 1) := by decide +kernel
theorem dX9_init_5 : decode cX9_init 5 = .ok (.bipush 20, 2) := by decide +kernel
theorem dX9_init_7 : decode cX9_init 7 = .ok (.putfield 9, 3) := by decide +kernel
theorem dX9_init_10 : decode cX9_init 10 = .ok (.aload_n 0, 1) := by decide +kernel
theorem dX9_init_11 : decode cX9_init 11 = .ok (.iconst 5, 1) := by decide +kernel
theorem dX9_init_12 : decode cX9_init 12 = .ok (.newarray .int, 2) := by decide +kernel
theorem dX9_init_14 : decode cX9_init 14 = .ok (.putfield 13, 3) := by decide +kernel
theorem dX9_init_17 : decode cX9_init 17 = .ok (.aload_n 0, 1) := by decide +kernel
theorem dX9_init_18 : decode cX9_init 18 = .ok (.bipush 10, 2) := by decide +kernel
theorem dX9_init_20 : decode cX9_init 20 = .ok (.newarray .int, 2) := by decide +kernel
theorem dX9_init_22 : decode cX9_init 22 = .ok (.putfield 17, 3) := by decide +kernel
theorem dX9_init_25 : decode cX9_init 25 = .ok (.aload_n 0, 1) := by decide +kernel
theorem dX9_init_26 : decode cX9_init 26 = .ok (.bipush 40, 2) := by decide +kernel
theorem dX9_init_28 : decode cX9_init 28 = .ok (.newarray .int, 2) := by decide +kernel
theorem dX9_init_30 : decode cX9_init 30 = .ok (.putfield 20, 3) := by decide +kernel
theorem dX9_init_33 : decode cX9_init 33 = .ok (.aload_n 0, 1) := by decide +kernel
theorem dX9_init_34 : decode cX9_init 34 = .ok (.bipush 40, 2) := by decide +kernel
theorem dX9_init_36 : decode cX9_init 36 = .ok (.newarray .int, 2) := by decide +kernel
theorem dX9_init_38 : decode cX9_init 38 = .ok (.putfield 23, 3) := by decide +kernel
theorem dX9_init_41 : decode cX9_init 41 = .ok (.aload_n 0, 1) := by decide +kernel
theorem dX9_init_42 : decode cX9_init 42 = .ok (.bipush 40, 2) := by decide +kernel
theorem dX9_init_44 : decode cX9_init 44 = .ok (.newarray .int, 2) := by decide +kernel
theorem dX9_init_46 : decode cX9_init 46 = .ok (.putfield 26, 3) := by decide +kernel
theorem dX9_init_49 : decode cX9_init 49 = .ok (.aload_n 0, 1) := by decide +kernel
theorem dX9_init_50 : decode cX9_init 50 = .ok (.bipush 40, 2) := by decide +kernel
theorem dX9_init_52 : decode cX9_init 52 = .ok (.newarray .int, 2) := by decide +kernel
theorem dX9_init_54 : decode cX9_init 54 = .ok (.putfield 29, 3) := by decide +kernel
theorem dX9_init_57 : decode cX9_init 57 = .ok (.aload_n 0, 1) := by decide +kernel
theorem dX9_init_58 : decode cX9_init 58 = .ok (.bipush 40, 2) := by decide +kernel
theorem dX9_init_60 : decode cX9_init 60 = .ok (.newarray .int, 2) := by decide +kernel
theorem dX9_init_62 : decode cX9_init 62 = .ok (.putfield 32, 3) := by decide +kernel
theorem dX9_init_65 : decode cX9_init 65 = .ok (.aload_n 0, 1) := by decide +kernel
theorem dX9_init_66 : decode cX9_init 66 = .ok (.bipush 40, 2) := by decide +kernel
theorem dX9_init_68 : decode cX9_init 68 = .ok (.newarray .int, 2) := by decide +kernel
theorem dX9_init_70 : decode cX9_init 70 = .ok (.putfield 35, 3) := by decide +kernel
theorem dX9_init_73 : decode cX9_init 73 = .ok (.aload_n 0, 1) := by decide +kernel
theorem dX9_init_74 : decode cX9_init 74 = .ok (.bipush 40, 2) := by decide +kernel
theorem dX9_init_76 : decode cX9_init 76 = .ok (.newarray .int, 2) := by decide +kernel
theorem dX9_init_78 : decode cX9_init 78 = .ok (.putfield 38, 3) := by decide +kernel
theorem dX9_init_81 : decode cX9_init 81 = .ok (.aload_n 0, 1) := by decide +kernel
theorem dX9_init_82 : decode cX9_init 82 = .ok (.sipush 160, 3) := by decide +kernel
theorem dX9_init_85 : decode cX9_init 85 = .ok (.newarray .int, 2) := by decide +kernel
theorem dX9_init_87 : decode cX9_init 87 = .ok (.putfield 41, 3) := by decide +kernel
theorem dX9_init_90 : decode cX9_init 90 = .ok (.aload_n 0, 1) := by decide +kernel
theorem dX9_init_91 : decode cX9_init 91 = .ok (.sipush 200, 3) := by decide +kernel
theorem dX9_init_94 : decode cX9_init 94 = .ok (.newarray .long, 2) := by decide +kernel
theorem dX9_init_96 : decode cX9_init 96 = .ok (.putfield 44, 3) := by decide +kernel
theorem dX9_init_99 : decode cX9_init 99 = .ok (.aload_n 0, 1) := by decide +kernel
theorem dX9_init_100 : decode cX9_init 100 = .ok (.bipush 40, 2) := by decide +kernel
theorem dX9_init_102 : decode cX9_init 102 = .ok (.newarray .boolean, 2) := by decide +kernel
theorem dX9_init_104 : decode cX9_init 104 = .ok (.putfield 48, 3) := by decide +kernel
theorem dX9_init_107 : decode cX9_init 107 = .ok (.aload_n 0, 1) := by decide +kernel
theorem dX9_init_108 : decode cX9_init 108 = .ok (.bipush 100, 2) := by decide +kernel
theorem dX9_init_110 : decode cX9_init 110 = .ok (.newarray .long, 2) := by decide +kernel
theorem dX9_init_112 : decode cX9_init 112 = .ok (.putfield 52, 3) := by decide +kernel
theorem dX9_init_115 : decode cX9_init 115 = .ok (.aload_n 0, 1) := by decide +kernel
theorem dX9_init_116 : decode cX9_init 116 = .ok (.iconst 4, 1) := by decide +kernel
theorem dX9_init_117 : decode cX9_init 117 = .ok (.newarray .int, 2) := by decide +kernel
theorem dX9_init_119 : decode cX9_init 119 = .ok (.putfield 55, 3) := by decide +kernel
theorem dX9_init_122 : decode cX9_init 122 = .ok (.aload_n 0, 1) := by decide +kernel
theorem dX9_init_123 : decode cX9_init 123 = .ok (.bipush 40, 2) := by decide +kernel
theorem dX9_init_125 : decode cX9_init 125 = .ok (.newarray .int, 2) := by decide +kernel
theorem dX9_init_127 : decode cX9_init 127 = .ok (.putfield 58, 3) := by decide +kernel
theorem dX9_init_130 : decode cX9_init 130 = .ok (.aload_n 0, 1) := by decide +kernel
theorem dX9_init_131 : decode cX9_init 131 = .ok (.bipush 50, 2) := by decide +kernel
theorem dX9_init_133 : decode cX9_init 133 = .ok (.newarray .int, 2) := by decide +kernel
theorem dX9_init_135 : decode cX9_init 135 = .ok (.putfield 61, 3) := by decide +kernel
theorem dX9_init_138 : decode cX9_init 138 = .ok (.aload_n 0, 1) := by decide +kernel
theorem dX9_init_139 : decode cX9_init 139 = .ok (.bipush 25, 2) := by decide +kernel
theorem dX9_init_141 : decode cX9_init 141 = .ok (.newarray .int, 2) := by decide +kernel
theorem dX9_init_143 : decode cX9_init 143 = .ok (.putfield 64, 3) := by decide +kernel
theorem dX9_init_146 : decode cX9_init 146 = .ok (.aload_n 0, 1) := by decide +kernel
theorem dX9_init_147 : decode cX9_init 147 = .ok (.bipush 30, 2) := by decide +kernel
theorem dX9_init_149 : decode cX9_init 149 = .ok (.newarray .int, 2) := by decide +kernel
theorem dX9_init_151 : decode cX9_init 151 = .ok (.putfield 67, 3) := by decide +kernel
theorem dX9_init_154 : decode cX9_init 154 = .ok (.aload_n 0, 1) := by decide +kernel
theorem dX9_init_155 : decode cX9_init 155 = .ok (.bipush 8, 2) := by decide +kernel
theorem dX9_init_157 : decode cX9_init 157 = .ok (.newarray .long, 2) := by decide +kernel
theorem dX9_init_159 : decode cX9_init 159 = .ok (.putfield 70, 3) := by decide +kernel
theorem dX9_init_162 : decode cX9_init 162 = .ok (.aload_n 0, 1) := by decide +kernel
theorem dX9_init_163 : decode cX9_init 163 = .ok (.bipush 8, 2) := by decide +kernel
theorem dX9_init_165 : decode cX9_init 165 = .ok (.newarray .boolean, 2) := by decide +kernel
theorem dX9_init_167 : decode cX9_init 167 = .ok (.putfield 73, 3) := by decide +kernel
theorem dX9_init_170 : decode cX9_init 170 = .ok (.aload_n 0, 1) := by decide +kernel
theorem dX9_init_171 : decode cX9_init 171 = .ok (.bipush 8, 2) := by decide +kernel
theorem dX9_init_173 : decode cX9_init 173 = .ok (.newarray .int, 2) := by decide +kernel
theorem dX9_init_175 : decode cX9_init 175 = .ok (.putfield 76, 3) := by decide +kernel
theorem dX9_init_178 : decode cX9_init 178 = .ok (.aload_n 0, 1) := by decide +kernel
theorem dX9_init_179 : decode cX9_init 179 = .ok (.bipush 32, 2) := by decide +kernel
theorem dX9_init_181 : decode cX9_init 181 = .ok (.newarray .int, 2) := by decide +kernel
theorem dX9_init_183 : decode cX9_init 183 = .ok (.putfield 79, 3) := by decide +kernel
theorem dX9_init_186 : decode cX9_init 186 = .ok (.aload_n 0, 1) := by decide +kernel
theorem dX9_init_187 : decode cX9_init 187 = .ok (.bipush 32, 2) := by decide +kernel
theorem dX9_init_189 : decode cX9_init 189 = .ok (.newarray .int, 2) := by decide +kernel
theorem dX9_init_191 : decode cX9_init 191 = .ok (.putfield 82, 3) := by decide +kernel
theorem dX9_init_194 : decode cX9_init 194 = .ok (.aload_n 0, 1) := by decide +kernel
theorem dX9_init_195 : decode cX9_init 195 = .ok (.bipush 32, 2) := by decide +kernel
theorem dX9_init_197 : decode cX9_init 197 = .ok (.newarray .int, 2) := by decide +kernel
theorem dX9_init_199 : decode cX9_init 199 = .ok (.putfield 85, 3) := by decide +kernel
theorem dX9_init_202 : decode cX9_init 202 = .ok (.aload_n 0, 1) := by decide +kernel
theorem dX9_init_203 : decode cX9_init 203 = .ok (.bipush 8, 2) := by decide +kernel
theorem dX9_init_205 : decode cX9_init 205 = .ok (.newarray .boolean, 2) := by decide +kernel
theorem dX9_init_207 : decode cX9_init 207 = .ok (.putfield 88, 3) := by decide +kernel
theorem dX9_init_210 : decode cX9_init 210 = .ok (.aload_n 0, 1) := by decide +kernel
theorem dX9_init_211 : decode cX9_init 211 = .ok (.bipush 8, 2) := by decide +kernel
theorem dX9_init_213 : decode cX9_init 213 = .ok (.newarray .int, 2) := by decide +kernel
theorem dX9_init_215 : decode cX9_init 215 = .ok (.putfield 91, 3) := by decide +kernel
theorem dX9_init_218 : decode cX9_init 218 = .ok (.aload_n 0, 1) := by decide +kernel
theorem dX9_init_219 : decode cX9_init 219 = .ok (.bipush 32, 2) := by decide +kernel
theorem dX9_init_221 : decode cX9_init 221 = .ok (.newarray .int, 2) := by decide +kernel
theorem dX9_init_223 : decode cX9_init 223 = .ok (.putfield 94, 3) := by decide +kernel
theorem dX9_init_226 : decode cX9_init 226 = .ok (.aload_n 0, 1) := by decide +kernel
theorem dX9_init_227 : decode cX9_init 227 = .ok (.bipush 32, 2) := by decide +kernel
theorem dX9_init_229 : decode cX9_init 229 = .ok (.newarray .int, 2) := by decide +kernel
theorem dX9_init_231 : decode cX9_init 231 = .ok (.putfield 97, 3) := by decide +kernel
theorem dX9_init_234 : decode cX9_init 234 = .ok (.aload_n 0, 1) := by decide +kernel
theorem dX9_init_235 : decode cX9_init 235 = .ok (.bipush 32, 2) := by decide +kernel
theorem dX9_init_237 : decode cX9_init 237 = .ok (.newarray .int, 2) := by decide +kernel
theorem dX9_init_239 : decode cX9_init 239 = .ok (.putfield 100, 3) := by decide +kernel
theorem dX9_init_242 : decode cX9_init 242 = .ok (.aload_n 0, 1) := by decide +kernel
theorem dX9_init_243 : decode cX9_init 243 = .ok (.sipush 400, 3) := by decide +kernel
theorem dX9_init_246 : decode cX9_init 246 = .ok (.newarray .int, 2) := by decide +kernel
theorem dX9_init_248 : decode cX9_init 248 = .ok (.putfield 103, 3) := by decide +kernel
theorem dX9_init_251 : decode cX9_init 251 = .ok (.aload_n 0, 1) := by decide +kernel
theorem dX9_init_252 : decode cX9_init 252 = .ok (.ldc2_w 106, 3) := by decide +kernel
theorem dX9_init_255 : decode cX9_init 255 = .ok (.putfield 108, 3) := by decide +kernel
theorem dX9_init_258 : decode cX9_init 258 = .ok (.aload_n 0, 1) := by decide +kernel
theorem dX9_init_259 : decode cX9_init 259 = .ok (.sipush 1024, 3) := by decide +kernel
theorem dX9_init_262 : decode cX9_init 262 = .ok (.newarray .long, 2) := by decide +kernel
theorem dX9_init_264 : decode cX9_init 264 = .ok (.putfield 112, 3) := by decide +kernel
theorem dX9_init_267 : decode cX9_init 267 = .ok (.aload_n 0, 1) := by decide +kernel
theorem dX9_init_268 : decode cX9_init 268 = .ok (.sipush 1024, 3) := by decide +kernel
theorem dX9_init_271 : decode cX9_init 271 = .ok (.newarray .int, 2) := by decide +kernel
theorem dX9_init_273 : decode cX9_init 273 = .ok (.putfield 115, 3) := by decide +kernel
theorem dX9_init_276 : decode cX9_init 276 = .ok (.aload_n 0, 1) := by decide +kernel
theorem dX9_init_277 : decode cX9_init 277 = .ok (.bipush 10, 2) := by decide +kernel
theorem dX9_init_279 : decode cX9_init 279 = .ok (.newarray .int, 2) := by decide +kernel
theorem dX9_init_281 : decode cX9_init 281 = .ok (.putfield 118, 3) := by decide +kernel
theorem dX9_init_284 : decode cX9_init 284 = .ok (.aload_n 0, 1) := by decide +kernel
theorem dX9_init_285 : decode cX9_init 285 = .ok (.bipush 10, 2) := by decide +kernel
theorem dX9_init_287 : decode cX9_init 287 = .ok (.newarray .int, 2) := by decide +kernel
theorem dX9_init_289 : decode cX9_init 289 = .ok (.putfield 121, 3) := by decide +kernel
theorem dX9_init_292 : decode cX9_init 292 = .ok (.aload_n 0, 1) := by decide +kernel
theorem dX9_init_293 : decode cX9_init 293 = .ok (.bipush 10, 2) := by decide +kernel
theorem dX9_init_295 : decode cX9_init 295 = .ok (.newarray .int, 2) := by decide +kernel
theorem dX9_init_297 : decode cX9_init 297 = .ok (.putfield 124, 3) := by decide +kernel
theorem dX9_init_300 : decode cX9_init 300 = .ok (.aload_n 0, 1) := by decide +kernel
theorem dX9_init_301 : decode cX9_init 301 = .ok (.bipush 10, 2) := by decide +kernel
theorem dX9_init_303 : decode cX9_init 303 = .ok (.newarray .long, 2) := by decide +kernel
theorem dX9_init_305 : decode cX9_init 305 = .ok (.putfield 127, 3) := by decide +kernel
theorem dX9_init_308 : decode cX9_init 308 = .ok (.aload_n 0, 1) := by decide +kernel
theorem dX9_init_309 : decode cX9_init 309 = .ok (.bipush 10, 2) := by decide +kernel
theorem dX9_init_311 : decode cX9_init 311 = .ok (.newarray .long, 2) := by decide +kernel
theorem dX9_init_313 : decode cX9_init 313 = .ok (.putfield 130, 3) := by decide +kernel
theorem dX9_init_316 : decode cX9_init 316 = .ok (.aload_n 0, 1) := by decide +kernel
theorem dX9_init_317 : decode cX9_init 317 = .ok (.bipush 10, 2) := by decide +kernel
theorem dX9_init_319 : decode cX9_init 319 = .ok (.newarray .long, 2) := by decide +kernel
theorem dX9_init_321 : decode cX9_init 321 = .ok (.putfield 133, 3) := by decide +kernel
theorem dX9_init_324 : decode cX9_init 324 = .ok (.aload_n 0, 1) := by decide +kernel
theorem dX9_init_325 : decode cX9_init 325 = .ok (.bipush 10, 2) := by decide +kernel
theorem dX9_init_327 : decode cX9_init 327 = .ok (.newarray .long, 2) := by decide +kernel
theorem dX9_init_329 : decode cX9_init 329 = .ok (.putfield 136, 3) := by decide +kernel
theorem dX9_init_332 : decode cX9_init 332 = .ok (.return_, 1) := by decide +kernel
theorem dX9_finding_0 : decode cX9_finding 0 = .ok (.aload_n 0, 1) := by decide +kernel
theorem dX9_finding_1 : decode cX9_finding 1 = .ok (.getfield 70, 3) := by decide +kernel
theorem dX9_finding_4 : decode cX9_finding 4 = .ok (.ldc2_w 139, 3) := by decide +kernel
theorem dX9_finding_7 : decode cX9_finding 7 = .ok (.lload_n 1, 1) := by decide +kernel
theorem dX9_finding_8 : decode cX9_finding 8 = .ok (.lsub, 1) := by decide +kernel
theorem dX9_finding_9 : decode cX9_finding 9 = .ok (.l2i, 1) := by decide +kernel
theorem dX9_finding_10 : decode cX9_finding 10 = .ok (.dup2, 1) := by decide +kernel
theorem dX9_finding_11 : decode cX9_finding 11 = .ok (.laload, 1) := by decide +kernel
theorem dX9_finding_12 : decode cX9_finding 12 = .ok (.lconst 1, 1) := by decide +kernel
theorem dX9_finding_13 : decode cX9_finding 13 = .ok (.ladd, 1) := by decide +kernel
theorem dX9_finding_14 : decode cX9_finding 14 = .ok (.lastore, 1) := by decide +kernel
theorem dX9_finding_15 : decode cX9_finding 15 = .ok (.lload_n 1, 1) := by decide +kernel
theorem dX9_finding_16 : decode cX9_finding 16 = .ok (.lreturn, 1) := by decide +kernel
theorem dX9_in_0 : decode cX9_in 0 = .ok (.iload_n 0, 1) := by decide +kernel
theorem dX9_in_1 : decode cX9_in 1 = .ok (.iload_n 1, 1) := by decide +kernel
theorem dX9_in_2 : decode cX9_in 2 = .ok (.if_icmp .lt 12, 3) := by decide +kernel
theorem dX9_in_5 : decode cX9_in 5 = .ok (.iload_n 0, 1) := by decide +kernel
theorem dX9_in_6 : decode cX9_in 6 = .ok (.iload_n 2, 1) := by decide +kernel
theorem dX9_in_7 : decode cX9_in 7 = .ok (.if_icmp .gt 7, 3) := by decide +kernel
theorem dX9_in_10 : decode cX9_in 10 = .ok (.iconst 1, 1) := by decide +kernel
theorem dX9_in_11 : decode cX9_in 11 = .ok (.goto 4, 3) := by decide +kernel
theorem dX9_in_14 : decode cX9_in 14 = .ok (.iconst 0, 1) := by decide +kernel
theorem dX9_in_15 : decode cX9_in 15 = .ok (.ireturn, 1) := by decide +kernel
set_option maxRecDepth 20000 in
theorem ggX9_isHouse_X9_in : GoodIn wsX9_isHouse wsX9_in := goodIn_r _ [4] rfl (by decide +kernel)
set_option maxRecDepth 20000 in
theorem gX9_isHouse_X9_in : GoodIn wsX9_isHouse (va_wsS RX9 141 yX9_in wsX9_in) := goodIn_app (goodIn_of _ (by decide +kernel)) ggX9_isHouse_X9_in
theorem dX9_isHouse_0 : decode cX9_isHouse 0 = .ok (.iload_n 0, 1) := by decide +kernel
theorem dX9_isHouse_1 : decode cX9_isHouse 1 = .ok (.iconst 0, 1) := by decide +kernel
theorem dX9_isHouse_2 : decode cX9_isHouse 2 = .ok (.bipush 9, 2) := by decide +kernel
theorem dX9_isHouse_4 : decode cX9_isHouse 4 = .ok (.invokestatic 141, 3) := by decide +kernel
theorem dX9_isHouse_7 : decode cX9_isHouse 7 = .ok (.ireturn, 1) := by decide +kernel
set_option maxRecDepth 20000 in
theorem ggX9_isTown_X9_in : GoodIn wsX9_isTown wsX9_in := goodIn_r _ [4] rfl (by decide +kernel)
set_option maxRecDepth 20000 in
theorem gX9_isTown_X9_in : GoodIn wsX9_isTown (va_wsS RX9 141 yX9_in wsX9_in) := goodIn_app (goodIn_of _ (by decide +kernel)) ggX9_isTown_X9_in
theorem dX9_isTown_0 : decode cX9_isTown 0 = .ok (.iload_n 0, 1) := by decide +kernel
theorem dX9_isTown_1 : decode cX9_isTown 1 = .ok (.iconst 0, 1) := by decide +kernel
theorem dX9_isTown_2 : decode cX9_isTown 2 = .ok (.iconst 4, 1) := by decide +kernel
theorem dX9_isTown_3 : decode cX9_isTown 3 = .ok (.invokestatic 141, 3) := by decide +kernel
theorem dX9_isTown_6 : decode cX9_isTown 6 = .ok (.ireturn, 1) := by decide +kernel
set_option maxRecDepth 20000 in
theorem ggX9_isBill_X9_in : GoodIn wsX9_isBill wsX9_in := goodIn_r _ [5] rfl (by decide +kernel)
set_option maxRecDepth 20000 in
theorem gX9_isBill_X9_in : GoodIn wsX9_isBill (va_wsS RX9 141 yX9_in wsX9_in) := goodIn_app (goodIn_of _ (by decide +kernel)) ggX9_isBill_X9_in
theorem dX9_isBill_0 : decode cX9_isBill 0 = .ok (.iload_n 1, 1) := by decide +kernel
theorem dX9_isBill_1 : decode cX9_isBill 1 = .ok (.iconst 0, 1) := by decide +kernel
theorem dX9_isBill_2 : decode cX9_isBill 2 = .ok (.aload_n 0, 1) := by decide +kernel
theorem dX9_isBill_3 : decode cX9_isBill 3 = .ok (.getfield 145, 3) := by decide +kernel
theorem dX9_isBill_6 : decode cX9_isBill 6 = .ok (.iconst 1, 1) := by decide +kernel
theorem dX9_isBill_7 : decode cX9_isBill 7 = .ok (.isub, 1) := by decide +kernel
theorem dX9_isBill_8 : decode cX9_isBill 8 = .ok (.invokestatic 141, 3) := by decide +kernel
theorem dX9_isBill_11 : decode cX9_isBill 11 = .ok (.ireturn, 1) := by decide +kernel
theorem dX9_carry_0 : decode cX9_carry 0 = .ok (.iconst 0, 1) := by decide +kernel
theorem dX9_carry_1 : decode cX9_carry 1 = .ok (.istore_n 1, 1) := by decide +kernel
theorem dX9_carry_2 : decode cX9_carry 2 = .ok (.iload_n 1, 1) := by decide +kernel
theorem dX9_carry_3 : decode cX9_carry 3 = .ok (.bipush 100, 2) := by decide +kernel
theorem dX9_carry_5 : decode cX9_carry 5 = .ok (.if_icmp .ge 41, 3) := by decide +kernel
theorem dX9_carry_8 : decode cX9_carry 8 = .ok (.aload_n 0, 1) := by decide +kernel
theorem dX9_carry_9 : decode cX9_carry 9 = .ok (.getfield 52, 3) := by decide +kernel
theorem dX9_carry_12 : decode cX9_carry 12 = .ok (.iload_n 1, 1) := by decide +kernel
theorem dX9_carry_13 : decode cX9_carry 13 = .ok (.laload, 1) := by decide +kernel
theorem dX9_carry_14 : decode cX9_carry 14 = .ok (.aload_n 0, 1) := by decide +kernel
theorem dX9_carry_15 : decode cX9_carry 15 = .ok (.getfield 52, 3) := by decide +kernel
theorem dX9_carry_18 : decode cX9_carry 18 = .ok (.iload_n 1, 1) := by decide +kernel
theorem dX9_carry_19 : decode cX9_carry 19 = .ok (.laload, 1) := by decide +kernel
theorem dX9_carry_20 : decode cX9_carry 20 = .ok (.aload_n 0, 1) := by decide +kernel
theorem dX9_carry_21 : decode cX9_carry 21 = .ok (.getfield 9, 3) := by decide +kernel
theorem dX9_carry_24 : decode cX9_carry 24 = .ok (.i2l, 1) := by decide +kernel
theorem dX9_carry_25 : decode cX9_carry 25 = .ok (.lmul, 1) := by decide +kernel
theorem dX9_carry_26 : decode cX9_carry 26 = .ok (.ldc2_w 148, 3) := by decide +kernel
theorem dX9_carry_29 : decode cX9_carry 29 = .ok (.ldiv, 1) := by decide +kernel
theorem dX9_carry_30 : decode cX9_carry 30 = .ok (.ladd, 1) := by decide +kernel
theorem dX9_carry_31 : decode cX9_carry 31 = .ok (.ldc2_w 150, 3) := by decide +kernel
theorem dX9_carry_34 : decode cX9_carry 34 = .ok (.lcmp, 1) := by decide +kernel
theorem dX9_carry_35 : decode cX9_carry 35 = .ok (.ifCond .le 5, 3) := by decide +kernel
theorem dX9_carry_38 : decode cX9_carry 38 = .ok (.iconst 0, 1) := by decide +kernel
theorem dX9_carry_39 : decode cX9_carry 39 = .ok (.ireturn, 1) := by decide +kernel
theorem dX9_carry_40 : decode cX9_carry 40 = .ok (.iinc 1 1, 3) := by decide +kernel
theorem dX9_carry_43 : decode cX9_carry 43 = .ok (.goto (-41), 3) := by decide +kernel
theorem dX9_carry_46 : decode cX9_carry 46 = .ok (.iconst 0, 1) := by decide +kernel
theorem dX9_carry_47 : decode cX9_carry 47 = .ok (.istore_n 1, 1) := by decide +kernel
theorem dX9_carry_48 : decode cX9_carry 48 = .ok (.iload_n 1, 1) := by decide +kernel
theorem dX9_carry_49 : decode cX9_carry 49 = .ok (.bipush 100, 2) := by decide +kernel
theorem dX9_carry_51 : decode cX9_carry 51 = .ok (.if_icmp .ge 34, 3) := by decide +kernel
theorem dX9_carry_54 : decode cX9_carry 54 = .ok (.aload_n 0, 1) := by decide +kernel
theorem dX9_carry_55 : decode cX9_carry 55 = .ok (.getfield 52, 3) := by decide +kernel
theorem dX9_carry_58 : decode cX9_carry 58 = .ok (.iload_n 1, 1) := by decide +kernel
theorem dX9_carry_59 : decode cX9_carry 59 = .ok (.dup2, 1) := by decide +kernel
theorem dX9_carry_60 : decode cX9_carry 60 = .ok (.laload, 1) := by decide +kernel
theorem dX9_carry_61 : decode cX9_carry 61 = .ok (.aload_n 0, 1) := by decide +kernel
theorem dX9_carry_62 : decode cX9_carry 62 = .ok (.getfield 52, 3) := by decide +kernel
theorem dX9_carry_65 : decode cX9_carry 65 = .ok (.iload_n 1, 1) := by decide +kernel
theorem dX9_carry_66 : decode cX9_carry 66 = .ok (.laload, 1) := by decide +kernel
theorem dX9_carry_67 : decode cX9_carry 67 = .ok (.aload_n 0, 1) := by decide +kernel
theorem dX9_carry_68 : decode cX9_carry 68 = .ok (.getfield 9, 3) := by decide +kernel
theorem dX9_carry_71 : decode cX9_carry 71 = .ok (.i2l, 1) := by decide +kernel
theorem dX9_carry_72 : decode cX9_carry 72 = .ok (.lmul, 1) := by decide +kernel
theorem dX9_carry_73 : decode cX9_carry 73 = .ok (.ldc2_w 148, 3) := by decide +kernel
theorem dX9_carry_76 : decode cX9_carry 76 = .ok (.ldiv, 1) := by decide +kernel
theorem dX9_carry_77 : decode cX9_carry 77 = .ok (.ladd, 1) := by decide +kernel
theorem dX9_carry_78 : decode cX9_carry 78 = .ok (.lastore, 1) := by decide +kernel
theorem dX9_carry_79 : decode cX9_carry 79 = .ok (.iinc 1 1, 3) := by decide +kernel
theorem dX9_carry_82 : decode cX9_carry 82 = .ok (.goto (-34), 3) := by decide +kernel
theorem dX9_carry_85 : decode cX9_carry 85 = .ok (.iconst 1, 1) := by decide +kernel
theorem dX9_carry_86 : decode cX9_carry 86 = .ok (.ireturn, 1) := by decide +kernel
set_option maxRecDepth 20000 in
theorem ggX9_days_X9_in : GoodIn wsX9_days wsX9_in := goodIn_r _ [9] rfl (by decide +kernel)
set_option maxRecDepth 20000 in
theorem gX9_days_X9_in : GoodIn wsX9_days (va_wsS RX9 141 yX9_in wsX9_in) := goodIn_app (goodIn_of _ (by decide +kernel)) ggX9_days_X9_in
set_option maxRecDepth 20000 in
theorem ggX9_days_X9_finding : GoodIn wsX9_days wsX9_finding := goodIn_r _ [13, 14, 15, 24, 25, 26, 27, 28, 29, 30, 31, 32, 33, 34, 35, 36, 37, 38, 39, 40, 41, 42, 43, 44, 45, 46, 47, 48, 49, 50, 51, 52, 53, 54, 55, 56, 57, 58, 59, 60, 61, 62, 63, 64, 65, 66, 67, 68, 69, 70, 71, 72, 73, 74, 75, 76, 77, 78] rfl (by decide +kernel)
set_option maxRecDepth 20000 in
theorem gX9_days_X9_finding : GoodIn wsX9_days (wsV RX9 154 RX9 yX9_finding wsX9_finding) := goodIn_app (goodIn_of _ (by decide +kernel)) ggX9_days_X9_finding
set_option maxRecDepth 20000 in
theorem ggX9_days_X9_carry : GoodIn wsX9_days wsX9_carry := goodIn_r _ [19, 20, 21, 22, 23, 24, 25, 26, 27, 28, 29, 30, 31, 32, 33, 34, 35, 36, 37, 38, 39, 40, 41, 42, 43, 44, 45, 46, 47, 48, 49, 50, 51, 52, 53, 54, 55, 56, 57, 58, 59, 60, 61, 62, 63, 64, 65, 66, 67, 68, 69, 70, 71, 72, 73, 74, 75, 76, 77, 78] rfl (by decide +kernel)
set_option maxRecDepth 20000 in
theorem gX9_days_X9_carry : GoodIn wsX9_days (wsV RX9 165 RX9 yX9_carry wsX9_carry) := goodIn_app (goodIn_of _ (by decide +kernel)) ggX9_days_X9_carry
theorem dX9_days_0 : decode cX9_days 0 = .ok (.iload_n 1, 1) := by decide +kernel
theorem dX9_days_1 : decode cX9_days 1 = .ok (.iconst 1, 1) := by decide +kernel
theorem dX9_days_2 : decode cX9_days 2 = .ok (.bipush 60, 2) := by decide +kernel
theorem dX9_days_4 : decode cX9_days 4 = .ok (.invokestatic 141, 3) := by decide +kernel
theorem dX9_days_7 : decode cX9_days 7 = .ok (.ifCond .ne 11, 3) := by decide +kernel
theorem dX9_days_10 : decode cX9_days 10 = .ok (.aload_n 0, 1) := by decide +kernel
theorem dX9_days_11 : decode cX9_days 11 = .ok (.ldc2_w 152, 3) := by decide +kernel
theorem dX9_days_14 : decode cX9_days 14 = .ok (.invokevirtual 154, 3) := by decide +kernel
theorem dX9_days_17 : decode cX9_days 17 = .ok (.lreturn, 1) := by decide +kernel
theorem dX9_days_18 : decode cX9_days 18 = .ok (.iconst 0, 1) := by decide +kernel
theorem dX9_days_19 : decode cX9_days 19 = .ok (.istore_n 2, 1) := by decide +kernel
theorem dX9_days_20 : decode cX9_days 20 = .ok (.iload_n 2, 1) := by decide +kernel
theorem dX9_days_21 : decode cX9_days 21 = .ok (.iload_n 1, 1) := by decide +kernel
theorem dX9_days_22 : decode cX9_days 22 = .ok (.if_icmp .ge 49, 3) := by decide +kernel
theorem dX9_days_25 : decode cX9_days 25 = .ok (.aload_n 0, 1) := by decide +kernel
theorem dX9_days_26 : decode cX9_days 26 = .ok (.getfield 158, 3) := by decide +kernel
theorem dX9_days_29 : decode cX9_days 29 = .ok (.ldc2_w 161, 3) := by decide +kernel
theorem dX9_days_32 : decode cX9_days 32 = .ok (.lrem, 1) := by decide +kernel
theorem dX9_days_33 : decode cX9_days 33 = .ok (.ldc2_w 163, 3) := by decide +kernel
theorem dX9_days_36 : decode cX9_days 36 = .ok (.lcmp, 1) := by decide +kernel
theorem dX9_days_37 : decode cX9_days 37 = .ok (.ifCond .ne 18, 3) := by decide +kernel
theorem dX9_days_40 : decode cX9_days 40 = .ok (.aload_n 0, 1) := by decide +kernel
theorem dX9_days_41 : decode cX9_days 41 = .ok (.invokevirtual 165, 3) := by decide +kernel
theorem dX9_days_44 : decode cX9_days 44 = .ok (.ifCond .ne 11, 3) := by decide +kernel
theorem dX9_days_47 : decode cX9_days 47 = .ok (.aload_n 0, 1) := by decide +kernel
theorem dX9_days_48 : decode cX9_days 48 = .ok (.ldc2_w 169, 3) := by decide +kernel
theorem dX9_days_51 : decode cX9_days 51 = .ok (.invokevirtual 154, 3) := by decide +kernel
theorem dX9_days_54 : decode cX9_days 54 = .ok (.lreturn, 1) := by decide +kernel
theorem dX9_days_55 : decode cX9_days 55 = .ok (.aload_n 0, 1) := by decide +kernel
theorem dX9_days_56 : decode cX9_days 56 = .ok (.dup, 1) := by decide +kernel
theorem dX9_days_57 : decode cX9_days 57 = .ok (.getfield 158, 3) := by decide +kernel
theorem dX9_days_60 : decode cX9_days 60 = .ok (.lconst 1, 1) := by decide +kernel
theorem dX9_days_61 : decode cX9_days 61 = .ok (.ladd, 1) := by decide +kernel
theorem dX9_days_62 : decode cX9_days 62 = .ok (.putfield 158, 3) := by decide +kernel
theorem dX9_days_65 : decode cX9_days 65 = .ok (.iinc 2 1, 3) := by decide +kernel
theorem dX9_days_68 : decode cX9_days 68 = .ok (.goto (-48), 3) := by decide +kernel
theorem dX9_days_71 : decode cX9_days 71 = .ok (.aload_n 0, 1) := by decide +kernel
theorem dX9_days_72 : decode cX9_days 72 = .ok (.getfield 158, 3) := by decide +kernel
theorem dX9_days_75 : decode cX9_days 75 = .ok (.lreturn, 1) := by decide +kernel
set_option maxRecDepth 20000 in
theorem ggX9_gain_X9_in : GoodIn wsX9_gain wsX9_in := goodIn_r _ [6] rfl (by decide +kernel)
set_option maxRecDepth 20000 in
theorem gX9_gain_X9_in : GoodIn wsX9_gain (va_wsS RX9 141 yX9_in wsX9_in) := goodIn_app (goodIn_of _ (by decide +kernel)) ggX9_gain_X9_in
set_option maxRecDepth 20000 in
theorem ggX9_gain_X9_finding : GoodIn wsX9_gain wsX9_finding := goodIn_r _ [10, 11, 12, 13, 14, 15, 16, 17, 18, 19, 20, 21, 22, 23, 24, 25, 26, 27, 28, 29, 30, 31, 32, 33, 34, 35, 36, 37, 38, 39, 40, 41, 42, 43, 44, 45, 46, 47, 48, 49, 50, 51, 52, 53, 54, 55, 56, 57, 58, 59, 60, 61, 62, 63, 64, 65, 66, 67] rfl (by decide +kernel)
set_option maxRecDepth 20000 in
theorem gX9_gain_X9_finding : GoodIn wsX9_gain (wsV RX9 154 RX9 yX9_finding wsX9_finding) := goodIn_app (goodIn_of _ (by decide +kernel)) ggX9_gain_X9_finding
theorem dX9_gain_0 : decode cX9_gain 0 = .ok (.iload_n 1, 1) := by decide +kernel
theorem dX9_gain_1 : decode cX9_gain 1 = .ok (.iconst 0, 1) := by decide +kernel
theorem dX9_gain_2 : decode cX9_gain 2 = .ok (.sipush 200, 3) := by decide +kernel
theorem dX9_gain_5 : decode cX9_gain 5 = .ok (.invokestatic 141, 3) := by decide +kernel
theorem dX9_gain_8 : decode cX9_gain 8 = .ok (.ifCond .ne 11, 3) := by decide +kernel
theorem dX9_gain_11 : decode cX9_gain 11 = .ok (.aload_n 0, 1) := by decide +kernel
theorem dX9_gain_12 : decode cX9_gain 12 = .ok (.ldc2_w 152, 3) := by decide +kernel
theorem dX9_gain_15 : decode cX9_gain 15 = .ok (.invokevirtual 154, 3) := by decide +kernel
theorem dX9_gain_18 : decode cX9_gain 18 = .ok (.lreturn, 1) := by decide +kernel
theorem dX9_gain_19 : decode cX9_gain 19 = .ok (.aload_n 0, 1) := by decide +kernel
theorem dX9_gain_20 : decode cX9_gain 20 = .ok (.getfield 9, 3) := by decide +kernel
theorem dX9_gain_23 : decode cX9_gain 23 = .ok (.istore_n 2, 1) := by decide +kernel
theorem dX9_gain_24 : decode cX9_gain 24 = .ok (.aload_n 0, 1) := by decide +kernel
theorem dX9_gain_25 : decode cX9_gain 25 = .ok (.iload_n 1, 1) := by decide +kernel
theorem dX9_gain_26 : decode cX9_gain 26 = .ok (.putfield 9, 3) := by decide +kernel
theorem dX9_gain_29 : decode cX9_gain 29 = .ok (.iload_n 2, 1) := by decide +kernel
theorem dX9_gain_30 : decode cX9_gain 30 = .ok (.i2l, 1) := by decide +kernel
theorem dX9_gain_31 : decode cX9_gain 31 = .ok (.lreturn, 1) := by decide +kernel
set_option maxRecDepth 20000 in
theorem ggX9_road_X9_in : GoodIn wsX9_road wsX9_in := goodIn_r _ [6] rfl (by decide +kernel)
set_option maxRecDepth 20000 in
theorem gX9_road_X9_in : GoodIn wsX9_road (va_wsS RX9 141 yX9_in wsX9_in) := goodIn_app (goodIn_of _ (by decide +kernel)) ggX9_road_X9_in
set_option maxRecDepth 20000 in
theorem ggX9_road_X9_finding : GoodIn wsX9_road wsX9_finding := goodIn_r _ [10, 11, 12, 13, 14, 15, 16, 17, 18, 19, 20, 21, 22, 23, 24, 25, 26, 27, 28, 29, 30, 31, 32, 33, 34, 35, 36, 37, 38, 39, 40, 41, 42, 43, 44, 45, 46, 47, 48, 49, 50, 51, 52, 53, 54, 55, 56, 57, 58, 59, 60, 61, 62, 63, 64, 65, 66, 67] rfl (by decide +kernel)
set_option maxRecDepth 20000 in
theorem gX9_road_X9_finding : GoodIn wsX9_road (wsV RX9 154 RX9 yX9_finding wsX9_finding) := goodIn_app (goodIn_of _ (by decide +kernel)) ggX9_road_X9_finding
theorem dX9_road_0 : decode cX9_road 0 = .ok (.iload_n 1, 1) := by decide +kernel
theorem dX9_road_1 : decode cX9_road 1 = .ok (.iconst 1, 1) := by decide +kernel
theorem dX9_road_2 : decode cX9_road 2 = .ok (.iconst 4, 1) := by decide +kernel
theorem dX9_road_3 : decode cX9_road 3 = .ok (.invokestatic 141, 3) := by decide +kernel
theorem dX9_road_6 : decode cX9_road 6 = .ok (.ifCond .eq 13, 3) := by decide +kernel
theorem dX9_road_9 : decode cX9_road 9 = .ok (.iload_n 2, 1) := by decide +kernel
theorem dX9_road_10 : decode cX9_road 10 = .ok (.iconst 0, 1) := by decide +kernel
theorem dX9_road_11 : decode cX9_road 11 = .ok (.bipush 30, 2) := by decide +kernel
theorem dX9_road_13 : decode cX9_road 13 = .ok (.invokestatic 141, 3) := by decide +kernel
theorem dX9_road_16 : decode cX9_road 16 = .ok (.ifCond .ne 11, 3) := by decide +kernel
theorem dX9_road_19 : decode cX9_road 19 = .ok (.aload_n 0, 1) := by decide +kernel
theorem dX9_road_20 : decode cX9_road 20 = .ok (.ldc2_w 152, 3) := by decide +kernel
theorem dX9_road_23 : decode cX9_road 23 = .ok (.invokevirtual 154, 3) := by decide +kernel
theorem dX9_road_26 : decode cX9_road 26 = .ok (.lreturn, 1) := by decide +kernel
theorem dX9_road_27 : decode cX9_road 27 = .ok (.aload_n 0, 1) := by decide +kernel
theorem dX9_road_28 : decode cX9_road 28 = .ok (.getfield 13, 3) := by decide +kernel
theorem dX9_road_31 : decode cX9_road 31 = .ok (.iload_n 1, 1) := by decide +kernel
theorem dX9_road_32 : decode cX9_road 32 = .ok (.iaload, 1) := by decide +kernel
theorem dX9_road_33 : decode cX9_road 33 = .ok (.istore_n 3, 1) := by decide +kernel
theorem dX9_road_34 : decode cX9_road 34 = .ok (.aload_n 0, 1) := by decide +kernel
theorem dX9_road_35 : decode cX9_road 35 = .ok (.getfield 13, 3) := by decide +kernel
theorem dX9_road_38 : decode cX9_road 38 = .ok (.iload_n 1, 1) := by decide +kernel
theorem dX9_road_39 : decode cX9_road 39 = .ok (.iload_n 2, 1) := by decide +kernel
theorem dX9_road_40 : decode cX9_road 40 = .ok (.iastore, 1) := by decide +kernel
theorem dX9_road_41 : decode cX9_road 41 = .ok (.iload_n 3, 1) := by decide +kernel
theorem dX9_road_42 : decode cX9_road 42 = .ok (.i2l, 1) := by decide +kernel
theorem dX9_road_43 : decode cX9_road 43 = .ok (.lreturn, 1) := by decide +kernel
set_option maxRecDepth 20000 in
theorem ggX9_seat_X9_isHouse : GoodIn wsX9_seat wsX9_isHouse := goodIn_r _ [6, 7, 8, 5, 9] rfl (by decide +kernel)
set_option maxRecDepth 20000 in
theorem gX9_seat_X9_isHouse : GoodIn wsX9_seat (va_wsS RX9 171 yX9_isHouse wsX9_isHouse) := goodIn_app (goodIn_of _ (by decide +kernel)) ggX9_seat_X9_isHouse
set_option maxRecDepth 20000 in
theorem ggX9_seat_X9_isTown : GoodIn wsX9_seat wsX9_isTown := goodIn_r _ [12, 7, 8, 5, 9] rfl (by decide +kernel)
set_option maxRecDepth 20000 in
theorem gX9_seat_X9_isTown : GoodIn wsX9_seat (va_wsS RX9 175 yX9_isTown wsX9_isTown) := goodIn_app (goodIn_of _ (by decide +kernel)) ggX9_seat_X9_isTown
set_option maxRecDepth 20000 in
theorem ggX9_seat_X9_finding : GoodIn wsX9_seat wsX9_finding := goodIn_r _ [16, 17, 18, 19, 20, 21, 22, 23, 24, 25, 26, 27, 28, 29, 30, 31, 32, 33, 34, 35, 36, 37, 38, 39, 40, 41, 42, 43, 44, 45, 46, 47, 48, 49, 50, 51, 52, 53, 54, 55, 56, 57, 58, 59, 60, 61, 62, 63, 64, 65, 66, 67, 68, 69, 70, 71, 72, 73] rfl (by decide +kernel)
set_option maxRecDepth 20000 in
theorem gX9_seat_X9_finding : GoodIn wsX9_seat (wsV RX9 154 RX9 yX9_finding wsX9_finding) := goodIn_app (goodIn_of _ (by decide +kernel)) ggX9_seat_X9_finding
theorem dX9_seat_0 : decode cX9_seat 0 = .ok (.iload_n 1, 1) := by decide +kernel
theorem dX9_seat_1 : decode cX9_seat 1 = .ok (.invokestatic 171, 3) := by decide +kernel
theorem dX9_seat_4 : decode cX9_seat 4 = .ok (.ifCond .eq 10, 3) := by decide +kernel
theorem dX9_seat_7 : decode cX9_seat 7 = .ok (.iload_n 2, 1) := by decide +kernel
theorem dX9_seat_8 : decode cX9_seat 8 = .ok (.invokestatic 175, 3) := by decide +kernel
theorem dX9_seat_11 : decode cX9_seat 11 = .ok (.ifCond .ne 11, 3) := by decide +kernel
theorem dX9_seat_14 : decode cX9_seat 14 = .ok (.aload_n 0, 1) := by decide +kernel
theorem dX9_seat_15 : decode cX9_seat 15 = .ok (.ldc2_w 152, 3) := by decide +kernel
theorem dX9_seat_18 : decode cX9_seat 18 = .ok (.invokevirtual 154, 3) := by decide +kernel
theorem dX9_seat_21 : decode cX9_seat 21 = .ok (.lreturn, 1) := by decide +kernel
theorem dX9_seat_22 : decode cX9_seat 22 = .ok (.aload_n 0, 1) := by decide +kernel
theorem dX9_seat_23 : decode cX9_seat 23 = .ok (.getfield 17, 3) := by decide +kernel
theorem dX9_seat_26 : decode cX9_seat 26 = .ok (.iload_n 1, 1) := by decide +kernel
theorem dX9_seat_27 : decode cX9_seat 27 = .ok (.iaload, 1) := by decide +kernel
theorem dX9_seat_28 : decode cX9_seat 28 = .ok (.istore_n 3, 1) := by decide +kernel
theorem dX9_seat_29 : decode cX9_seat 29 = .ok (.aload_n 0, 1) := by decide +kernel
theorem dX9_seat_30 : decode cX9_seat 30 = .ok (.getfield 17, 3) := by decide +kernel
theorem dX9_seat_33 : decode cX9_seat 33 = .ok (.iload_n 1, 1) := by decide +kernel
theorem dX9_seat_34 : decode cX9_seat 34 = .ok (.iload_n 2, 1) := by decide +kernel
theorem dX9_seat_35 : decode cX9_seat 35 = .ok (.iastore, 1) := by decide +kernel
theorem dX9_seat_36 : decode cX9_seat 36 = .ok (.iload_n 3, 1) := by decide +kernel
theorem dX9_seat_37 : decode cX9_seat 37 = .ok (.i2l, 1) := by decide +kernel
theorem dX9_seat_38 : decode cX9_seat 38 = .ok (.lreturn, 1) := by decide +kernel
theorem dX9_becomes_0 : decode cX9_becomes 0 = .ok (.aload_n 0, 1) := by decide +kernel
theorem dX9_becomes_1 : decode cX9_becomes 1 = .ok (.getfield 35, 3) := by decide +kernel
theorem dX9_becomes_4 : decode cX9_becomes 4 = .ok (.iload_n 1, 1) := by decide +kernel
theorem dX9_becomes_5 : decode cX9_becomes 5 = .ok (.iload_n 2, 1) := by decide +kernel
theorem dX9_becomes_6 : decode cX9_becomes 6 = .ok (.iastore, 1) := by decide +kernel
theorem dX9_becomes_7 : decode cX9_becomes 7 = .ok (.aload_n 0, 1) := by decide +kernel
theorem dX9_becomes_8 : decode cX9_becomes 8 = .ok (.getfield 44, 3) := by decide +kernel
theorem dX9_becomes_11 : decode cX9_becomes 11 = .ok (.iconst 5, 1) := by decide +kernel
theorem dX9_becomes_12 : decode cX9_becomes 12 = .ok (.iload_n 1, 1) := by decide +kernel
theorem dX9_becomes_13 : decode cX9_becomes 13 = .ok (.imul, 1) := by decide +kernel
theorem dX9_becomes_14 : decode cX9_becomes 14 = .ok (.iload_n 2, 1) := by decide +kernel
theorem dX9_becomes_15 : decode cX9_becomes 15 = .ok (.iadd, 1) := by decide +kernel
theorem dX9_becomes_16 : decode cX9_becomes 16 = .ok (.aload_n 0, 1) := by decide +kernel
theorem dX9_becomes_17 : decode cX9_becomes 17 = .ok (.getfield 158, 3) := by decide +kernel
theorem dX9_becomes_20 : decode cX9_becomes 20 = .ok (.lastore, 1) := by decide +kernel
theorem dX9_becomes_21 : decode cX9_becomes 21 = .ok (.return_, 1) := by decide +kernel
set_option maxRecDepth 20000 in
theorem ggX9_draw_X9_in : GoodIn wsX9_draw wsX9_in := goodIn_r _ [18] rfl (by decide +kernel)
set_option maxRecDepth 20000 in
theorem gX9_draw_X9_in : GoodIn wsX9_draw (va_wsS RX9 141 yX9_in wsX9_in) := goodIn_app (goodIn_of _ (by decide +kernel)) ggX9_draw_X9_in
set_option maxRecDepth 20000 in
theorem ggX9_draw_X9_isHouse : GoodIn wsX9_draw wsX9_isHouse := goodIn_r _ [21, 15, 16, 17, 18] rfl (by decide +kernel)
set_option maxRecDepth 20000 in
theorem gX9_draw_X9_isHouse : GoodIn wsX9_draw (va_wsS RX9 171 yX9_isHouse wsX9_isHouse) := goodIn_app (goodIn_of _ (by decide +kernel)) ggX9_draw_X9_isHouse
set_option maxRecDepth 20000 in
theorem ggX9_draw_X9_finding : GoodIn wsX9_draw wsX9_finding := goodIn_r _ [25, 26, 27, 34, 35, 36, 37, 38, 39, 40, 41, 42, 43, 44, 45, 46, 47, 48, 49, 50, 51, 52, 53, 54, 55, 56, 57, 58, 59, 60, 61, 62, 63, 64, 65, 66, 67, 68, 69, 70, 71, 72, 73, 74, 75, 76, 77, 78, 79, 80, 81, 82, 83, 84, 85, 86, 87, 88] rfl (by decide +kernel)
set_option maxRecDepth 20000 in
theorem gX9_draw_X9_finding : GoodIn wsX9_draw (wsV RX9 154 RX9 yX9_finding wsX9_finding) := goodIn_app (goodIn_of _ (by decide +kernel)) ggX9_draw_X9_finding
set_option maxRecDepth 20000 in
theorem ggX9_draw_X9_becomes : GoodIn wsX9_draw wsX9_becomes := goodIn_r _ [31, 32, 13, 33, 34, 35, 36, 37, 38, 39, 40, 41, 42, 43, 44, 45, 46, 47, 48, 49, 50, 51, 52, 53, 54, 55, 56, 57, 58, 59, 60, 61, 62, 63, 64, 65, 66, 67, 68, 69, 70, 71, 72, 73, 74, 75, 76, 77, 78, 79, 80, 81, 82, 83, 84, 85, 86, 87, 88] rfl (by decide +kernel)
set_option maxRecDepth 20000 in
theorem gX9_draw_X9_becomes : GoodIn wsX9_draw (wsV RX9 181 RX9 yX9_becomes wsX9_becomes) := goodIn_app (goodIn_of _ (by decide +kernel)) ggX9_draw_X9_becomes
theorem dX9_draw_0 : decode cX9_draw 0 = .ok (.iload_n 1, 1) := by decide +kernel
theorem dX9_draw_1 : decode cX9_draw 1 = .ok (.iconst 0, 1) := by decide +kernel
theorem dX9_draw_2 : decode cX9_draw 2 = .ok (.iconst 2, 1) := by decide +kernel
theorem dX9_draw_3 : decode cX9_draw 3 = .ok (.invokestatic 141, 3) := by decide +kernel
theorem dX9_draw_6 : decode cX9_draw 6 = .ok (.ifCond .eq 36, 3) := by decide +kernel
theorem dX9_draw_9 : decode cX9_draw 9 = .ok (.iload_n 2, 1) := by decide +kernel
theorem dX9_draw_10 : decode cX9_draw 10 = .ok (.invokestatic 171, 3) := by decide +kernel
theorem dX9_draw_13 : decode cX9_draw 13 = .ok (.ifCond .eq 29, 3) := by decide +kernel
theorem dX9_draw_16 : decode cX9_draw 16 = .ok (.iload_n 3, 1) := by decide +kernel
theorem dX9_draw_17 : decode cX9_draw 17 = .ok (.invokestatic 171, 3) := by decide +kernel
theorem dX9_draw_20 : decode cX9_draw 20 = .ok (.ifCond .eq 22, 3) := by decide +kernel
theorem dX9_draw_23 : decode cX9_draw 23 = .ok (.iload 4, 2) := by decide +kernel
theorem dX9_draw_25 : decode cX9_draw 25 = .ok (.invokestatic 171, 3) := by decide +kernel
theorem dX9_draw_28 : decode cX9_draw 28 = .ok (.ifCond .eq 14, 3) := by decide +kernel
theorem dX9_draw_31 : decode cX9_draw 31 = .ok (.iload 5, 2) := by decide +kernel
theorem dX9_draw_33 : decode cX9_draw 33 = .ok (.iconst 1, 1) := by decide +kernel
theorem dX9_draw_34 : decode cX9_draw 34 = .ok (.ldc 178, 2) := by decide +kernel
theorem dX9_draw_36 : decode cX9_draw 36 = .ok (.invokestatic 141, 3) := by decide +kernel
theorem dX9_draw_39 : decode cX9_draw 39 = .ok (.ifCond .ne 11, 3) := by decide +kernel
theorem dX9_draw_42 : decode cX9_draw 42 = .ok (.aload_n 0, 1) := by decide +kernel
theorem dX9_draw_43 : decode cX9_draw 43 = .ok (.ldc2_w 152, 3) := by decide +kernel
theorem dX9_draw_46 : decode cX9_draw 46 = .ok (.invokevirtual 154, 3) := by decide +kernel
theorem dX9_draw_49 : decode cX9_draw 49 = .ok (.lreturn, 1) := by decide +kernel
theorem dX9_draw_50 : decode cX9_draw 50 = .ok (.iload_n 2, 1) := by decide +kernel
theorem dX9_draw_51 : decode cX9_draw 51 = .ok (.iload 4, 2) := by decide +kernel
theorem dX9_draw_53 : decode cX9_draw 53 = .ok (.if_icmp .ne 11, 3) := by decide +kernel
theorem dX9_draw_56 : decode cX9_draw 56 = .ok (.aload_n 0, 1) := by decide +kernel
theorem dX9_draw_57 : decode cX9_draw 57 = .ok (.ldc2_w 179, 3) := by decide +kernel
theorem dX9_draw_60 : decode cX9_draw 60 = .ok (.invokevirtual 154, 3) := by decide +kernel
theorem dX9_draw_63 : decode cX9_draw 63 = .ok (.lreturn, 1) := by decide +kernel
theorem dX9_draw_64 : decode cX9_draw 64 = .ok (.aload_n 0, 1) := by decide +kernel
theorem dX9_draw_65 : decode cX9_draw 65 = .ok (.getfield 145, 3) := by decide +kernel
theorem dX9_draw_68 : decode cX9_draw 68 = .ok (.bipush 40, 2) := by decide +kernel
theorem dX9_draw_70 : decode cX9_draw 70 = .ok (.if_icmp .ne 11, 3) := by decide +kernel
theorem dX9_draw_73 : decode cX9_draw 73 = .ok (.aload_n 0, 1) := by decide +kernel
theorem dX9_draw_74 : decode cX9_draw 74 = .ok (.ldc2_w 169, 3) := by decide +kernel
theorem dX9_draw_77 : decode cX9_draw 77 = .ok (.invokevirtual 154, 3) := by decide +kernel
theorem dX9_draw_80 : decode cX9_draw 80 = .ok (.lreturn, 1) := by decide +kernel
theorem dX9_draw_81 : decode cX9_draw 81 = .ok (.aload_n 0, 1) := by decide +kernel
theorem dX9_draw_82 : decode cX9_draw 82 = .ok (.getfield 145, 3) := by decide +kernel
theorem dX9_draw_85 : decode cX9_draw 85 = .ok (.istore 6, 2) := by decide +kernel
theorem dX9_draw_87 : decode cX9_draw 87 = .ok (.aload_n 0, 1) := by decide +kernel
theorem dX9_draw_88 : decode cX9_draw 88 = .ok (.getfield 20, 3) := by decide +kernel
theorem dX9_draw_91 : decode cX9_draw 91 = .ok (.iload 6, 2) := by decide +kernel
theorem dX9_draw_93 : decode cX9_draw 93 = .ok (.iload_n 1, 1) := by decide +kernel
theorem dX9_draw_94 : decode cX9_draw 94 = .ok (.iastore, 1) := by decide +kernel
theorem dX9_draw_95 : decode cX9_draw 95 = .ok (.aload_n 0, 1) := by decide +kernel
theorem dX9_draw_96 : decode cX9_draw 96 = .ok (.getfield 23, 3) := by decide +kernel
theorem dX9_draw_99 : decode cX9_draw 99 = .ok (.iload 6, 2) := by decide +kernel
theorem dX9_draw_101 : decode cX9_draw 101 = .ok (.iload_n 2, 1) := by decide +kernel
theorem dX9_draw_102 : decode cX9_draw 102 = .ok (.iastore, 1) := by decide +kernel
theorem dX9_draw_103 : decode cX9_draw 103 = .ok (.aload_n 0, 1) := by decide +kernel
theorem dX9_draw_104 : decode cX9_draw 104 = .ok (.getfield 26, 3) := by decide +kernel
theorem dX9_draw_107 : decode cX9_draw 107 = .ok (.iload 6, 2) := by decide +kernel
theorem dX9_draw_109 : decode cX9_draw 109 = .ok (.iload_n 3, 1) := by decide +kernel
theorem dX9_draw_110 : decode cX9_draw 110 = .ok (.iastore, 1) := by decide +kernel
theorem dX9_draw_111 : decode cX9_draw 111 = .ok (.aload_n 0, 1) := by decide +kernel
theorem dX9_draw_112 : decode cX9_draw 112 = .ok (.getfield 29, 3) := by decide +kernel
theorem dX9_draw_115 : decode cX9_draw 115 = .ok (.iload 6, 2) := by decide +kernel
theorem dX9_draw_117 : decode cX9_draw 117 = .ok (.iload 4, 2) := by decide +kernel
theorem dX9_draw_119 : decode cX9_draw 119 = .ok (.iastore, 1) := by decide +kernel
theorem dX9_draw_120 : decode cX9_draw 120 = .ok (.aload_n 0, 1) := by decide +kernel
theorem dX9_draw_121 : decode cX9_draw 121 = .ok (.getfield 32, 3) := by decide +kernel
theorem dX9_draw_124 : decode cX9_draw 124 = .ok (.iload 6, 2) := by decide +kernel
theorem dX9_draw_126 : decode cX9_draw 126 = .ok (.iload 5, 2) := by decide +kernel
theorem dX9_draw_128 : decode cX9_draw 128 = .ok (.iastore, 1) := by decide +kernel
theorem dX9_draw_129 : decode cX9_draw 129 = .ok (.aload_n 0, 1) := by decide +kernel
theorem dX9_draw_130 : decode cX9_draw 130 = .ok (.getfield 38, 3) := by decide +kernel
theorem dX9_draw_133 : decode cX9_draw 133 = .ok (.iload 6, 2) := by decide +kernel
theorem dX9_draw_135 : decode cX9_draw 135 = .ok (.iconst 0, 1) := by decide +kernel
theorem dX9_draw_136 : decode cX9_draw 136 = .ok (.iastore, 1) := by decide +kernel
theorem dX9_draw_137 : decode cX9_draw 137 = .ok (.aload_n 0, 1) := by decide +kernel
theorem dX9_draw_138 : decode cX9_draw 138 = .ok (.getfield 48, 3) := by decide +kernel
theorem dX9_draw_141 : decode cX9_draw 141 = .ok (.iload 6, 2) := by decide +kernel
theorem dX9_draw_143 : decode cX9_draw 143 = .ok (.iconst 0, 1) := by decide +kernel
theorem dX9_draw_144 : decode cX9_draw 144 = .ok (.bastore, 1) := by decide +kernel
theorem dX9_draw_145 : decode cX9_draw 145 = .ok (.iconst 0, 1) := by decide +kernel
theorem dX9_draw_146 : decode cX9_draw 146 = .ok (.istore 7, 2) := by decide +kernel
theorem dX9_draw_148 : decode cX9_draw 148 = .ok (.iload 7, 2) := by decide +kernel
theorem dX9_draw_150 : decode cX9_draw 150 = .ok (.iconst 5, 1) := by decide +kernel
theorem dX9_draw_151 : decode cX9_draw 151 = .ok (.if_icmp .ge 24, 3) := by decide +kernel
theorem dX9_draw_154 : decode cX9_draw 154 = .ok (.aload_n 0, 1) := by decide +kernel
theorem dX9_draw_155 : decode cX9_draw 155 = .ok (.getfield 44, 3) := by decide +kernel
theorem dX9_draw_158 : decode cX9_draw 158 = .ok (.iconst 5, 1) := by decide +kernel
theorem dX9_draw_159 : decode cX9_draw 159 = .ok (.iload 6, 2) := by decide +kernel
theorem dX9_draw_161 : decode cX9_draw 161 = .ok (.imul, 1) := by decide +kernel
theorem dX9_draw_162 : decode cX9_draw 162 = .ok (.iload 7, 2) := by decide +kernel
theorem dX9_draw_164 : decode cX9_draw 164 = .ok (.iadd, 1) := by decide +kernel
theorem dX9_draw_165 : decode cX9_draw 165 = .ok (.ldc2_w 106, 3) := by decide +kernel
theorem dX9_draw_168 : decode cX9_draw 168 = .ok (.lastore, 1) := by decide +kernel
theorem dX9_draw_169 : decode cX9_draw 169 = .ok (.iinc 7 1, 3) := by decide +kernel
theorem dX9_draw_172 : decode cX9_draw 172 = .ok (.goto (-24), 3) := by decide +kernel
theorem dX9_draw_175 : decode cX9_draw 175 = .ok (.aload_n 0, 1) := by decide +kernel
theorem dX9_draw_176 : decode cX9_draw 176 = .ok (.iload 6, 2) := by decide +kernel
theorem dX9_draw_178 : decode cX9_draw 178 = .ok (.iconst 0, 1) := by decide +kernel
theorem dX9_draw_179 : decode cX9_draw 179 = .ok (.invokevirtual 181, 3) := by decide +kernel
theorem dX9_draw_182 : decode cX9_draw 182 = .ok (.aload_n 0, 1) := by decide +kernel
theorem dX9_draw_183 : decode cX9_draw 183 = .ok (.dup, 1) := by decide +kernel
theorem dX9_draw_184 : decode cX9_draw 184 = .ok (.getfield 145, 3) := by decide +kernel
theorem dX9_draw_187 : decode cX9_draw 187 = .ok (.iconst 1, 1) := by decide +kernel
theorem dX9_draw_188 : decode cX9_draw 188 = .ok (.iadd, 1) := by decide +kernel
theorem dX9_draw_189 : decode cX9_draw 189 = .ok (.putfield 145, 3) := by decide +kernel
theorem dX9_draw_192 : decode cX9_draw 192 = .ok (.iload 6, 2) := by decide +kernel
theorem dX9_draw_194 : decode cX9_draw 194 = .ok (.i2l, 1) := by decide +kernel
theorem dX9_draw_195 : decode cX9_draw 195 = .ok (.lreturn, 1) := by decide +kernel
set_option maxRecDepth 20000 in
theorem ggX9_pass_X9_isBill : GoodIn wsX9_pass wsX9_isBill := goodIn_r _ [14, 15, 16, 17, 13, 18, 28, 29, 30, 31, 32, 33, 34, 35, 36, 37, 38, 39, 40, 41, 42, 43, 44, 45, 46, 47, 48, 49, 50, 51, 52, 53, 54, 55, 56, 57, 58, 59, 60, 61, 62, 63, 64, 65, 66, 67, 68, 69, 70, 71, 72, 73, 74, 75, 76, 77, 78, 79, 80, 81, 82] rfl (by decide +kernel)
set_option maxRecDepth 20000 in
theorem gX9_pass_X9_isBill : GoodIn wsX9_pass (wsV RX9 185 RX9 yX9_isBill wsX9_isBill) := goodIn_app (goodIn_of _ (by decide +kernel)) ggX9_pass_X9_isBill
set_option maxRecDepth 20000 in
theorem ggX9_pass_X9_isHouse : GoodIn wsX9_pass wsX9_isHouse := goodIn_r _ [21, 16, 17, 13, 18] rfl (by decide +kernel)
set_option maxRecDepth 20000 in
theorem gX9_pass_X9_isHouse : GoodIn wsX9_pass (va_wsS RX9 171 yX9_isHouse wsX9_isHouse) := goodIn_app (goodIn_of _ (by decide +kernel)) ggX9_pass_X9_isHouse
set_option maxRecDepth 20000 in
theorem ggX9_pass_X9_finding : GoodIn wsX9_pass wsX9_finding := goodIn_r _ [25, 26, 27, 28, 29, 30, 31, 32, 33, 34, 35, 36, 37, 38, 39, 40, 41, 42, 43, 44, 45, 46, 47, 48, 49, 50, 51, 52, 53, 54, 55, 56, 57, 58, 59, 60, 61, 62, 63, 64, 65, 66, 67, 68, 69, 70, 71, 72, 73, 74, 75, 76, 77, 78, 79, 80, 81, 82] rfl (by decide +kernel)
set_option maxRecDepth 20000 in
theorem gX9_pass_X9_finding : GoodIn wsX9_pass (wsV RX9 154 RX9 yX9_finding wsX9_finding) := goodIn_app (goodIn_of _ (by decide +kernel)) ggX9_pass_X9_finding
theorem dX9_pass_0 : decode cX9_pass 0 = .ok (.aload_n 0, 1) := by decide +kernel
theorem dX9_pass_1 : decode cX9_pass 1 = .ok (.iload_n 1, 1) := by decide +kernel
theorem dX9_pass_2 : decode cX9_pass 2 = .ok (.invokevirtual 185, 3) := by decide +kernel
theorem dX9_pass_5 : decode cX9_pass 5 = .ok (.ifCond .eq 10, 3) := by decide +kernel
theorem dX9_pass_8 : decode cX9_pass 8 = .ok (.iload_n 2, 1) := by decide +kernel
theorem dX9_pass_9 : decode cX9_pass 9 = .ok (.invokestatic 171, 3) := by decide +kernel
theorem dX9_pass_12 : decode cX9_pass 12 = .ok (.ifCond .ne 11, 3) := by decide +kernel
theorem dX9_pass_15 : decode cX9_pass 15 = .ok (.aload_n 0, 1) := by decide +kernel
theorem dX9_pass_16 : decode cX9_pass 16 = .ok (.ldc2_w 152, 3) := by decide +kernel
theorem dX9_pass_19 : decode cX9_pass 19 = .ok (.invokevirtual 154, 3) := by decide +kernel
theorem dX9_pass_22 : decode cX9_pass 22 = .ok (.lreturn, 1) := by decide +kernel
theorem dX9_pass_23 : decode cX9_pass 23 = .ok (.aload_n 0, 1) := by decide +kernel
theorem dX9_pass_24 : decode cX9_pass 24 = .ok (.getfield 35, 3) := by decide +kernel
theorem dX9_pass_27 : decode cX9_pass 27 = .ok (.iload_n 1, 1) := by decide +kernel
theorem dX9_pass_28 : decode cX9_pass 28 = .ok (.iaload, 1) := by decide +kernel
theorem dX9_pass_29 : decode cX9_pass 29 = .ok (.ifCond .eq 21, 3) := by decide +kernel
theorem dX9_pass_32 : decode cX9_pass 32 = .ok (.aload_n 0, 1) := by decide +kernel
theorem dX9_pass_33 : decode cX9_pass 33 = .ok (.getfield 35, 3) := by decide +kernel
theorem dX9_pass_36 : decode cX9_pass 36 = .ok (.iload_n 1, 1) := by decide +kernel
theorem dX9_pass_37 : decode cX9_pass 37 = .ok (.iaload, 1) := by decide +kernel
theorem dX9_pass_38 : decode cX9_pass 38 = .ok (.iconst 1, 1) := by decide +kernel
theorem dX9_pass_39 : decode cX9_pass 39 = .ok (.if_icmp .eq 11, 3) := by decide +kernel
theorem dX9_pass_42 : decode cX9_pass 42 = .ok (.aload_n 0, 1) := by decide +kernel
theorem dX9_pass_43 : decode cX9_pass 43 = .ok (.ldc2_w 188, 3) := by decide +kernel
theorem dX9_pass_46 : decode cX9_pass 46 = .ok (.invokevirtual 154, 3) := by decide +kernel
theorem dX9_pass_49 : decode cX9_pass 49 = .ok (.lreturn, 1) := by decide +kernel
theorem dX9_pass_50 : decode cX9_pass 50 = .ok (.aload_n 0, 1) := by decide +kernel
theorem dX9_pass_51 : decode cX9_pass 51 = .ok (.getfield 29, 3) := by decide +kernel
theorem dX9_pass_54 : decode cX9_pass 54 = .ok (.iload_n 1, 1) := by decide +kernel
theorem dX9_pass_55 : decode cX9_pass 55 = .ok (.iaload, 1) := by decide +kernel
theorem dX9_pass_56 : decode cX9_pass 56 = .ok (.iload_n 2, 1) := by decide +kernel
theorem dX9_pass_57 : decode cX9_pass 57 = .ok (.if_icmp .ne 11, 3) := by decide +kernel
theorem dX9_pass_60 : decode cX9_pass 60 = .ok (.aload_n 0, 1) := by decide +kernel
theorem dX9_pass_61 : decode cX9_pass 61 = .ok (.ldc2_w 179, 3) := by decide +kernel
theorem dX9_pass_64 : decode cX9_pass 64 = .ok (.invokevirtual 154, 3) := by decide +kernel
theorem dX9_pass_67 : decode cX9_pass 67 = .ok (.lreturn, 1) := by decide +kernel
theorem dX9_pass_68 : decode cX9_pass 68 = .ok (.aload_n 0, 1) := by decide +kernel
theorem dX9_pass_69 : decode cX9_pass 69 = .ok (.getfield 20, 3) := by decide +kernel
theorem dX9_pass_72 : decode cX9_pass 72 = .ok (.iload_n 1, 1) := by decide +kernel
theorem dX9_pass_73 : decode cX9_pass 73 = .ok (.iaload, 1) := by decide +kernel
theorem dX9_pass_74 : decode cX9_pass 74 = .ok (.iconst 1, 1) := by decide +kernel
theorem dX9_pass_75 : decode cX9_pass 75 = .ok (.if_icmp .eq 52, 3) := by decide +kernel
theorem dX9_pass_78 : decode cX9_pass 78 = .ok (.aload_n 0, 1) := by decide +kernel
theorem dX9_pass_79 : decode cX9_pass 79 = .ok (.getfield 38, 3) := by decide +kernel
theorem dX9_pass_82 : decode cX9_pass 82 = .ok (.iload_n 1, 1) := by decide +kernel
theorem dX9_pass_83 : decode cX9_pass 83 = .ok (.iaload, 1) := by decide +kernel
theorem dX9_pass_84 : decode cX9_pass 84 = .ok (.iconst 4, 1) := by decide +kernel
theorem dX9_pass_85 : decode cX9_pass 85 = .ok (.if_icmp .ne 11, 3) := by decide +kernel
theorem dX9_pass_88 : decode cX9_pass 88 = .ok (.aload_n 0, 1) := by decide +kernel
theorem dX9_pass_89 : decode cX9_pass 89 = .ok (.ldc2_w 169, 3) := by decide +kernel
theorem dX9_pass_92 : decode cX9_pass 92 = .ok (.invokevirtual 154, 3) := by decide +kernel
theorem dX9_pass_95 : decode cX9_pass 95 = .ok (.lreturn, 1) := by decide +kernel
theorem dX9_pass_96 : decode cX9_pass 96 = .ok (.aload_n 0, 1) := by decide +kernel
theorem dX9_pass_97 : decode cX9_pass 97 = .ok (.getfield 41, 3) := by decide +kernel
theorem dX9_pass_100 : decode cX9_pass 100 = .ok (.iconst 4, 1) := by decide +kernel
theorem dX9_pass_101 : decode cX9_pass 101 = .ok (.iload_n 1, 1) := by decide +kernel
theorem dX9_pass_102 : decode cX9_pass 102 = .ok (.imul, 1) := by decide +kernel
theorem dX9_pass_103 : decode cX9_pass 103 = .ok (.aload_n 0, 1) := by decide +kernel
theorem dX9_pass_104 : decode cX9_pass 104 = .ok (.getfield 38, 3) := by decide +kernel
theorem dX9_pass_107 : decode cX9_pass 107 = .ok (.iload_n 1, 1) := by decide +kernel
theorem dX9_pass_108 : decode cX9_pass 108 = .ok (.iaload, 1) := by decide +kernel
theorem dX9_pass_109 : decode cX9_pass 109 = .ok (.iadd, 1) := by decide +kernel
theorem dX9_pass_110 : decode cX9_pass 110 = .ok (.aload_n 0, 1) := by decide +kernel
theorem dX9_pass_111 : decode cX9_pass 111 = .ok (.getfield 29, 3) := by decide +kernel
theorem dX9_pass_114 : decode cX9_pass 114 = .ok (.iload_n 1, 1) := by decide +kernel
theorem dX9_pass_115 : decode cX9_pass 115 = .ok (.iaload, 1) := by decide +kernel
theorem dX9_pass_116 : decode cX9_pass 116 = .ok (.iastore, 1) := by decide +kernel
theorem dX9_pass_117 : decode cX9_pass 117 = .ok (.aload_n 0, 1) := by decide +kernel
theorem dX9_pass_118 : decode cX9_pass 118 = .ok (.getfield 38, 3) := by decide +kernel
theorem dX9_pass_121 : decode cX9_pass 121 = .ok (.iload_n 1, 1) := by decide +kernel
theorem dX9_pass_122 : decode cX9_pass 122 = .ok (.dup2, 1) := by decide +kernel
theorem dX9_pass_123 : decode cX9_pass 123 = .ok (.iaload, 1) := by decide +kernel
theorem dX9_pass_124 : decode cX9_pass 124 = .ok (.iconst 1, 1) := by decide +kernel
theorem dX9_pass_125 : decode cX9_pass 125 = .ok (.iadd, 1) := by decide +kernel
theorem dX9_pass_126 : decode cX9_pass 126 = .ok (.iastore, 1) := by decide +kernel
theorem dX9_pass_127 : decode cX9_pass 127 = .ok (.aload_n 0, 1) := by decide +kernel
theorem dX9_pass_128 : decode cX9_pass 128 = .ok (.getfield 29, 3) := by decide +kernel
theorem dX9_pass_131 : decode cX9_pass 131 = .ok (.iload_n 1, 1) := by decide +kernel
theorem dX9_pass_132 : decode cX9_pass 132 = .ok (.iload_n 2, 1) := by decide +kernel
theorem dX9_pass_133 : decode cX9_pass 133 = .ok (.iastore, 1) := by decide +kernel
theorem dX9_pass_134 : decode cX9_pass 134 = .ok (.aload_n 0, 1) := by decide +kernel
theorem dX9_pass_135 : decode cX9_pass 135 = .ok (.getfield 38, 3) := by decide +kernel
theorem dX9_pass_138 : decode cX9_pass 138 = .ok (.iload_n 1, 1) := by decide +kernel
theorem dX9_pass_139 : decode cX9_pass 139 = .ok (.iaload, 1) := by decide +kernel
theorem dX9_pass_140 : decode cX9_pass 140 = .ok (.i2l, 1) := by decide +kernel
theorem dX9_pass_141 : decode cX9_pass 141 = .ok (.lreturn, 1) := by decide +kernel
theorem dX9_isEarly_0 : decode cX9_isEarly 0 = .ok (.aload_n 0, 1) := by decide +kernel
theorem dX9_isEarly_1 : decode cX9_isEarly 1 = .ok (.getfield 158, 3) := by decide +kernel
theorem dX9_isEarly_4 : decode cX9_isEarly 4 = .ok (.ldc2_w 161, 3) := by decide +kernel
theorem dX9_isEarly_7 : decode cX9_isEarly 7 = .ok (.lrem, 1) := by decide +kernel
theorem dX9_isEarly_8 : decode cX9_isEarly 8 = .ok (.ldc2_w 190, 3) := by decide +kernel
theorem dX9_isEarly_11 : decode cX9_isEarly 11 = .ok (.lcmp, 1) := by decide +kernel
theorem dX9_isEarly_12 : decode cX9_isEarly 12 = .ok (.ifCond .gt 7, 3) := by decide +kernel
theorem dX9_isEarly_15 : decode cX9_isEarly 15 = .ok (.iconst 1, 1) := by decide +kernel
theorem dX9_isEarly_16 : decode cX9_isEarly 16 = .ok (.goto 4, 3) := by decide +kernel
theorem dX9_isEarly_19 : decode cX9_isEarly 19 = .ok (.iconst 0, 1) := by decide +kernel
theorem dX9_isEarly_20 : decode cX9_isEarly 20 = .ok (.ireturn, 1) := by decide +kernel
set_option maxRecDepth 20000 in
theorem ggX9_take_X9_isBill : GoodIn wsX9_take wsX9_isBill := goodIn_r _ [9, 10, 11, 12, 8, 13, 32, 33, 34, 35, 36, 37, 38, 39, 40, 41, 42, 43, 44, 45, 46, 47, 48, 49, 50, 51, 52, 53, 54, 55, 56, 57, 58, 59, 60, 61, 62, 63, 64, 65, 66, 67, 68, 69, 70, 71, 72, 73, 74, 75, 76, 77, 78, 79, 80, 81, 82, 83, 84, 85, 86] rfl (by decide +kernel)
set_option maxRecDepth 20000 in
theorem gX9_take_X9_isBill : GoodIn wsX9_take (wsV RX9 185 RX9 yX9_isBill wsX9_isBill) := goodIn_app (goodIn_of _ (by decide +kernel)) ggX9_take_X9_isBill
set_option maxRecDepth 20000 in
theorem ggX9_take_X9_finding : GoodIn wsX9_take wsX9_finding := goodIn_r _ [17, 18, 19, 32, 33, 34, 35, 36, 37, 38, 39, 40, 41, 42, 43, 44, 45, 46, 47, 48, 49, 50, 51, 52, 53, 54, 55, 56, 57, 58, 59, 60, 61, 62, 63, 64, 65, 66, 67, 68, 69, 70, 71, 72, 73, 74, 75, 76, 77, 78, 79, 80, 81, 82, 83, 84, 85, 86] rfl (by decide +kernel)
set_option maxRecDepth 20000 in
theorem gX9_take_X9_finding : GoodIn wsX9_take (wsV RX9 154 RX9 yX9_finding wsX9_finding) := goodIn_app (goodIn_of _ (by decide +kernel)) ggX9_take_X9_finding
set_option maxRecDepth 20000 in
theorem ggX9_take_X9_isEarly : GoodIn wsX9_take wsX9_isEarly := goodIn_r _ [23, 24, 25, 26, 32, 33, 34, 35, 36, 37, 38, 39, 40, 41, 42, 43, 44, 45, 46, 47, 48, 49, 50, 51, 52, 53, 54, 55, 56, 57, 58, 59, 60, 61, 62, 63, 64, 65, 66, 67, 68, 69, 70, 71, 72, 73, 74, 75, 76, 77, 78, 79, 80, 81, 82, 83, 84, 85, 86] rfl (by decide +kernel)
set_option maxRecDepth 20000 in
theorem gX9_take_X9_isEarly : GoodIn wsX9_take (wsV RX9 192 RX9 yX9_isEarly wsX9_isEarly) := goodIn_app (goodIn_of _ (by decide +kernel)) ggX9_take_X9_isEarly
set_option maxRecDepth 20000 in
theorem ggX9_take_X9_becomes : GoodIn wsX9_take wsX9_becomes := goodIn_r _ [30, 2, 31, 24, 32, 33, 34, 35, 36, 37, 38, 39, 40, 41, 42, 43, 44, 45, 46, 47, 48, 49, 50, 51, 52, 53, 54, 55, 56, 57, 58, 59, 60, 61, 62, 63, 64, 65, 66, 67, 68, 69, 70, 71, 72, 73, 74, 75, 76, 77, 78, 79, 80, 81, 82, 83, 84, 85, 86] rfl (by decide +kernel)
set_option maxRecDepth 20000 in
theorem gX9_take_X9_becomes : GoodIn wsX9_take (wsV RX9 181 RX9 yX9_becomes wsX9_becomes) := goodIn_app (goodIn_of _ (by decide +kernel)) ggX9_take_X9_becomes
theorem dX9_take_0 : decode cX9_take 0 = .ok (.aload_n 0, 1) := by decide +kernel
theorem dX9_take_1 : decode cX9_take 1 = .ok (.iload_n 1, 1) := by decide +kernel
theorem dX9_take_2 : decode cX9_take 2 = .ok (.invokevirtual 185, 3) := by decide +kernel
theorem dX9_take_5 : decode cX9_take 5 = .ok (.ifCond .ne 11, 3) := by decide +kernel
theorem dX9_take_8 : decode cX9_take 8 = .ok (.aload_n 0, 1) := by decide +kernel
theorem dX9_take_9 : decode cX9_take 9 = .ok (.ldc2_w 152, 3) := by decide +kernel
theorem dX9_take_12 : decode cX9_take 12 = .ok (.invokevirtual 154, 3) := by decide +kernel
theorem dX9_take_15 : decode cX9_take 15 = .ok (.lreturn, 1) := by decide +kernel
theorem dX9_take_16 : decode cX9_take 16 = .ok (.aload_n 0, 1) := by decide +kernel
theorem dX9_take_17 : decode cX9_take 17 = .ok (.getfield 35, 3) := by decide +kernel
theorem dX9_take_20 : decode cX9_take 20 = .ok (.iload_n 1, 1) := by decide +kernel
theorem dX9_take_21 : decode cX9_take 21 = .ok (.iaload, 1) := by decide +kernel
theorem dX9_take_22 : decode cX9_take 22 = .ok (.ifCond .eq 11, 3) := by decide +kernel
theorem dX9_take_25 : decode cX9_take 25 = .ok (.aload_n 0, 1) := by decide +kernel
theorem dX9_take_26 : decode cX9_take 26 = .ok (.ldc2_w 188, 3) := by decide +kernel
theorem dX9_take_29 : decode cX9_take 29 = .ok (.invokevirtual 154, 3) := by decide +kernel
theorem dX9_take_32 : decode cX9_take 32 = .ok (.lreturn, 1) := by decide +kernel
theorem dX9_take_33 : decode cX9_take 33 = .ok (.aload_n 0, 1) := by decide +kernel
theorem dX9_take_34 : decode cX9_take 34 = .ok (.invokevirtual 192, 3) := by decide +kernel
theorem dX9_take_37 : decode cX9_take 37 = .ok (.ifCond .ne 11, 3) := by decide +kernel
theorem dX9_take_40 : decode cX9_take 40 = .ok (.aload_n 0, 1) := by decide +kernel
theorem dX9_take_41 : decode cX9_take 41 = .ok (.ldc2_w 195, 3) := by decide +kernel
theorem dX9_take_44 : decode cX9_take 44 = .ok (.invokevirtual 154, 3) := by decide +kernel
theorem dX9_take_47 : decode cX9_take 47 = .ok (.lreturn, 1) := by decide +kernel
theorem dX9_take_48 : decode cX9_take 48 = .ok (.aload_n 0, 1) := by decide +kernel
theorem dX9_take_49 : decode cX9_take 49 = .ok (.iload_n 1, 1) := by decide +kernel
theorem dX9_take_50 : decode cX9_take 50 = .ok (.iload_n 2, 1) := by decide +kernel
theorem dX9_take_51 : decode cX9_take 51 = .ok (.ifCond .eq 7, 3) := by decide +kernel
theorem dX9_take_54 : decode cX9_take 54 = .ok (.iconst 2, 1) := by decide +kernel
theorem dX9_take_55 : decode cX9_take 55 = .ok (.goto 4, 3) := by decide +kernel
theorem dX9_take_58 : decode cX9_take 58 = .ok (.iconst 1, 1) := by decide +kernel
theorem dX9_take_59 : decode cX9_take 59 = .ok (.invokevirtual 181, 3) := by decide +kernel
theorem dX9_take_62 : decode cX9_take 62 = .ok (.aload_n 0, 1) := by decide +kernel
theorem dX9_take_63 : decode cX9_take 63 = .ok (.getfield 35, 3) := by decide +kernel
theorem dX9_take_66 : decode cX9_take 66 = .ok (.iload_n 1, 1) := by decide +kernel
theorem dX9_take_67 : decode cX9_take 67 = .ok (.iaload, 1) := by decide +kernel
theorem dX9_take_68 : decode cX9_take 68 = .ok (.i2l, 1) := by decide +kernel
theorem dX9_take_69 : decode cX9_take 69 = .ok (.lreturn, 1) := by decide +kernel
theorem dX9_would_0 : decode cX9_would 0 = .ok (.aload_n 0, 1) := by decide +kernel
theorem dX9_would_1 : decode cX9_would 1 = .ok (.getfield 52, 3) := by decide +kernel
theorem dX9_would_4 : decode cX9_would 4 = .ok (.bipush 10, 2) := by decide +kernel
theorem dX9_would_6 : decode cX9_would 6 = .ok (.iload_n 1, 1) := by decide +kernel
theorem dX9_would_7 : decode cX9_would 7 = .ok (.imul, 1) := by decide +kernel
theorem dX9_would_8 : decode cX9_would 8 = .ok (.iload_n 2, 1) := by decide +kernel
theorem dX9_would_9 : decode cX9_would 9 = .ok (.iadd, 1) := by decide +kernel
theorem dX9_would_10 : decode cX9_would 10 = .ok (.laload, 1) := by decide +kernel
theorem dX9_would_11 : decode cX9_would 11 = .ok (.aload_n 0, 1) := by decide +kernel
theorem dX9_would_12 : decode cX9_would 12 = .ok (.getfield 52, 3) := by decide +kernel
theorem dX9_would_15 : decode cX9_would 15 = .ok (.bipush 10, 2) := by decide +kernel
theorem dX9_would_17 : decode cX9_would 17 = .ok (.iload_n 2, 1) := by decide +kernel
theorem dX9_would_18 : decode cX9_would 18 = .ok (.imul, 1) := by decide +kernel
theorem dX9_would_19 : decode cX9_would 19 = .ok (.iload_n 1, 1) := by decide +kernel
theorem dX9_would_20 : decode cX9_would 20 = .ok (.iadd, 1) := by decide +kernel
theorem dX9_would_21 : decode cX9_would 21 = .ok (.laload, 1) := by decide +kernel
theorem dX9_would_22 : decode cX9_would 22 = .ok (.lsub, 1) := by decide +kernel
theorem dX9_would_23 : decode cX9_would 23 = .ok (.lload_n 3, 1) := by decide +kernel
theorem dX9_would_24 : decode cX9_would 24 = .ok (.ladd, 1) := by decide +kernel
theorem dX9_would_25 : decode cX9_would 25 = .ok (.lreturn, 1) := by decide +kernel
set_option maxRecDepth 20000 in
theorem ggX9_isTooMuch_X9_would : GoodIn wsX9_isTooMuch wsX9_would := goodIn_r _ [7, 8, 9, 10, 11, 12, 13, 14, 15, 16, 17, 18, 19, 20, 21, 22, 23, 24, 25, 26, 27, 28, 29, 30, 31, 32, 33, 34, 35, 36, 37, 38, 39, 40, 41, 42, 43, 44, 45, 46, 47, 48, 49, 50, 51, 52, 53, 54, 55, 56, 57, 58, 59, 60, 61, 62, 63] rfl (by decide +kernel)
set_option maxRecDepth 20000 in
theorem gX9_isTooMuch_X9_would : GoodIn wsX9_isTooMuch (wsV RX9 197 RX9 yX9_would wsX9_would) := goodIn_app (goodIn_of _ (by decide +kernel)) ggX9_isTooMuch_X9_would
theorem dX9_isTooMuch_0 : decode cX9_isTooMuch 0 = .ok (.aload_n 0, 1) := by decide +kernel
theorem dX9_isTooMuch_1 : decode cX9_isTooMuch 1 = .ok (.iload_n 1, 1) := by decide +kernel
theorem dX9_isTooMuch_2 : decode cX9_isTooMuch 2 = .ok (.iload_n 2, 1) := by decide +kernel
theorem dX9_isTooMuch_3 : decode cX9_isTooMuch 3 = .ok (.lload_n 3, 1) := by decide +kernel
theorem dX9_isTooMuch_4 : decode cX9_isTooMuch 4 = .ok (.invokevirtual 197, 3) := by decide +kernel
theorem dX9_isTooMuch_7 : decode cX9_isTooMuch 7 = .ok (.lstore 5, 2) := by decide +kernel
theorem dX9_isTooMuch_9 : decode cX9_isTooMuch 9 = .ok (.iload_n 1, 1) := by decide +kernel
theorem dX9_isTooMuch_10 : decode cX9_isTooMuch 10 = .ok (.iload_n 2, 1) := by decide +kernel
theorem dX9_isTooMuch_11 : decode cX9_isTooMuch 11 = .ok (.if_icmp .eq 25, 3) := by decide +kernel
theorem dX9_isTooMuch_14 : decode cX9_isTooMuch 14 = .ok (.lload 5, 2) := by decide +kernel
theorem dX9_isTooMuch_16 : decode cX9_isTooMuch 16 = .ok (.ldc2_w 150, 3) := by decide +kernel
theorem dX9_isTooMuch_19 : decode cX9_isTooMuch 19 = .ok (.lcmp, 1) := by decide +kernel
theorem dX9_isTooMuch_20 : decode cX9_isTooMuch 20 = .ok (.ifCond .gt 12, 3) := by decide +kernel
theorem dX9_isTooMuch_23 : decode cX9_isTooMuch 23 = .ok (.lload 5, 2) := by decide +kernel
theorem dX9_isTooMuch_25 : decode cX9_isTooMuch 25 = .ok (.ldc2_w 201, 3) := by decide +kernel
theorem dX9_isTooMuch_28 : decode cX9_isTooMuch 28 = .ok (.lcmp, 1) := by decide +kernel
theorem dX9_isTooMuch_29 : decode cX9_isTooMuch 29 = .ok (.ifCond .ge 7, 3) := by decide +kernel
theorem dX9_isTooMuch_32 : decode cX9_isTooMuch 32 = .ok (.iconst 1, 1) := by decide +kernel
theorem dX9_isTooMuch_33 : decode cX9_isTooMuch 33 = .ok (.goto 4, 3) := by decide +kernel
theorem dX9_isTooMuch_36 : decode cX9_isTooMuch 36 = .ok (.iconst 0, 1) := by decide +kernel
theorem dX9_isTooMuch_37 : decode cX9_isTooMuch 37 = .ok (.ireturn, 1) := by decide +kernel
set_option maxRecDepth 20000 in
theorem ggX9_comesToOwe_X9_would : GoodIn wsX9_comesToOwe wsX9_would := goodIn_r _ [6, 1, 7, 8, 9, 10, 11, 12, 13, 14, 15, 16, 17, 18, 19, 20, 21, 22, 23, 24, 25, 26, 27, 28, 29, 30, 31, 32, 33, 34, 35, 36, 37, 38, 39, 40, 41, 42, 43, 44, 45, 46, 47, 48, 49, 50, 51, 52, 53, 54, 55, 56, 57, 58, 59, 60, 61] rfl (by decide +kernel)
set_option maxRecDepth 20000 in
theorem gX9_comesToOwe_X9_would : GoodIn wsX9_comesToOwe (wsV RX9 197 RX9 yX9_would wsX9_would) := goodIn_app (goodIn_of _ (by decide +kernel)) ggX9_comesToOwe_X9_would
theorem dX9_comesToOwe_0 : decode cX9_comesToOwe 0 = .ok (.iload_n 1, 1) := by decide +kernel
theorem dX9_comesToOwe_1 : decode cX9_comesToOwe 1 = .ok (.iload_n 2, 1) := by decide +kernel
theorem dX9_comesToOwe_2 : decode cX9_comesToOwe 2 = .ok (.if_icmp .ne 4, 3) := by decide +kernel
theorem dX9_comesToOwe_5 : decode cX9_comesToOwe 5 = .ok (.return_, 1) := by decide +kernel
theorem dX9_comesToOwe_6 : decode cX9_comesToOwe 6 = .ok (.aload_n 0, 1) := by decide +kernel
theorem dX9_comesToOwe_7 : decode cX9_comesToOwe 7 = .ok (.iload_n 1, 1) := by decide +kernel
theorem dX9_comesToOwe_8 : decode cX9_comesToOwe 8 = .ok (.iload_n 2, 1) := by decide +kernel
theorem dX9_comesToOwe_9 : decode cX9_comesToOwe 9 = .ok (.lload_n 3, 1) := by decide +kernel
theorem dX9_comesToOwe_10 : decode cX9_comesToOwe 10 = .ok (.invokevirtual 197, 3) := by decide +kernel
theorem dX9_comesToOwe_13 : decode cX9_comesToOwe 13 = .ok (.lstore 5, 2) := by decide +kernel
theorem dX9_comesToOwe_15 : decode cX9_comesToOwe 15 = .ok (.aload_n 0, 1) := by decide +kernel
theorem dX9_comesToOwe_16 : decode cX9_comesToOwe 16 = .ok (.getfield 52, 3) := by decide +kernel
theorem dX9_comesToOwe_19 : decode cX9_comesToOwe 19 = .ok (.bipush 10, 2) := by decide +kernel
theorem dX9_comesToOwe_21 : decode cX9_comesToOwe 21 = .ok (.iload_n 1, 1) := by decide +kernel
theorem dX9_comesToOwe_22 : decode cX9_comesToOwe 22 = .ok (.imul, 1) := by decide +kernel
theorem dX9_comesToOwe_23 : decode cX9_comesToOwe 23 = .ok (.iload_n 2, 1) := by decide +kernel
theorem dX9_comesToOwe_24 : decode cX9_comesToOwe 24 = .ok (.iadd, 1) := by decide +kernel
theorem dX9_comesToOwe_25 : decode cX9_comesToOwe 25 = .ok (.lload 5, 2) := by decide +kernel
theorem dX9_comesToOwe_27 : decode cX9_comesToOwe 27 = .ok (.lconst 0, 1) := by decide +kernel
theorem dX9_comesToOwe_28 : decode cX9_comesToOwe 28 = .ok (.lcmp, 1) := by decide +kernel
theorem dX9_comesToOwe_29 : decode cX9_comesToOwe 29 = .ok (.ifCond .le 8, 3) := by decide +kernel
theorem dX9_comesToOwe_32 : decode cX9_comesToOwe 32 = .ok (.lload 5, 2) := by decide +kernel
theorem dX9_comesToOwe_34 : decode cX9_comesToOwe 34 = .ok (.goto 4, 3) := by decide +kernel
theorem dX9_comesToOwe_37 : decode cX9_comesToOwe 37 = .ok (.lconst 0, 1) := by decide +kernel
theorem dX9_comesToOwe_38 : decode cX9_comesToOwe 38 = .ok (.lastore, 1) := by decide +kernel
theorem dX9_comesToOwe_39 : decode cX9_comesToOwe 39 = .ok (.aload_n 0, 1) := by decide +kernel
theorem dX9_comesToOwe_40 : decode cX9_comesToOwe 40 = .ok (.getfield 52, 3) := by decide +kernel
theorem dX9_comesToOwe_43 : decode cX9_comesToOwe 43 = .ok (.bipush 10, 2) := by decide +kernel
theorem dX9_comesToOwe_45 : decode cX9_comesToOwe 45 = .ok (.iload_n 2, 1) := by decide +kernel
theorem dX9_comesToOwe_46 : decode cX9_comesToOwe 46 = .ok (.imul, 1) := by decide +kernel
theorem dX9_comesToOwe_47 : decode cX9_comesToOwe 47 = .ok (.iload_n 1, 1) := by decide +kernel
theorem dX9_comesToOwe_48 : decode cX9_comesToOwe 48 = .ok (.iadd, 1) := by decide +kernel
theorem dX9_comesToOwe_49 : decode cX9_comesToOwe 49 = .ok (.lload 5, 2) := by decide +kernel
theorem dX9_comesToOwe_51 : decode cX9_comesToOwe 51 = .ok (.lconst 0, 1) := by decide +kernel
theorem dX9_comesToOwe_52 : decode cX9_comesToOwe 52 = .ok (.lcmp, 1) := by decide +kernel
theorem dX9_comesToOwe_53 : decode cX9_comesToOwe 53 = .ok (.ifCond .ge 9, 3) := by decide +kernel
theorem dX9_comesToOwe_56 : decode cX9_comesToOwe 56 = .ok (.lload 5, 2) := by decide +kernel
theorem dX9_comesToOwe_58 : decode cX9_comesToOwe 58 = .ok (.lneg, 1) := by decide +kernel
theorem dX9_comesToOwe_59 : decode cX9_comesToOwe 59 = .ok (.goto 4, 3) := by decide +kernel
theorem dX9_comesToOwe_62 : decode cX9_comesToOwe 62 = .ok (.lconst 0, 1) := by decide +kernel
theorem dX9_comesToOwe_63 : decode cX9_comesToOwe 63 = .ok (.lastore, 1) := by decide +kernel
theorem dX9_comesToOwe_64 : decode cX9_comesToOwe 64 = .ok (.return_, 1) := by decide +kernel
set_option maxRecDepth 20000 in
theorem ggX9_pay_X9_isBill : GoodIn wsX9_pay wsX9_isBill := goodIn_r _ [14, 15, 16, 17, 13, 18, 52, 53, 54, 55, 56, 57, 58, 59, 60, 61, 62, 63, 64, 65, 66, 67, 68, 69, 70, 71, 72, 73, 74, 75, 76, 77, 78, 79, 80, 81, 82, 83, 84, 85, 86, 87, 88, 89, 90, 91, 92, 93, 94, 95, 96, 97, 98, 99, 100, 101, 102, 103, 104, 105, 106] rfl (by decide +kernel)
set_option maxRecDepth 20000 in
theorem gX9_pay_X9_isBill : GoodIn wsX9_pay (wsV RX9 185 RX9 yX9_isBill wsX9_isBill) := goodIn_app (goodIn_of _ (by decide +kernel)) ggX9_pay_X9_isBill
set_option maxRecDepth 20000 in
theorem ggX9_pay_X9_finding : GoodIn wsX9_pay wsX9_finding := goodIn_r _ [22, 23, 24, 52, 53, 54, 55, 56, 57, 58, 59, 60, 61, 62, 63, 64, 65, 66, 67, 68, 69, 70, 71, 72, 73, 74, 75, 76, 77, 78, 79, 80, 81, 82, 83, 84, 85, 86, 87, 88, 89, 90, 91, 92, 93, 94, 95, 96, 97, 98, 99, 100, 101, 102, 103, 104, 105, 106] rfl (by decide +kernel)
set_option maxRecDepth 20000 in
theorem gX9_pay_X9_finding : GoodIn wsX9_pay (wsV RX9 154 RX9 yX9_finding wsX9_finding) := goodIn_app (goodIn_of _ (by decide +kernel)) ggX9_pay_X9_finding
set_option maxRecDepth 20000 in
theorem ggX9_pay_X9_isEarly : GoodIn wsX9_pay wsX9_isEarly := goodIn_r _ [28, 29, 30, 31, 52, 53, 54, 55, 56, 57, 58, 59, 60, 61, 62, 63, 64, 65, 66, 67, 68, 69, 70, 71, 72, 73, 74, 75, 76, 77, 78, 79, 80, 81, 82, 83, 84, 85, 86, 87, 88, 89, 90, 91, 92, 93, 94, 95, 96, 97, 98, 99, 100, 101, 102, 103, 104, 105, 106] rfl (by decide +kernel)
set_option maxRecDepth 20000 in
theorem gX9_pay_X9_isEarly : GoodIn wsX9_pay (wsV RX9 192 RX9 yX9_isEarly wsX9_isEarly) := goodIn_app (goodIn_of _ (by decide +kernel)) ggX9_pay_X9_isEarly
set_option maxRecDepth 20000 in
theorem ggX9_pay_X9_isTooMuch : GoodIn wsX9_pay wsX9_isTooMuch := goodIn_r _ [35, 36, 37, 38, 39, 40, 13, 41, 42, 52, 53, 54, 55, 56, 57, 58, 59, 60, 61, 62, 63, 64, 65, 66, 67, 68, 69, 70, 71, 72, 73, 74, 75, 76, 77, 78, 79, 80, 81, 82, 83, 84, 85, 86, 87, 88, 89, 90, 91, 92, 93, 94, 95, 96, 97, 98, 99, 100, 101, 102, 103, 104, 105, 106] rfl (by decide +kernel)
set_option maxRecDepth 20000 in
theorem gX9_pay_X9_isTooMuch : GoodIn wsX9_pay (wsV RX9 203 RX9 yX9_isTooMuch wsX9_isTooMuch) := goodIn_app (goodIn_of _ (by decide +kernel)) ggX9_pay_X9_isTooMuch
set_option maxRecDepth 20000 in
theorem ggX9_pay_X9_comesToOwe : GoodIn wsX9_pay wsX9_comesToOwe := goodIn_r _ [46, 42, 38, 39, 40, 13, 41, 52, 53, 54, 55, 56, 57, 58, 59, 60, 61, 62, 63, 64, 65, 66, 67, 68, 69, 70, 71, 72, 73, 74, 75, 76, 77, 78, 79, 80, 81, 82, 83, 84, 85, 86, 87, 88, 89, 90, 91, 92, 93, 94, 95, 96, 97, 98, 99, 100, 101, 102, 103, 104, 105, 106] rfl (by decide +kernel)
set_option maxRecDepth 20000 in
theorem gX9_pay_X9_comesToOwe : GoodIn wsX9_pay (wsV RX9 207 RX9 yX9_comesToOwe wsX9_comesToOwe) := goodIn_app (goodIn_of _ (by decide +kernel)) ggX9_pay_X9_comesToOwe
set_option maxRecDepth 20000 in
theorem ggX9_pay_X9_becomes : GoodIn wsX9_pay wsX9_becomes := goodIn_r _ [50, 2, 51, 29, 52, 53, 54, 55, 56, 57, 58, 59, 60, 61, 62, 63, 64, 65, 66, 67, 68, 69, 70, 71, 72, 73, 74, 75, 76, 77, 78, 79, 80, 81, 82, 83, 84, 85, 86, 87, 88, 89, 90, 91, 92, 93, 94, 95, 96, 97, 98, 99, 100, 101, 102, 103, 104, 105, 106] rfl (by decide +kernel)
set_option maxRecDepth 20000 in
theorem gX9_pay_X9_becomes : GoodIn wsX9_pay (wsV RX9 181 RX9 yX9_becomes wsX9_becomes) := goodIn_app (goodIn_of _ (by decide +kernel)) ggX9_pay_X9_becomes
theorem dX9_pay_0 : decode cX9_pay 0 = .ok (.aload_n 0, 1) := by decide +kernel
theorem dX9_pay_1 : decode cX9_pay 1 = .ok (.iload_n 1, 1) := by decide +kernel
theorem dX9_pay_2 : decode cX9_pay 2 = .ok (.invokevirtual 185, 3) := by decide +kernel
theorem dX9_pay_5 : decode cX9_pay 5 = .ok (.ifCond .ne 11, 3) := by decide +kernel
theorem dX9_pay_8 : decode cX9_pay 8 = .ok (.aload_n 0, 1) := by decide +kernel
theorem dX9_pay_9 : decode cX9_pay 9 = .ok (.ldc2_w 152, 3) := by decide +kernel
theorem dX9_pay_12 : decode cX9_pay 12 = .ok (.invokevirtual 154, 3) := by decide +kernel
theorem dX9_pay_15 : decode cX9_pay 15 = .ok (.lreturn, 1) := by decide +kernel
theorem dX9_pay_16 : decode cX9_pay 16 = .ok (.aload_n 0, 1) := by decide +kernel
theorem dX9_pay_17 : decode cX9_pay 17 = .ok (.getfield 35, 3) := by decide +kernel
theorem dX9_pay_20 : decode cX9_pay 20 = .ok (.iload_n 1, 1) := by decide +kernel
theorem dX9_pay_21 : decode cX9_pay 21 = .ok (.iaload, 1) := by decide +kernel
theorem dX9_pay_22 : decode cX9_pay 22 = .ok (.iconst 1, 1) := by decide +kernel
theorem dX9_pay_23 : decode cX9_pay 23 = .ok (.if_icmp .eq 11, 3) := by decide +kernel
theorem dX9_pay_26 : decode cX9_pay 26 = .ok (.aload_n 0, 1) := by decide +kernel
theorem dX9_pay_27 : decode cX9_pay 27 = .ok (.ldc2_w 188, 3) := by decide +kernel
theorem dX9_pay_30 : decode cX9_pay 30 = .ok (.invokevirtual 154, 3) := by decide +kernel
theorem dX9_pay_33 : decode cX9_pay 33 = .ok (.lreturn, 1) := by decide +kernel
theorem dX9_pay_34 : decode cX9_pay 34 = .ok (.aload_n 0, 1) := by decide +kernel
theorem dX9_pay_35 : decode cX9_pay 35 = .ok (.invokevirtual 192, 3) := by decide +kernel
theorem dX9_pay_38 : decode cX9_pay 38 = .ok (.ifCond .eq 11, 3) := by decide +kernel
theorem dX9_pay_41 : decode cX9_pay 41 = .ok (.aload_n 0, 1) := by decide +kernel
theorem dX9_pay_42 : decode cX9_pay 42 = .ok (.ldc2_w 195, 3) := by decide +kernel
theorem dX9_pay_45 : decode cX9_pay 45 = .ok (.invokevirtual 154, 3) := by decide +kernel
theorem dX9_pay_48 : decode cX9_pay 48 = .ok (.lreturn, 1) := by decide +kernel
theorem dX9_pay_49 : decode cX9_pay 49 = .ok (.aload_n 0, 1) := by decide +kernel
theorem dX9_pay_50 : decode cX9_pay 50 = .ok (.getfield 26, 3) := by decide +kernel
theorem dX9_pay_53 : decode cX9_pay 53 = .ok (.iload_n 1, 1) := by decide +kernel
theorem dX9_pay_54 : decode cX9_pay 54 = .ok (.iaload, 1) := by decide +kernel
theorem dX9_pay_55 : decode cX9_pay 55 = .ok (.istore_n 2, 1) := by decide +kernel
theorem dX9_pay_56 : decode cX9_pay 56 = .ok (.aload_n 0, 1) := by decide +kernel
theorem dX9_pay_57 : decode cX9_pay 57 = .ok (.getfield 29, 3) := by decide +kernel
theorem dX9_pay_60 : decode cX9_pay 60 = .ok (.iload_n 1, 1) := by decide +kernel
theorem dX9_pay_61 : decode cX9_pay 61 = .ok (.iaload, 1) := by decide +kernel
theorem dX9_pay_62 : decode cX9_pay 62 = .ok (.istore_n 3, 1) := by decide +kernel
theorem dX9_pay_63 : decode cX9_pay 63 = .ok (.aload_n 0, 1) := by decide +kernel
theorem dX9_pay_64 : decode cX9_pay 64 = .ok (.iload_n 2, 1) := by decide +kernel
theorem dX9_pay_65 : decode cX9_pay 65 = .ok (.iload_n 3, 1) := by decide +kernel
theorem dX9_pay_66 : decode cX9_pay 66 = .ok (.aload_n 0, 1) := by decide +kernel
theorem dX9_pay_67 : decode cX9_pay 67 = .ok (.getfield 32, 3) := by decide +kernel
theorem dX9_pay_70 : decode cX9_pay 70 = .ok (.iload_n 1, 1) := by decide +kernel
theorem dX9_pay_71 : decode cX9_pay 71 = .ok (.iaload, 1) := by decide +kernel
theorem dX9_pay_72 : decode cX9_pay 72 = .ok (.i2l, 1) := by decide +kernel
theorem dX9_pay_73 : decode cX9_pay 73 = .ok (.invokevirtual 203, 3) := by decide +kernel
theorem dX9_pay_76 : decode cX9_pay 76 = .ok (.ifCond .eq 11, 3) := by decide +kernel
theorem dX9_pay_79 : decode cX9_pay 79 = .ok (.aload_n 0, 1) := by decide +kernel
theorem dX9_pay_80 : decode cX9_pay 80 = .ok (.ldc2_w 169, 3) := by decide +kernel
theorem dX9_pay_83 : decode cX9_pay 83 = .ok (.invokevirtual 154, 3) := by decide +kernel
theorem dX9_pay_86 : decode cX9_pay 86 = .ok (.lreturn, 1) := by decide +kernel
theorem dX9_pay_87 : decode cX9_pay 87 = .ok (.aload_n 0, 1) := by decide +kernel
theorem dX9_pay_88 : decode cX9_pay 88 = .ok (.iload_n 2, 1) := by decide +kernel
theorem dX9_pay_89 : decode cX9_pay 89 = .ok (.iload_n 3, 1) := by decide +kernel
theorem dX9_pay_90 : decode cX9_pay 90 = .ok (.aload_n 0, 1) := by decide +kernel
theorem dX9_pay_91 : decode cX9_pay 91 = .ok (.getfield 32, 3) := by decide +kernel
theorem dX9_pay_94 : decode cX9_pay 94 = .ok (.iload_n 1, 1) := by decide +kernel
theorem dX9_pay_95 : decode cX9_pay 95 = .ok (.iaload, 1) := by decide +kernel
theorem dX9_pay_96 : decode cX9_pay 96 = .ok (.i2l, 1) := by decide +kernel
theorem dX9_pay_97 : decode cX9_pay 97 = .ok (.invokevirtual 207, 3) := by decide +kernel
theorem dX9_pay_100 : decode cX9_pay 100 = .ok (.aload_n 0, 1) := by decide +kernel
theorem dX9_pay_101 : decode cX9_pay 101 = .ok (.iload_n 1, 1) := by decide +kernel
theorem dX9_pay_102 : decode cX9_pay 102 = .ok (.iconst 4, 1) := by decide +kernel
theorem dX9_pay_103 : decode cX9_pay 103 = .ok (.invokevirtual 181, 3) := by decide +kernel
theorem dX9_pay_106 : decode cX9_pay 106 = .ok (.aload_n 0, 1) := by decide +kernel
theorem dX9_pay_107 : decode cX9_pay 107 = .ok (.getfield 48, 3) := by decide +kernel
theorem dX9_pay_110 : decode cX9_pay 110 = .ok (.iload_n 1, 1) := by decide +kernel
theorem dX9_pay_111 : decode cX9_pay 111 = .ok (.iconst 1, 1) := by decide +kernel
theorem dX9_pay_112 : decode cX9_pay 112 = .ok (.bastore, 1) := by decide +kernel
theorem dX9_pay_113 : decode cX9_pay 113 = .ok (.iload_n 2, 1) := by decide +kernel
theorem dX9_pay_114 : decode cX9_pay 114 = .ok (.iload_n 3, 1) := by decide +kernel
theorem dX9_pay_115 : decode cX9_pay 115 = .ok (.if_icmp .ne 7, 3) := by decide +kernel
theorem dX9_pay_118 : decode cX9_pay 118 = .ok (.lconst 0, 1) := by decide +kernel
theorem dX9_pay_119 : decode cX9_pay 119 = .ok (.goto 10, 3) := by decide +kernel
theorem dX9_pay_122 : decode cX9_pay 122 = .ok (.aload_n 0, 1) := by decide +kernel
theorem dX9_pay_123 : decode cX9_pay 123 = .ok (.getfield 32, 3) := by decide +kernel
theorem dX9_pay_126 : decode cX9_pay 126 = .ok (.iload_n 1, 1) := by decide +kernel
theorem dX9_pay_127 : decode cX9_pay 127 = .ok (.iaload, 1) := by decide +kernel
theorem dX9_pay_128 : decode cX9_pay 128 = .ok (.i2l, 1) := by decide +kernel
theorem dX9_pay_129 : decode cX9_pay 129 = .ok (.lreturn, 1) := by decide +kernel
set_option maxRecDepth 20000 in
theorem ggX9_protest_X9_isBill : GoodIn wsX9_protest wsX9_isBill := goodIn_r _ [10, 11, 12, 13, 9, 14, 25, 26, 27, 28, 29, 30, 31, 32, 33, 34, 35, 36, 37, 38, 39, 40, 41, 42, 43, 44, 45, 46, 47, 48, 49, 50, 51, 52, 53, 54, 55, 56, 57, 58, 59, 60, 61, 62, 63, 64, 65, 66, 67, 68, 69, 70, 71, 72, 73, 74, 75, 76, 77, 78, 79] rfl (by decide +kernel)
set_option maxRecDepth 20000 in
theorem gX9_protest_X9_isBill : GoodIn wsX9_protest (wsV RX9 185 RX9 yX9_isBill wsX9_isBill) := goodIn_app (goodIn_of _ (by decide +kernel)) ggX9_protest_X9_isBill
set_option maxRecDepth 20000 in
theorem ggX9_protest_X9_finding : GoodIn wsX9_protest wsX9_finding := goodIn_r _ [18, 19, 20, 25, 26, 27, 28, 29, 30, 31, 32, 33, 34, 35, 36, 37, 38, 39, 40, 41, 42, 43, 44, 45, 46, 47, 48, 49, 50, 51, 52, 53, 54, 55, 56, 57, 58, 59, 60, 61, 62, 63, 64, 65, 66, 67, 68, 69, 70, 71, 72, 73, 74, 75, 76, 77, 78, 79] rfl (by decide +kernel)
set_option maxRecDepth 20000 in
theorem gX9_protest_X9_finding : GoodIn wsX9_protest (wsV RX9 154 RX9 yX9_finding wsX9_finding) := goodIn_app (goodIn_of _ (by decide +kernel)) ggX9_protest_X9_finding
set_option maxRecDepth 20000 in
theorem ggX9_protest_X9_becomes : GoodIn wsX9_protest wsX9_becomes := goodIn_r _ [24, 2, 5, 4, 25, 26, 27, 28, 29, 30, 31, 32, 33, 34, 35, 36, 37, 38, 39, 40, 41, 42, 43, 44, 45, 46, 47, 48, 49, 50, 51, 52, 53, 54, 55, 56, 57, 58, 59, 60, 61, 62, 63, 64, 65, 66, 67, 68, 69, 70, 71, 72, 73, 74, 75, 76, 77, 78, 79] rfl (by decide +kernel)
set_option maxRecDepth 20000 in
theorem gX9_protest_X9_becomes : GoodIn wsX9_protest (wsV RX9 181 RX9 yX9_becomes wsX9_becomes) := goodIn_app (goodIn_of _ (by decide +kernel)) ggX9_protest_X9_becomes
theorem dX9_protest_0 : decode cX9_protest 0 = .ok (.aload_n 0, 1) := by decide +kernel
theorem dX9_protest_1 : decode cX9_protest 1 = .ok (.iload_n 1, 1) := by decide +kernel
theorem dX9_protest_2 : decode cX9_protest 2 = .ok (.invokevirtual 185, 3) := by decide +kernel
theorem dX9_protest_5 : decode cX9_protest 5 = .ok (.ifCond .ne 11, 3) := by decide +kernel
theorem dX9_protest_8 : decode cX9_protest 8 = .ok (.aload_n 0, 1) := by decide +kernel
theorem dX9_protest_9 : decode cX9_protest 9 = .ok (.ldc2_w 152, 3) := by decide +kernel
theorem dX9_protest_12 : decode cX9_protest 12 = .ok (.invokevirtual 154, 3) := by decide +kernel
theorem dX9_protest_15 : decode cX9_protest 15 = .ok (.lreturn, 1) := by decide +kernel
theorem dX9_protest_16 : decode cX9_protest 16 = .ok (.aload_n 0, 1) := by decide +kernel
theorem dX9_protest_17 : decode cX9_protest 17 = .ok (.getfield 35, 3) := by decide +kernel
theorem dX9_protest_20 : decode cX9_protest 20 = .ok (.iload_n 1, 1) := by decide +kernel
theorem dX9_protest_21 : decode cX9_protest 21 = .ok (.iaload, 1) := by decide +kernel
theorem dX9_protest_22 : decode cX9_protest 22 = .ok (.iconst 2, 1) := by decide +kernel
theorem dX9_protest_23 : decode cX9_protest 23 = .ok (.if_icmp .eq 11, 3) := by decide +kernel
theorem dX9_protest_26 : decode cX9_protest 26 = .ok (.aload_n 0, 1) := by decide +kernel
theorem dX9_protest_27 : decode cX9_protest 27 = .ok (.ldc2_w 188, 3) := by decide +kernel
theorem dX9_protest_30 : decode cX9_protest 30 = .ok (.invokevirtual 154, 3) := by decide +kernel
theorem dX9_protest_33 : decode cX9_protest 33 = .ok (.lreturn, 1) := by decide +kernel
theorem dX9_protest_34 : decode cX9_protest 34 = .ok (.aload_n 0, 1) := by decide +kernel
theorem dX9_protest_35 : decode cX9_protest 35 = .ok (.iload_n 1, 1) := by decide +kernel
theorem dX9_protest_36 : decode cX9_protest 36 = .ok (.iconst 3, 1) := by decide +kernel
theorem dX9_protest_37 : decode cX9_protest 37 = .ok (.invokevirtual 181, 3) := by decide +kernel
theorem dX9_protest_40 : decode cX9_protest 40 = .ok (.aload_n 0, 1) := by decide +kernel
theorem dX9_protest_41 : decode cX9_protest 41 = .ok (.getfield 158, 3) := by decide +kernel
theorem dX9_protest_44 : decode cX9_protest 44 = .ok (.aload_n 0, 1) := by decide +kernel
theorem dX9_protest_45 : decode cX9_protest 45 = .ok (.getfield 44, 3) := by decide +kernel
theorem dX9_protest_48 : decode cX9_protest 48 = .ok (.iconst 5, 1) := by decide +kernel
theorem dX9_protest_49 : decode cX9_protest 49 = .ok (.iload_n 1, 1) := by decide +kernel
theorem dX9_protest_50 : decode cX9_protest 50 = .ok (.imul, 1) := by decide +kernel
theorem dX9_protest_51 : decode cX9_protest 51 = .ok (.iconst 2, 1) := by decide +kernel
theorem dX9_protest_52 : decode cX9_protest 52 = .ok (.iadd, 1) := by decide +kernel
theorem dX9_protest_53 : decode cX9_protest 53 = .ok (.laload, 1) := by decide +kernel
theorem dX9_protest_54 : decode cX9_protest 54 = .ok (.lsub, 1) := by decide +kernel
theorem dX9_protest_55 : decode cX9_protest 55 = .ok (.lreturn, 1) := by decide +kernel
set_option maxRecDepth 20000 in
theorem ggX9_recourse_X9_isBill : GoodIn wsX9_recourse wsX9_isBill := goodIn_r _ [20, 21, 22, 23, 19, 24, 61, 62, 63, 64, 65, 66, 67, 68, 69, 70, 71, 72, 73, 74, 75, 76, 77, 78, 79, 80, 81, 82, 83, 84, 85, 86, 87, 88, 89, 90, 91, 92, 93, 94, 95, 96, 97, 98, 99, 100, 101, 102, 103, 104, 105, 106, 107, 108, 109, 110, 111, 112, 113, 114, 115] rfl (by decide +kernel)
set_option maxRecDepth 20000 in
theorem gX9_recourse_X9_isBill : GoodIn wsX9_recourse (wsV RX9 185 RX9 yX9_isBill wsX9_isBill) := goodIn_app (goodIn_of _ (by decide +kernel)) ggX9_recourse_X9_isBill
set_option maxRecDepth 20000 in
theorem ggX9_recourse_X9_finding : GoodIn wsX9_recourse wsX9_finding := goodIn_r _ [28, 29, 30, 61, 62, 63, 64, 65, 66, 67, 68, 69, 70, 71, 72, 73, 74, 75, 76, 77, 78, 79, 80, 81, 82, 83, 84, 85, 86, 87, 88, 89, 90, 91, 92, 93, 94, 95, 96, 97, 98, 99, 100, 101, 102, 103, 104, 105, 106, 107, 108, 109, 110, 111, 112, 113, 114, 115] rfl (by decide +kernel)
set_option maxRecDepth 20000 in
theorem gX9_recourse_X9_finding : GoodIn wsX9_recourse (wsV RX9 154 RX9 yX9_finding wsX9_finding) := goodIn_app (goodIn_of _ (by decide +kernel)) ggX9_recourse_X9_finding
set_option maxRecDepth 20000 in
theorem ggX9_recourse_X9_in : GoodIn wsX9_recourse wsX9_in := goodIn_r _ [24] rfl (by decide +kernel)
set_option maxRecDepth 20000 in
theorem gX9_recourse_X9_in : GoodIn wsX9_recourse (va_wsS RX9 141 yX9_in wsX9_in) := goodIn_app (goodIn_of _ (by decide +kernel)) ggX9_recourse_X9_in
set_option maxRecDepth 20000 in
theorem ggX9_recourse_X9_isBound : GoodIn wsX9_recourse wsX9_isBound := goodIn_r _ [34, 35, 36, 37, 38, 39, 40, 61, 62, 63, 64, 65, 66, 67, 68, 69, 70, 71, 72, 73, 74, 75, 76, 77, 78, 79, 80, 81, 82, 83, 84, 85, 86, 87, 88, 89, 90, 91, 92, 93, 94, 95, 96, 97, 98, 99, 100, 101, 102, 103, 104, 105, 106, 107, 108, 109, 110, 111, 112, 113, 114, 115] rfl (by decide +kernel)
set_option maxRecDepth 20000 in
theorem gX9_recourse_X9_isBound : GoodIn wsX9_recourse (wsV RX9 213 RX9 yX9_isBound wsX9_isBound) := goodIn_app (goodIn_of _ (by decide +kernel)) ggX9_recourse_X9_isBound
set_option maxRecDepth 20000 in
theorem ggX9_recourse_X9_isTooMuch : GoodIn wsX9_recourse wsX9_isTooMuch := goodIn_r _ [44, 45, 46, 47, 48, 49, 19, 50, 51, 61, 62, 63, 64, 65, 66, 67, 68, 69, 70, 71, 72, 73, 74, 75, 76, 77, 78, 79, 80, 81, 82, 83, 84, 85, 86, 87, 88, 89, 90, 91, 92, 93, 94, 95, 96, 97, 98, 99, 100, 101, 102, 103, 104, 105, 106, 107, 108, 109, 110, 111, 112, 113, 114, 115] rfl (by decide +kernel)
set_option maxRecDepth 20000 in
theorem gX9_recourse_X9_isTooMuch : GoodIn wsX9_recourse (wsV RX9 203 RX9 yX9_isTooMuch wsX9_isTooMuch) := goodIn_app (goodIn_of _ (by decide +kernel)) ggX9_recourse_X9_isTooMuch
set_option maxRecDepth 20000 in
theorem ggX9_recourse_X9_comesToOwe : GoodIn wsX9_recourse wsX9_comesToOwe := goodIn_r _ [55, 51, 47, 48, 49, 19, 50, 61, 62, 63, 64, 65, 66, 67, 68, 69, 70, 71, 72, 73, 74, 75, 76, 77, 78, 79, 80, 81, 82, 83, 84, 85, 86, 87, 88, 89, 90, 91, 92, 93, 94, 95, 96, 97, 98, 99, 100, 101, 102, 103, 104, 105, 106, 107, 108, 109, 110, 111, 112, 113, 114, 115] rfl (by decide +kernel)
set_option maxRecDepth 20000 in
theorem gX9_recourse_X9_comesToOwe : GoodIn wsX9_recourse (wsV RX9 207 RX9 yX9_comesToOwe wsX9_comesToOwe) := goodIn_app (goodIn_of _ (by decide +kernel)) ggX9_recourse_X9_comesToOwe
set_option maxRecDepth 20000 in
theorem ggX9_recourse_X9_becomes : GoodIn wsX9_recourse wsX9_becomes := goodIn_r _ [59, 2, 8, 60, 61, 62, 63, 64, 65, 66, 67, 68, 69, 70, 71, 72, 73, 74, 75, 76, 77, 78, 79, 80, 81, 82, 83, 84, 85, 86, 87, 88, 89, 90, 91, 92, 93, 94, 95, 96, 97, 98, 99, 100, 101, 102, 103, 104, 105, 106, 107, 108, 109, 110, 111, 112, 113, 114, 115] rfl (by decide +kernel)
set_option maxRecDepth 20000 in
theorem gX9_recourse_X9_becomes : GoodIn wsX9_recourse (wsV RX9 181 RX9 yX9_becomes wsX9_becomes) := goodIn_app (goodIn_of _ (by decide +kernel)) ggX9_recourse_X9_becomes
theorem dX9_recourse_0 : decode cX9_recourse 0 = .ok (.aload_n 0, 1) := by decide +kernel
theorem dX9_recourse_1 : decode cX9_recourse 1 = .ok (.iload_n 1, 1) := by decide +kernel
theorem dX9_recourse_2 : decode cX9_recourse 2 = .ok (.invokevirtual 185, 3) := by decide +kernel
theorem dX9_recourse_5 : decode cX9_recourse 5 = .ok (.ifCond .ne 11, 3) := by decide +kernel
theorem dX9_recourse_8 : decode cX9_recourse 8 = .ok (.aload_n 0, 1) := by decide +kernel
theorem dX9_recourse_9 : decode cX9_recourse 9 = .ok (.ldc2_w 152, 3) := by decide +kernel
theorem dX9_recourse_12 : decode cX9_recourse 12 = .ok (.invokevirtual 154, 3) := by decide +kernel
theorem dX9_recourse_15 : decode cX9_recourse 15 = .ok (.lreturn, 1) := by decide +kernel
theorem dX9_recourse_16 : decode cX9_recourse 16 = .ok (.aload_n 0, 1) := by decide +kernel
theorem dX9_recourse_17 : decode cX9_recourse 17 = .ok (.getfield 35, 3) := by decide +kernel
theorem dX9_recourse_20 : decode cX9_recourse 20 = .ok (.iload_n 1, 1) := by decide +kernel
theorem dX9_recourse_21 : decode cX9_recourse 21 = .ok (.iaload, 1) := by decide +kernel
theorem dX9_recourse_22 : decode cX9_recourse 22 = .ok (.iconst 3, 1) := by decide +kernel
theorem dX9_recourse_23 : decode cX9_recourse 23 = .ok (.if_icmp .eq 11, 3) := by decide +kernel
theorem dX9_recourse_26 : decode cX9_recourse 26 = .ok (.aload_n 0, 1) := by decide +kernel
theorem dX9_recourse_27 : decode cX9_recourse 27 = .ok (.ldc2_w 188, 3) := by decide +kernel
theorem dX9_recourse_30 : decode cX9_recourse 30 = .ok (.invokevirtual 154, 3) := by decide +kernel
theorem dX9_recourse_33 : decode cX9_recourse 33 = .ok (.lreturn, 1) := by decide +kernel
theorem dX9_recourse_34 : decode cX9_recourse 34 = .ok (.iload_n 2, 1) := by decide +kernel
theorem dX9_recourse_35 : decode cX9_recourse 35 = .ok (.iconst (-1), 1) := by decide +kernel
theorem dX9_recourse_36 : decode cX9_recourse 36 = .ok (.aload_n 0, 1) := by decide +kernel
theorem dX9_recourse_37 : decode cX9_recourse 37 = .ok (.getfield 38, 3) := by decide +kernel
theorem dX9_recourse_40 : decode cX9_recourse 40 = .ok (.iload_n 1, 1) := by decide +kernel
theorem dX9_recourse_41 : decode cX9_recourse 41 = .ok (.iaload, 1) := by decide +kernel
theorem dX9_recourse_42 : decode cX9_recourse 42 = .ok (.iconst 1, 1) := by decide +kernel
theorem dX9_recourse_43 : decode cX9_recourse 43 = .ok (.isub, 1) := by decide +kernel
theorem dX9_recourse_44 : decode cX9_recourse 44 = .ok (.invokestatic 141, 3) := by decide +kernel
theorem dX9_recourse_47 : decode cX9_recourse 47 = .ok (.ifCond .ne 11, 3) := by decide +kernel
theorem dX9_recourse_50 : decode cX9_recourse 50 = .ok (.aload_n 0, 1) := by decide +kernel
theorem dX9_recourse_51 : decode cX9_recourse 51 = .ok (.ldc2_w 211, 3) := by decide +kernel
theorem dX9_recourse_54 : decode cX9_recourse 54 = .ok (.invokevirtual 154, 3) := by decide +kernel
theorem dX9_recourse_57 : decode cX9_recourse 57 = .ok (.lreturn, 1) := by decide +kernel
theorem dX9_recourse_58 : decode cX9_recourse 58 = .ok (.iload_n 2, 1) := by decide +kernel
theorem dX9_recourse_59 : decode cX9_recourse 59 = .ok (.ifCond .ge 12, 3) := by decide +kernel
theorem dX9_recourse_62 : decode cX9_recourse 62 = .ok (.aload_n 0, 1) := by decide +kernel
theorem dX9_recourse_63 : decode cX9_recourse 63 = .ok (.getfield 23, 3) := by decide +kernel
theorem dX9_recourse_66 : decode cX9_recourse 66 = .ok (.iload_n 1, 1) := by decide +kernel
theorem dX9_recourse_67 : decode cX9_recourse 67 = .ok (.iaload, 1) := by decide +kernel
theorem dX9_recourse_68 : decode cX9_recourse 68 = .ok (.goto 13, 3) := by decide +kernel
theorem dX9_recourse_71 : decode cX9_recourse 71 = .ok (.aload_n 0, 1) := by decide +kernel
theorem dX9_recourse_72 : decode cX9_recourse 72 = .ok (.getfield 41, 3) := by decide +kernel
theorem dX9_recourse_75 : decode cX9_recourse 75 = .ok (.iconst 4, 1) := by decide +kernel
theorem dX9_recourse_76 : decode cX9_recourse 76 = .ok (.iload_n 1, 1) := by decide +kernel
theorem dX9_recourse_77 : decode cX9_recourse 77 = .ok (.imul, 1) := by decide +kernel
theorem dX9_recourse_78 : decode cX9_recourse 78 = .ok (.iload_n 2, 1) := by decide +kernel
theorem dX9_recourse_79 : decode cX9_recourse 79 = .ok (.iadd, 1) := by decide +kernel
theorem dX9_recourse_80 : decode cX9_recourse 80 = .ok (.iaload, 1) := by decide +kernel
theorem dX9_recourse_81 : decode cX9_recourse 81 = .ok (.istore_n 3, 1) := by decide +kernel
theorem dX9_recourse_82 : decode cX9_recourse 82 = .ok (.aload_n 0, 1) := by decide +kernel
theorem dX9_recourse_83 : decode cX9_recourse 83 = .ok (.getfield 44, 3) := by decide +kernel
theorem dX9_recourse_86 : decode cX9_recourse 86 = .ok (.iconst 5, 1) := by decide +kernel
theorem dX9_recourse_87 : decode cX9_recourse 87 = .ok (.iload_n 1, 1) := by decide +kernel
theorem dX9_recourse_88 : decode cX9_recourse 88 = .ok (.imul, 1) := by decide +kernel
theorem dX9_recourse_89 : decode cX9_recourse 89 = .ok (.iconst 3, 1) := by decide +kernel
theorem dX9_recourse_90 : decode cX9_recourse 90 = .ok (.iadd, 1) := by decide +kernel
theorem dX9_recourse_91 : decode cX9_recourse 91 = .ok (.laload, 1) := by decide +kernel
theorem dX9_recourse_92 : decode cX9_recourse 92 = .ok (.aload_n 0, 1) := by decide +kernel
theorem dX9_recourse_93 : decode cX9_recourse 93 = .ok (.getfield 44, 3) := by decide +kernel
theorem dX9_recourse_96 : decode cX9_recourse 96 = .ok (.iconst 5, 1) := by decide +kernel
theorem dX9_recourse_97 : decode cX9_recourse 97 = .ok (.iload_n 1, 1) := by decide +kernel
theorem dX9_recourse_98 : decode cX9_recourse 98 = .ok (.imul, 1) := by decide +kernel
theorem dX9_recourse_99 : decode cX9_recourse 99 = .ok (.iconst 2, 1) := by decide +kernel
theorem dX9_recourse_100 : decode cX9_recourse 100 = .ok (.iadd, 1) := by decide +kernel
theorem dX9_recourse_101 : decode cX9_recourse 101 = .ok (.laload, 1) := by decide +kernel
theorem dX9_recourse_102 : decode cX9_recourse 102 = .ok (.lsub, 1) := by decide +kernel
theorem dX9_recourse_103 : decode cX9_recourse 103 = .ok (.lstore 4, 2) := by decide +kernel
theorem dX9_recourse_105 : decode cX9_recourse 105 = .ok (.iload_n 2, 1) := by decide +kernel
theorem dX9_recourse_106 : decode cX9_recourse 106 = .ok (.ifCond .lt 44, 3) := by decide +kernel
theorem dX9_recourse_109 : decode cX9_recourse 109 = .ok (.aload_n 0, 1) := by decide +kernel
theorem dX9_recourse_110 : decode cX9_recourse 110 = .ok (.lload 4, 2) := by decide +kernel
theorem dX9_recourse_112 : decode cX9_recourse 112 = .ok (.aload_n 0, 1) := by decide +kernel
theorem dX9_recourse_113 : decode cX9_recourse 113 = .ok (.getfield 32, 3) := by decide +kernel
theorem dX9_recourse_116 : decode cX9_recourse 116 = .ok (.iload_n 1, 1) := by decide +kernel
theorem dX9_recourse_117 : decode cX9_recourse 117 = .ok (.iaload, 1) := by decide +kernel
theorem dX9_recourse_118 : decode cX9_recourse 118 = .ok (.iload_n 2, 1) := by decide +kernel
theorem dX9_recourse_119 : decode cX9_recourse 119 = .ok (.aload_n 0, 1) := by decide +kernel
theorem dX9_recourse_120 : decode cX9_recourse 120 = .ok (.getfield 20, 3) := by decide +kernel
theorem dX9_recourse_123 : decode cX9_recourse 123 = .ok (.iload_n 1, 1) := by decide +kernel
theorem dX9_recourse_124 : decode cX9_recourse 124 = .ok (.iaload, 1) := by decide +kernel
theorem dX9_recourse_125 : decode cX9_recourse 125 = .ok (.aload_n 0, 1) := by decide +kernel
theorem dX9_recourse_126 : decode cX9_recourse 126 = .ok (.getfield 13, 3) := by decide +kernel
theorem dX9_recourse_129 : decode cX9_recourse 129 = .ok (.aload_n 0, 1) := by decide +kernel
theorem dX9_recourse_130 : decode cX9_recourse 130 = .ok (.getfield 17, 3) := by decide +kernel
theorem dX9_recourse_133 : decode cX9_recourse 133 = .ok (.iload_n 3, 1) := by decide +kernel
theorem dX9_recourse_134 : decode cX9_recourse 134 = .ok (.iaload, 1) := by decide +kernel
theorem dX9_recourse_135 : decode cX9_recourse 135 = .ok (.iaload, 1) := by decide +kernel
theorem dX9_recourse_136 : decode cX9_recourse 136 = .ok (.invokevirtual 213, 3) := by decide +kernel
theorem dX9_recourse_139 : decode cX9_recourse 139 = .ok (.ifCond .ne 11, 3) := by decide +kernel
theorem dX9_recourse_142 : decode cX9_recourse 142 = .ok (.aload_n 0, 1) := by decide +kernel
theorem dX9_recourse_143 : decode cX9_recourse 143 = .ok (.ldc2_w 179, 3) := by decide +kernel
theorem dX9_recourse_146 : decode cX9_recourse 146 = .ok (.invokevirtual 154, 3) := by decide +kernel
theorem dX9_recourse_149 : decode cX9_recourse 149 = .ok (.lreturn, 1) := by decide +kernel
theorem dX9_recourse_150 : decode cX9_recourse 150 = .ok (.aload_n 0, 1) := by decide +kernel
theorem dX9_recourse_151 : decode cX9_recourse 151 = .ok (.iload_n 3, 1) := by decide +kernel
theorem dX9_recourse_152 : decode cX9_recourse 152 = .ok (.aload_n 0, 1) := by decide +kernel
theorem dX9_recourse_153 : decode cX9_recourse 153 = .ok (.getfield 29, 3) := by decide +kernel
theorem dX9_recourse_156 : decode cX9_recourse 156 = .ok (.iload_n 1, 1) := by decide +kernel
theorem dX9_recourse_157 : decode cX9_recourse 157 = .ok (.iaload, 1) := by decide +kernel
theorem dX9_recourse_158 : decode cX9_recourse 158 = .ok (.aload_n 0, 1) := by decide +kernel
theorem dX9_recourse_159 : decode cX9_recourse 159 = .ok (.getfield 32, 3) := by decide +kernel
theorem dX9_recourse_162 : decode cX9_recourse 162 = .ok (.iload_n 1, 1) := by decide +kernel
theorem dX9_recourse_163 : decode cX9_recourse 163 = .ok (.iaload, 1) := by decide +kernel
theorem dX9_recourse_164 : decode cX9_recourse 164 = .ok (.i2l, 1) := by decide +kernel
theorem dX9_recourse_165 : decode cX9_recourse 165 = .ok (.invokevirtual 203, 3) := by decide +kernel
theorem dX9_recourse_168 : decode cX9_recourse 168 = .ok (.ifCond .eq 11, 3) := by decide +kernel
theorem dX9_recourse_171 : decode cX9_recourse 171 = .ok (.aload_n 0, 1) := by decide +kernel
theorem dX9_recourse_172 : decode cX9_recourse 172 = .ok (.ldc2_w 169, 3) := by decide +kernel
theorem dX9_recourse_175 : decode cX9_recourse 175 = .ok (.invokevirtual 154, 3) := by decide +kernel
theorem dX9_recourse_178 : decode cX9_recourse 178 = .ok (.lreturn, 1) := by decide +kernel
theorem dX9_recourse_179 : decode cX9_recourse 179 = .ok (.aload_n 0, 1) := by decide +kernel
theorem dX9_recourse_180 : decode cX9_recourse 180 = .ok (.iload_n 3, 1) := by decide +kernel
theorem dX9_recourse_181 : decode cX9_recourse 181 = .ok (.aload_n 0, 1) := by decide +kernel
theorem dX9_recourse_182 : decode cX9_recourse 182 = .ok (.getfield 29, 3) := by decide +kernel
theorem dX9_recourse_185 : decode cX9_recourse 185 = .ok (.iload_n 1, 1) := by decide +kernel
theorem dX9_recourse_186 : decode cX9_recourse 186 = .ok (.iaload, 1) := by decide +kernel
theorem dX9_recourse_187 : decode cX9_recourse 187 = .ok (.aload_n 0, 1) := by decide +kernel
theorem dX9_recourse_188 : decode cX9_recourse 188 = .ok (.getfield 32, 3) := by decide +kernel
theorem dX9_recourse_191 : decode cX9_recourse 191 = .ok (.iload_n 1, 1) := by decide +kernel
theorem dX9_recourse_192 : decode cX9_recourse 192 = .ok (.iaload, 1) := by decide +kernel
theorem dX9_recourse_193 : decode cX9_recourse 193 = .ok (.i2l, 1) := by decide +kernel
theorem dX9_recourse_194 : decode cX9_recourse 194 = .ok (.invokevirtual 207, 3) := by decide +kernel
theorem dX9_recourse_197 : decode cX9_recourse 197 = .ok (.iload_n 2, 1) := by decide +kernel
theorem dX9_recourse_198 : decode cX9_recourse 198 = .ok (.ifCond .ge 12, 3) := by decide +kernel
theorem dX9_recourse_201 : decode cX9_recourse 201 = .ok (.aload_n 0, 1) := by decide +kernel
theorem dX9_recourse_202 : decode cX9_recourse 202 = .ok (.iload_n 1, 1) := by decide +kernel
theorem dX9_recourse_203 : decode cX9_recourse 203 = .ok (.iconst 4, 1) := by decide +kernel
theorem dX9_recourse_204 : decode cX9_recourse 204 = .ok (.invokevirtual 181, 3) := by decide +kernel
theorem dX9_recourse_207 : decode cX9_recourse 207 = .ok (.goto 17, 3) := by decide +kernel
theorem dX9_recourse_210 : decode cX9_recourse 210 = .ok (.aload_n 0, 1) := by decide +kernel
theorem dX9_recourse_211 : decode cX9_recourse 211 = .ok (.getfield 29, 3) := by decide +kernel
theorem dX9_recourse_214 : decode cX9_recourse 214 = .ok (.iload_n 1, 1) := by decide +kernel
theorem dX9_recourse_215 : decode cX9_recourse 215 = .ok (.iload_n 3, 1) := by decide +kernel
theorem dX9_recourse_216 : decode cX9_recourse 216 = .ok (.iastore, 1) := by decide +kernel
theorem dX9_recourse_217 : decode cX9_recourse 217 = .ok (.aload_n 0, 1) := by decide +kernel
theorem dX9_recourse_218 : decode cX9_recourse 218 = .ok (.getfield 38, 3) := by decide +kernel
theorem dX9_recourse_221 : decode cX9_recourse 221 = .ok (.iload_n 1, 1) := by decide +kernel
theorem dX9_recourse_222 : decode cX9_recourse 222 = .ok (.iload_n 2, 1) := by decide +kernel
theorem dX9_recourse_223 : decode cX9_recourse 223 = .ok (.iastore, 1) := by decide +kernel
theorem dX9_recourse_224 : decode cX9_recourse 224 = .ok (.iload_n 3, 1) := by decide +kernel
theorem dX9_recourse_225 : decode cX9_recourse 225 = .ok (.i2l, 1) := by decide +kernel
theorem dX9_recourse_226 : decode cX9_recourse 226 = .ok (.lreturn, 1) := by decide +kernel
set_option maxRecDepth 20000 in
theorem ggX9_about_X9_isBill : GoodIn wsX9_about wsX9_isBill := goodIn_r _ [16, 17, 18, 19, 15, 20, 27, 28, 29, 30, 31, 32, 33, 34, 35, 36, 37, 38, 39, 40, 41, 42, 43, 44, 45, 46, 47, 48, 49, 50, 51, 52, 53, 54, 55, 56, 57, 58, 59, 60, 61, 62, 63, 64, 65, 66, 67, 68, 69, 70, 71, 72, 73, 74, 75, 76, 77, 78, 79, 80, 81] rfl (by decide +kernel)
set_option maxRecDepth 20000 in
theorem gX9_about_X9_isBill : GoodIn wsX9_about (wsV RX9 185 RX9 yX9_isBill wsX9_isBill) := goodIn_app (goodIn_of _ (by decide +kernel)) ggX9_about_X9_isBill
set_option maxRecDepth 20000 in
theorem ggX9_about_X9_in : GoodIn wsX9_about wsX9_in := goodIn_r _ [20] rfl (by decide +kernel)
set_option maxRecDepth 20000 in
theorem gX9_about_X9_in : GoodIn wsX9_about (va_wsS RX9 141 yX9_in wsX9_in) := goodIn_app (goodIn_of _ (by decide +kernel)) ggX9_about_X9_in
set_option maxRecDepth 20000 in
theorem ggX9_about_X9_finding : GoodIn wsX9_about wsX9_finding := goodIn_r _ [24, 25, 26, 27, 28, 29, 30, 31, 32, 33, 34, 35, 36, 37, 38, 39, 40, 41, 42, 43, 44, 45, 46, 47, 48, 49, 50, 51, 52, 53, 54, 55, 56, 57, 58, 59, 60, 61, 62, 63, 64, 65, 66, 67, 68, 69, 70, 71, 72, 73, 74, 75, 76, 77, 78, 79, 80, 81] rfl (by decide +kernel)
set_option maxRecDepth 20000 in
theorem gX9_about_X9_finding : GoodIn wsX9_about (wsV RX9 154 RX9 yX9_finding wsX9_finding) := goodIn_app (goodIn_of _ (by decide +kernel)) ggX9_about_X9_finding
theorem dX9_about_0 : decode cX9_about 0 = .ok (.aload_n 0, 1) := by decide +kernel
theorem dX9_about_1 : decode cX9_about 1 = .ok (.iload_n 1, 1) := by decide +kernel
theorem dX9_about_2 : decode cX9_about 2 = .ok (.invokevirtual 185, 3) := by decide +kernel
theorem dX9_about_5 : decode cX9_about 5 = .ok (.ifCond .eq 13, 3) := by decide +kernel
theorem dX9_about_8 : decode cX9_about 8 = .ok (.iload_n 2, 1) := by decide +kernel
theorem dX9_about_9 : decode cX9_about 9 = .ok (.iconst 0, 1) := by decide +kernel
theorem dX9_about_10 : decode cX9_about 10 = .ok (.bipush 11, 2) := by decide +kernel
theorem dX9_about_12 : decode cX9_about 12 = .ok (.invokestatic 141, 3) := by decide +kernel
theorem dX9_about_15 : decode cX9_about 15 = .ok (.ifCond .ne 11, 3) := by decide +kernel
theorem dX9_about_18 : decode cX9_about 18 = .ok (.aload_n 0, 1) := by decide +kernel
theorem dX9_about_19 : decode cX9_about 19 = .ok (.ldc2_w 152, 3) := by decide +kernel
theorem dX9_about_22 : decode cX9_about 22 = .ok (.invokevirtual 154, 3) := by decide +kernel
theorem dX9_about_25 : decode cX9_about 25 = .ok (.lreturn, 1) := by decide +kernel
theorem dX9_about_26 : decode cX9_about 26 = .ok (.iload_n 2, 1) := by decide +kernel
theorem dX9_about_27 : decode cX9_about 27 = .ok (.tableswitch 133 0 11 #[61, 69, 77, 85, 93, 101, 109, 133, 133, 133, 133, 117], 61) := by decide +kernel
theorem dX9_about_88 : decode cX9_about 88 = .ok (.aload_n 0, 1) := by decide +kernel
theorem dX9_about_89 : decode cX9_about 89 = .ok (.getfield 20, 3) := by decide +kernel
theorem dX9_about_92 : decode cX9_about 92 = .ok (.iload_n 1, 1) := by decide +kernel
theorem dX9_about_93 : decode cX9_about 93 = .ok (.iaload, 1) := by decide +kernel
theorem dX9_about_94 : decode cX9_about 94 = .ok (.i2l, 1) := by decide +kernel
theorem dX9_about_95 : decode cX9_about 95 = .ok (.lreturn, 1) := by decide +kernel
theorem dX9_about_96 : decode cX9_about 96 = .ok (.aload_n 0, 1) := by decide +kernel
theorem dX9_about_97 : decode cX9_about 97 = .ok (.getfield 23, 3) := by decide +kernel
theorem dX9_about_100 : decode cX9_about 100 = .ok (.iload_n 1, 1) := by decide +kernel
theorem dX9_about_101 : decode cX9_about 101 = .ok (.iaload, 1) := by decide +kernel
theorem dX9_about_102 : decode cX9_about 102 = .ok (.i2l, 1) := by decide +kernel
theorem dX9_about_103 : decode cX9_about 103 = .ok (.lreturn, 1) := by decide +kernel
theorem dX9_about_104 : decode cX9_about 104 = .ok (.aload_n 0, 1) := by decide +kernel
theorem dX9_about_105 : decode cX9_about 105 = .ok (.getfield 26, 3) := by decide +kernel
theorem dX9_about_108 : decode cX9_about 108 = .ok (.iload_n 1, 1) := by decide +kernel
theorem dX9_about_109 : decode cX9_about 109 = .ok (.iaload, 1) := by decide +kernel
theorem dX9_about_110 : decode cX9_about 110 = .ok (.i2l, 1) := by decide +kernel
theorem dX9_about_111 : decode cX9_about 111 = .ok (.lreturn, 1) := by decide +kernel
theorem dX9_about_112 : decode cX9_about 112 = .ok (.aload_n 0, 1) := by decide +kernel
theorem dX9_about_113 : decode cX9_about 113 = .ok (.getfield 29, 3) := by decide +kernel
theorem dX9_about_116 : decode cX9_about 116 = .ok (.iload_n 1, 1) := by decide +kernel
theorem dX9_about_117 : decode cX9_about 117 = .ok (.iaload, 1) := by decide +kernel
theorem dX9_about_118 : decode cX9_about 118 = .ok (.i2l, 1) := by decide +kernel
theorem dX9_about_119 : decode cX9_about 119 = .ok (.lreturn, 1) := by decide +kernel
theorem dX9_about_120 : decode cX9_about 120 = .ok (.aload_n 0, 1) := by decide +kernel
theorem dX9_about_121 : decode cX9_about 121 = .ok (.getfield 32, 3) := by decide +kernel
theorem dX9_about_124 : decode cX9_about 124 = .ok (.iload_n 1, 1) := by decide +kernel
theorem dX9_about_125 : decode cX9_about 125 = .ok (.iaload, 1) := by decide +kernel
theorem dX9_about_126 : decode cX9_about 126 = .ok (.i2l, 1) := by decide +kernel
theorem dX9_about_127 : decode cX9_about 127 = .ok (.lreturn, 1) := by decide +kernel
theorem dX9_about_128 : decode cX9_about 128 = .ok (.aload_n 0, 1) := by decide +kernel
theorem dX9_about_129 : decode cX9_about 129 = .ok (.getfield 35, 3) := by decide +kernel
theorem dX9_about_132 : decode cX9_about 132 = .ok (.iload_n 1, 1) := by decide +kernel
theorem dX9_about_133 : decode cX9_about 133 = .ok (.iaload, 1) := by decide +kernel
theorem dX9_about_134 : decode cX9_about 134 = .ok (.i2l, 1) := by decide +kernel
theorem dX9_about_135 : decode cX9_about 135 = .ok (.lreturn, 1) := by decide +kernel
theorem dX9_about_136 : decode cX9_about 136 = .ok (.aload_n 0, 1) := by decide +kernel
theorem dX9_about_137 : decode cX9_about 137 = .ok (.getfield 38, 3) := by decide +kernel
theorem dX9_about_140 : decode cX9_about 140 = .ok (.iload_n 1, 1) := by decide +kernel
theorem dX9_about_141 : decode cX9_about 141 = .ok (.iaload, 1) := by decide +kernel
theorem dX9_about_142 : decode cX9_about 142 = .ok (.i2l, 1) := by decide +kernel
theorem dX9_about_143 : decode cX9_about 143 = .ok (.lreturn, 1) := by decide +kernel
theorem dX9_about_144 : decode cX9_about 144 = .ok (.aload_n 0, 1) := by decide +kernel
theorem dX9_about_145 : decode cX9_about 145 = .ok (.getfield 44, 3) := by decide +kernel
theorem dX9_about_148 : decode cX9_about 148 = .ok (.iconst 5, 1) := by decide +kernel
theorem dX9_about_149 : decode cX9_about 149 = .ok (.iload_n 1, 1) := by decide +kernel
theorem dX9_about_150 : decode cX9_about 150 = .ok (.imul, 1) := by decide +kernel
theorem dX9_about_151 : decode cX9_about 151 = .ok (.aload_n 0, 1) := by decide +kernel
theorem dX9_about_152 : decode cX9_about 152 = .ok (.getfield 35, 3) := by decide +kernel
theorem dX9_about_155 : decode cX9_about 155 = .ok (.iload_n 1, 1) := by decide +kernel
theorem dX9_about_156 : decode cX9_about 156 = .ok (.iaload, 1) := by decide +kernel
theorem dX9_about_157 : decode cX9_about 157 = .ok (.iadd, 1) := by decide +kernel
theorem dX9_about_158 : decode cX9_about 158 = .ok (.laload, 1) := by decide +kernel
theorem dX9_about_159 : decode cX9_about 159 = .ok (.lreturn, 1) := by decide +kernel
theorem dX9_about_160 : decode cX9_about 160 = .ok (.iload_n 2, 1) := by decide +kernel
theorem dX9_about_161 : decode cX9_about 161 = .ok (.bipush 7, 2) := by decide +kernel
theorem dX9_about_163 : decode cX9_about 163 = .ok (.isub, 1) := by decide +kernel
theorem dX9_about_164 : decode cX9_about 164 = .ok (.aload_n 0, 1) := by decide +kernel
theorem dX9_about_165 : decode cX9_about 165 = .ok (.getfield 38, 3) := by decide +kernel
theorem dX9_about_168 : decode cX9_about 168 = .ok (.iload_n 1, 1) := by decide +kernel
theorem dX9_about_169 : decode cX9_about 169 = .ok (.iaload, 1) := by decide +kernel
theorem dX9_about_170 : decode cX9_about 170 = .ok (.if_icmp .ge 20, 3) := by decide +kernel
theorem dX9_about_173 : decode cX9_about 173 = .ok (.aload_n 0, 1) := by decide +kernel
theorem dX9_about_174 : decode cX9_about 174 = .ok (.getfield 41, 3) := by decide +kernel
theorem dX9_about_177 : decode cX9_about 177 = .ok (.iconst 4, 1) := by decide +kernel
theorem dX9_about_178 : decode cX9_about 178 = .ok (.iload_n 1, 1) := by decide +kernel
theorem dX9_about_179 : decode cX9_about 179 = .ok (.imul, 1) := by decide +kernel
theorem dX9_about_180 : decode cX9_about 180 = .ok (.iload_n 2, 1) := by decide +kernel
theorem dX9_about_181 : decode cX9_about 181 = .ok (.iadd, 1) := by decide +kernel
theorem dX9_about_182 : decode cX9_about 182 = .ok (.bipush 7, 2) := by decide +kernel
theorem dX9_about_184 : decode cX9_about 184 = .ok (.isub, 1) := by decide +kernel
theorem dX9_about_185 : decode cX9_about 185 = .ok (.iaload, 1) := by decide +kernel
theorem dX9_about_186 : decode cX9_about 186 = .ok (.i2l, 1) := by decide +kernel
theorem dX9_about_187 : decode cX9_about 187 = .ok (.goto 10, 3) := by decide +kernel
theorem dX9_about_190 : decode cX9_about 190 = .ok (.aload_n 0, 1) := by decide +kernel
theorem dX9_about_191 : decode cX9_about 191 = .ok (.ldc2_w 211, 3) := by decide +kernel
theorem dX9_about_194 : decode cX9_about 194 = .ok (.invokevirtual 154, 3) := by decide +kernel
theorem dX9_about_197 : decode cX9_about 197 = .ok (.lreturn, 1) := by decide +kernel
set_option maxRecDepth 20000 in
theorem ggX9_as_X9_isBill : GoodIn wsX9_as wsX9_isBill := goodIn_r _ [9, 10, 11, 12, 8, 13, 20, 21, 22, 23, 24, 25, 26, 27, 28, 29, 30, 31, 32, 33, 34, 35, 36, 37, 38, 39, 40, 41, 42, 43, 44, 45, 46, 47, 48, 49, 50, 51, 52, 53, 54, 55, 56, 57, 58, 59, 60, 61, 62, 63, 64, 65, 66, 67, 68, 69, 70, 71, 72, 73, 74] rfl (by decide +kernel)
set_option maxRecDepth 20000 in
theorem gX9_as_X9_isBill : GoodIn wsX9_as (wsV RX9 185 RX9 yX9_isBill wsX9_isBill) := goodIn_app (goodIn_of _ (by decide +kernel)) ggX9_as_X9_isBill
set_option maxRecDepth 20000 in
theorem ggX9_as_X9_in : GoodIn wsX9_as wsX9_in := goodIn_r _ [13] rfl (by decide +kernel)
set_option maxRecDepth 20000 in
theorem gX9_as_X9_in : GoodIn wsX9_as (va_wsS RX9 141 yX9_in wsX9_in) := goodIn_app (goodIn_of _ (by decide +kernel)) ggX9_as_X9_in
set_option maxRecDepth 20000 in
theorem ggX9_as_X9_finding : GoodIn wsX9_as wsX9_finding := goodIn_r _ [17, 18, 19, 20, 21, 22, 23, 24, 25, 26, 27, 28, 29, 30, 31, 32, 33, 34, 35, 36, 37, 38, 39, 40, 41, 42, 43, 44, 45, 46, 47, 48, 49, 50, 51, 52, 53, 54, 55, 56, 57, 58, 59, 60, 61, 62, 63, 64, 65, 66, 67, 68, 69, 70, 71, 72, 73, 74] rfl (by decide +kernel)
set_option maxRecDepth 20000 in
theorem gX9_as_X9_finding : GoodIn wsX9_as (wsV RX9 154 RX9 yX9_finding wsX9_finding) := goodIn_app (goodIn_of _ (by decide +kernel)) ggX9_as_X9_finding
theorem dX9_as_0 : decode cX9_as 0 = .ok (.aload_n 0, 1) := by decide +kernel
theorem dX9_as_1 : decode cX9_as 1 = .ok (.iload_n 1, 1) := by decide +kernel
theorem dX9_as_2 : decode cX9_as 2 = .ok (.invokevirtual 185, 3) := by decide +kernel
theorem dX9_as_5 : decode cX9_as 5 = .ok (.ifCond .eq 12, 3) := by decide +kernel
theorem dX9_as_8 : decode cX9_as 8 = .ok (.iload_n 2, 1) := by decide +kernel
theorem dX9_as_9 : decode cX9_as 9 = .ok (.iconst 0, 1) := by decide +kernel
theorem dX9_as_10 : decode cX9_as 10 = .ok (.iconst 2, 1) := by decide +kernel
theorem dX9_as_11 : decode cX9_as 11 = .ok (.invokestatic 141, 3) := by decide +kernel
theorem dX9_as_14 : decode cX9_as 14 = .ok (.ifCond .ne 11, 3) := by decide +kernel
theorem dX9_as_17 : decode cX9_as 17 = .ok (.aload_n 0, 1) := by decide +kernel
theorem dX9_as_18 : decode cX9_as 18 = .ok (.ldc2_w 152, 3) := by decide +kernel
theorem dX9_as_21 : decode cX9_as 21 = .ok (.invokevirtual 154, 3) := by decide +kernel
theorem dX9_as_24 : decode cX9_as 24 = .ok (.lreturn, 1) := by decide +kernel
theorem dX9_as_25 : decode cX9_as 25 = .ok (.iload_n 2, 1) := by decide +kernel
theorem dX9_as_26 : decode cX9_as 26 = .ok (.ifCond .eq 13, 3) := by decide +kernel
theorem dX9_as_29 : decode cX9_as 29 = .ok (.aload_n 0, 1) := by decide +kernel
theorem dX9_as_30 : decode cX9_as 30 = .ok (.getfield 20, 3) := by decide +kernel
theorem dX9_as_33 : decode cX9_as 33 = .ok (.iload_n 1, 1) := by decide +kernel
theorem dX9_as_34 : decode cX9_as 34 = .ok (.iaload, 1) := by decide +kernel
theorem dX9_as_35 : decode cX9_as 35 = .ok (.iload_n 2, 1) := by decide +kernel
theorem dX9_as_36 : decode cX9_as 36 = .ok (.if_icmp .ne 13, 3) := by decide +kernel
theorem dX9_as_39 : decode cX9_as 39 = .ok (.aload_n 0, 1) := by decide +kernel
theorem dX9_as_40 : decode cX9_as 40 = .ok (.getfield 32, 3) := by decide +kernel
theorem dX9_as_43 : decode cX9_as 43 = .ok (.iload_n 1, 1) := by decide +kernel
theorem dX9_as_44 : decode cX9_as 44 = .ok (.iaload, 1) := by decide +kernel
theorem dX9_as_45 : decode cX9_as 45 = .ok (.i2l, 1) := by decide +kernel
theorem dX9_as_46 : decode cX9_as 46 = .ok (.goto 10, 3) := by decide +kernel
theorem dX9_as_49 : decode cX9_as 49 = .ok (.aload_n 0, 1) := by decide +kernel
theorem dX9_as_50 : decode cX9_as 50 = .ok (.ldc2_w 179, 3) := by decide +kernel
theorem dX9_as_53 : decode cX9_as 53 = .ok (.invokevirtual 154, 3) := by decide +kernel
theorem dX9_as_56 : decode cX9_as 56 = .ok (.lreturn, 1) := by decide +kernel
set_option maxRecDepth 20000 in
theorem ggX9_knows_X9_isHouse : GoodIn wsX9_knows wsX9_isHouse := goodIn_r _ [9, 10, 11, 8, 12] rfl (by decide +kernel)
set_option maxRecDepth 20000 in
theorem gX9_knows_X9_isHouse : GoodIn wsX9_knows (va_wsS RX9 171 yX9_isHouse wsX9_isHouse) := goodIn_app (goodIn_of _ (by decide +kernel)) ggX9_knows_X9_isHouse
set_option maxRecDepth 20000 in
theorem ggX9_knows_X9_isBill : GoodIn wsX9_knows wsX9_isBill := goodIn_r _ [16, 17, 10, 11, 8, 12, 24, 25, 26, 27, 28, 29, 30, 31, 32, 33, 34, 35, 36, 37, 38, 39, 40, 41, 42, 43, 44, 45, 46, 47, 48, 49, 50, 51, 52, 53, 54, 55, 56, 57, 58, 59, 60, 61, 62, 63, 64, 65, 66, 67, 68, 69, 70, 71, 72, 73, 74, 75, 76, 77, 78] rfl (by decide +kernel)
set_option maxRecDepth 20000 in
theorem gX9_knows_X9_isBill : GoodIn wsX9_knows (wsV RX9 185 RX9 yX9_isBill wsX9_isBill) := goodIn_app (goodIn_of _ (by decide +kernel)) ggX9_knows_X9_isBill
set_option maxRecDepth 20000 in
theorem ggX9_knows_X9_finding : GoodIn wsX9_knows wsX9_finding := goodIn_r _ [21, 22, 23, 24, 25, 26, 27, 28, 29, 30, 31, 32, 33, 34, 35, 36, 37, 38, 39, 40, 41, 42, 43, 44, 45, 46, 47, 48, 49, 50, 51, 52, 53, 54, 55, 56, 57, 58, 59, 60, 61, 62, 63, 64, 65, 66, 67, 68, 69, 70, 71, 72, 73, 74, 75, 76, 77, 78] rfl (by decide +kernel)
set_option maxRecDepth 20000 in
theorem gX9_knows_X9_finding : GoodIn wsX9_knows (wsV RX9 154 RX9 yX9_finding wsX9_finding) := goodIn_app (goodIn_of _ (by decide +kernel)) ggX9_knows_X9_finding
theorem dX9_knows_0 : decode cX9_knows 0 = .ok (.iload_n 1, 1) := by decide +kernel
theorem dX9_knows_1 : decode cX9_knows 1 = .ok (.invokestatic 171, 3) := by decide +kernel
theorem dX9_knows_4 : decode cX9_knows 4 = .ok (.ifCond .eq 15, 3) := by decide +kernel
theorem dX9_knows_7 : decode cX9_knows 7 = .ok (.aload_n 0, 1) := by decide +kernel
theorem dX9_knows_8 : decode cX9_knows 8 = .ok (.iload_n 2, 1) := by decide +kernel
theorem dX9_knows_9 : decode cX9_knows 9 = .ok (.invokevirtual 185, 3) := by decide +kernel
theorem dX9_knows_12 : decode cX9_knows 12 = .ok (.ifCond .eq 7, 3) := by decide +kernel
theorem dX9_knows_15 : decode cX9_knows 15 = .ok (.iload_n 3, 1) := by decide +kernel
theorem dX9_knows_16 : decode cX9_knows 16 = .ok (.ifCond .ge 11, 3) := by decide +kernel
theorem dX9_knows_19 : decode cX9_knows 19 = .ok (.aload_n 0, 1) := by decide +kernel
theorem dX9_knows_20 : decode cX9_knows 20 = .ok (.ldc2_w 152, 3) := by decide +kernel
theorem dX9_knows_23 : decode cX9_knows 23 = .ok (.invokevirtual 154, 3) := by decide +kernel
theorem dX9_knows_26 : decode cX9_knows 26 = .ok (.lreturn, 1) := by decide +kernel
theorem dX9_knows_27 : decode cX9_knows 27 = .ok (.ldc2_w 211, 3) := by decide +kernel
theorem dX9_knows_30 : decode cX9_knows 30 = .ok (.lstore 4, 2) := by decide +kernel
theorem dX9_knows_32 : decode cX9_knows 32 = .ok (.iconst 0, 1) := by decide +kernel
theorem dX9_knows_33 : decode cX9_knows 33 = .ok (.istore 6, 2) := by decide +kernel
theorem dX9_knows_35 : decode cX9_knows 35 = .ok (.iload 6, 2) := by decide +kernel
theorem dX9_knows_37 : decode cX9_knows 37 = .ok (.iconst 5, 1) := by decide +kernel
theorem dX9_knows_38 : decode cX9_knows 38 = .ok (.if_icmp .ge 60, 3) := by decide +kernel
theorem dX9_knows_41 : decode cX9_knows 41 = .ok (.aload_n 0, 1) := by decide +kernel
theorem dX9_knows_42 : decode cX9_knows 42 = .ok (.getfield 44, 3) := by decide +kernel
theorem dX9_knows_45 : decode cX9_knows 45 = .ok (.iconst 5, 1) := by decide +kernel
theorem dX9_knows_46 : decode cX9_knows 46 = .ok (.iload_n 2, 1) := by decide +kernel
theorem dX9_knows_47 : decode cX9_knows 47 = .ok (.imul, 1) := by decide +kernel
theorem dX9_knows_48 : decode cX9_knows 48 = .ok (.iload 6, 2) := by decide +kernel
theorem dX9_knows_50 : decode cX9_knows 50 = .ok (.iadd, 1) := by decide +kernel
theorem dX9_knows_51 : decode cX9_knows 51 = .ok (.laload, 1) := by decide +kernel
theorem dX9_knows_52 : decode cX9_knows 52 = .ok (.lstore 7, 2) := by decide +kernel
theorem dX9_knows_54 : decode cX9_knows 54 = .ok (.lload 7, 2) := by decide +kernel
theorem dX9_knows_56 : decode cX9_knows 56 = .ok (.lconst 0, 1) := by decide +kernel
theorem dX9_knows_57 : decode cX9_knows 57 = .ok (.lcmp, 1) := by decide +kernel
theorem dX9_knows_58 : decode cX9_knows 58 = .ok (.ifCond .lt 30, 3) := by decide +kernel
theorem dX9_knows_61 : decode cX9_knows 61 = .ok (.iload_n 3, 1) := by decide +kernel
theorem dX9_knows_62 : decode cX9_knows 62 = .ok (.i2l, 1) := by decide +kernel
theorem dX9_knows_63 : decode cX9_knows 63 = .ok (.lload 7, 2) := by decide +kernel
theorem dX9_knows_65 : decode cX9_knows 65 = .ok (.aload_n 0, 1) := by decide +kernel
theorem dX9_knows_66 : decode cX9_knows 66 = .ok (.getfield 13, 3) := by decide +kernel
theorem dX9_knows_69 : decode cX9_knows 69 = .ok (.aload_n 0, 1) := by decide +kernel
theorem dX9_knows_70 : decode cX9_knows 70 = .ok (.getfield 17, 3) := by decide +kernel
theorem dX9_knows_73 : decode cX9_knows 73 = .ok (.iload_n 1, 1) := by decide +kernel
theorem dX9_knows_74 : decode cX9_knows 74 = .ok (.iaload, 1) := by decide +kernel
theorem dX9_knows_75 : decode cX9_knows 75 = .ok (.iaload, 1) := by decide +kernel
theorem dX9_knows_76 : decode cX9_knows 76 = .ok (.i2l, 1) := by decide +kernel
theorem dX9_knows_77 : decode cX9_knows 77 = .ok (.ladd, 1) := by decide +kernel
theorem dX9_knows_78 : decode cX9_knows 78 = .ok (.lcmp, 1) := by decide +kernel
theorem dX9_knows_79 : decode cX9_knows 79 = .ok (.ifCond .lt 9, 3) := by decide +kernel
theorem dX9_knows_82 : decode cX9_knows 82 = .ok (.iload 6, 2) := by decide +kernel
theorem dX9_knows_84 : decode cX9_knows 84 = .ok (.i2l, 1) := by decide +kernel
theorem dX9_knows_85 : decode cX9_knows 85 = .ok (.goto 5, 3) := by decide +kernel
theorem dX9_knows_88 : decode cX9_knows 88 = .ok (.lload 4, 2) := by decide +kernel
theorem dX9_knows_90 : decode cX9_knows 90 = .ok (.lstore 4, 2) := by decide +kernel
theorem dX9_knows_92 : decode cX9_knows 92 = .ok (.iinc 6 1, 3) := by decide +kernel
theorem dX9_knows_95 : decode cX9_knows 95 = .ok (.goto (-60), 3) := by decide +kernel
theorem dX9_knows_98 : decode cX9_knows 98 = .ok (.lload 4, 2) := by decide +kernel
theorem dX9_knows_100 : decode cX9_knows 100 = .ok (.ldc2_w 211, 3) := by decide +kernel
theorem dX9_knows_103 : decode cX9_knows 103 = .ok (.lcmp, 1) := by decide +kernel
theorem dX9_knows_104 : decode cX9_knows 104 = .ok (.ifCond .ne 13, 3) := by decide +kernel
theorem dX9_knows_107 : decode cX9_knows 107 = .ok (.aload_n 0, 1) := by decide +kernel
theorem dX9_knows_108 : decode cX9_knows 108 = .ok (.ldc2_w 211, 3) := by decide +kernel
theorem dX9_knows_111 : decode cX9_knows 111 = .ok (.invokevirtual 154, 3) := by decide +kernel
theorem dX9_knows_114 : decode cX9_knows 114 = .ok (.goto 5, 3) := by decide +kernel
theorem dX9_knows_117 : decode cX9_knows 117 = .ok (.lload 4, 2) := by decide +kernel
theorem dX9_knows_119 : decode cX9_knows 119 = .ok (.lreturn, 1) := by decide +kernel
set_option maxRecDepth 20000 in
theorem ggX9_feed_X9_in : GoodIn wsX9_feed wsX9_in := goodIn_r _ [9] rfl (by decide +kernel)
set_option maxRecDepth 20000 in
theorem gX9_feed_X9_in : GoodIn wsX9_feed (va_wsS RX9 141 yX9_in wsX9_in) := goodIn_app (goodIn_of _ (by decide +kernel)) ggX9_feed_X9_in
set_option maxRecDepth 20000 in
theorem ggX9_feed_X9_finding : GoodIn wsX9_feed wsX9_finding := goodIn_r _ [13, 14, 15, 16, 17, 18, 19, 20, 21, 22, 23, 24, 25, 26, 27, 28, 29, 30, 31, 32, 33, 34, 35, 36, 37, 38, 39, 40, 41, 42, 43, 44, 45, 46, 47, 48, 49, 50, 51, 52, 53, 54, 55, 56, 57, 58, 59, 60, 61, 62, 63, 64, 65, 66, 67, 68, 69, 70] rfl (by decide +kernel)
set_option maxRecDepth 20000 in
theorem gX9_feed_X9_finding : GoodIn wsX9_feed (wsV RX9 154 RX9 yX9_finding wsX9_finding) := goodIn_app (goodIn_of _ (by decide +kernel)) ggX9_feed_X9_finding
theorem dX9_feed_0 : decode cX9_feed 0 = .ok (.iload_n 3, 1) := by decide +kernel
theorem dX9_feed_1 : decode cX9_feed 1 = .ok (.iconst 1, 1) := by decide +kernel
theorem dX9_feed_2 : decode cX9_feed 2 = .ok (.bipush 8, 2) := by decide +kernel
theorem dX9_feed_4 : decode cX9_feed 4 = .ok (.invokestatic 141, 3) := by decide +kernel
theorem dX9_feed_7 : decode cX9_feed 7 = .ok (.ifCond .ne 11, 3) := by decide +kernel
theorem dX9_feed_10 : decode cX9_feed 10 = .ok (.aload_n 0, 1) := by decide +kernel
theorem dX9_feed_11 : decode cX9_feed 11 = .ok (.ldc2_w 152, 3) := by decide +kernel
theorem dX9_feed_14 : decode cX9_feed 14 = .ok (.invokevirtual 154, 3) := by decide +kernel
theorem dX9_feed_17 : decode cX9_feed 17 = .ok (.lreturn, 1) := by decide +kernel
theorem dX9_feed_18 : decode cX9_feed 18 = .ok (.aload_n 0, 1) := by decide +kernel
theorem dX9_feed_19 : decode cX9_feed 19 = .ok (.getfield 217, 3) := by decide +kernel
theorem dX9_feed_22 : decode cX9_feed 22 = .ok (.iload_n 3, 1) := by decide +kernel
theorem dX9_feed_23 : decode cX9_feed 23 = .ok (.iadd, 1) := by decide +kernel
theorem dX9_feed_24 : decode cX9_feed 24 = .ok (.sipush 400, 3) := by decide +kernel
theorem dX9_feed_27 : decode cX9_feed 27 = .ok (.if_icmp .le 11, 3) := by decide +kernel
theorem dX9_feed_30 : decode cX9_feed 30 = .ok (.aload_n 0, 1) := by decide +kernel
theorem dX9_feed_31 : decode cX9_feed 31 = .ok (.ldc2_w 169, 3) := by decide +kernel
theorem dX9_feed_34 : decode cX9_feed 34 = .ok (.invokevirtual 154, 3) := by decide +kernel
theorem dX9_feed_37 : decode cX9_feed 37 = .ok (.lreturn, 1) := by decide +kernel
theorem dX9_feed_38 : decode cX9_feed 38 = .ok (.iconst 0, 1) := by decide +kernel
theorem dX9_feed_39 : decode cX9_feed 39 = .ok (.istore 4, 2) := by decide +kernel
theorem dX9_feed_41 : decode cX9_feed 41 = .ok (.iload 4, 2) := by decide +kernel
theorem dX9_feed_43 : decode cX9_feed 43 = .ok (.iload_n 3, 1) := by decide +kernel
theorem dX9_feed_44 : decode cX9_feed 44 = .ok (.if_icmp .ge 40, 3) := by decide +kernel
theorem dX9_feed_47 : decode cX9_feed 47 = .ok (.aload_n 0, 1) := by decide +kernel
theorem dX9_feed_48 : decode cX9_feed 48 = .ok (.getfield 103, 3) := by decide +kernel
theorem dX9_feed_51 : decode cX9_feed 51 = .ok (.aload_n 0, 1) := by decide +kernel
theorem dX9_feed_52 : decode cX9_feed 52 = .ok (.getfield 217, 3) := by decide +kernel
theorem dX9_feed_55 : decode cX9_feed 55 = .ok (.lload_n 1, 1) := by decide +kernel
theorem dX9_feed_56 : decode cX9_feed 56 = .ok (.bipush 8, 2) := by decide +kernel
theorem dX9_feed_58 : decode cX9_feed 58 = .ok (.iload 4, 2) := by decide +kernel
theorem dX9_feed_60 : decode cX9_feed 60 = .ok (.imul, 1) := by decide +kernel
theorem dX9_feed_61 : decode cX9_feed 61 = .ok (.lshr, 1) := by decide +kernel
theorem dX9_feed_62 : decode cX9_feed 62 = .ok (.ldc2_w 220, 3) := by decide +kernel
theorem dX9_feed_65 : decode cX9_feed 65 = .ok (.land, 1) := by decide +kernel
theorem dX9_feed_66 : decode cX9_feed 66 = .ok (.l2i, 1) := by decide +kernel
theorem dX9_feed_67 : decode cX9_feed 67 = .ok (.iastore, 1) := by decide +kernel
theorem dX9_feed_68 : decode cX9_feed 68 = .ok (.aload_n 0, 1) := by decide +kernel
theorem dX9_feed_69 : decode cX9_feed 69 = .ok (.dup, 1) := by decide +kernel
theorem dX9_feed_70 : decode cX9_feed 70 = .ok (.getfield 217, 3) := by decide +kernel
theorem dX9_feed_73 : decode cX9_feed 73 = .ok (.iconst 1, 1) := by decide +kernel
theorem dX9_feed_74 : decode cX9_feed 74 = .ok (.iadd, 1) := by decide +kernel
