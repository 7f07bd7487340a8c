theorem dX6_init_0 : decode cX6_init 0 = .ok (.aload_n 0, 1) := by decide +kernel
theorem dX6_init_1 : decode cX6_init 1 = .ok (.invokespecial 1, 3) := by decide +kernel
theorem dX6_init_4 : decode cX6_init 4 = .ok (.aload_n 0, 1) := by decide +kernel
theorem dX6_init_5 : decode cX6_init 5 = .ok (.iconst 5, 1) := by decide +kernel
theorem dX6_init_6 : decode cX6_init 6 = .ok (.putfield 7, 3) := by decide +kernel
theorem dX6_init_9 : decode cX6_init 9 = .ok (.aload_n 0, 1) := by decide +kernel
theorem dX6_init_10 : decode cX6_init 10 = .ok (.bipush 8, 2) := by decide +kernel
theorem dX6_init_12 : decode cX6_init 12 = .ok (.newarray .int, 2) := by decide +kernel
theorem dX6_init_14 : decode cX6_init 14 = .ok (.putfield 13, 3) := by decide +kernel
theorem dX6_init_17 : decode cX6_init 17 = .ok (.aload_n 0, 1) := by decide +kernel
theorem dX6_init_18 : decode cX6_init 18 = .ok (.bipush 8, 2) := by decide +kernel
theorem dX6_init_20 : decode cX6_init 20 = .ok (.newarray .int, 2) := by decide +kernel
theorem dX6_init_22 : decode cX6_init 22 = .ok (.putfield 17, 3) := by decide +kernel
theorem dX6_init_25 : decode cX6_init 25 = .ok (.aload_n 0, 1) := by decide +kernel
theorem dX6_init_26 : decode cX6_init 26 = .ok (.bipush 8, 2) := by decide +kernel
theorem dX6_init_28 : decode cX6_init 28 = .ok (.newarray .boolean, 2) := by decide +kernel
theorem dX6_init_30 : decode cX6_init 30 = .ok (.putfield 20, 3) := by decide +kernel
theorem dX6_init_33 : decode cX6_init 33 = .ok (.aload_n 0, 1) := by decide +kernel
theorem dX6_init_34 : decode cX6_init 34 = .ok (.bipush 24, 2) := by decide +kernel
theorem dX6_init_36 : decode cX6_init 36 = .ok (.newarray .int, 2) := by decide +kernel
theorem dX6_init_38 : decode cX6_init 38 = .ok (.putfield 24, 3) := by decide +kernel
theorem dX6_init_41 : decode cX6_init 41 = .ok (.aload_n 0, 1) := by decide +kernel
theorem dX6_init_42 : decode cX6_init 42 = .ok (.bipush 24, 2) := by decide +kernel
theorem dX6_init_44 : decode cX6_init 44 = .ok (.newarray .int, 2) := by decide +kernel
theorem dX6_init_46 : decode cX6_init 46 = .ok (.putfield 27, 3) := by decide +kernel
theorem dX6_init_49 : decode cX6_init 49 = .ok (.aload_n 0, 1) := by decide +kernel
theorem dX6_init_50 : decode cX6_init 50 = .ok (.bipush 30, 2) := by decide +kernel
theorem dX6_init_52 : decode cX6_init 52 = .ok (.newarray .int, 2) := by decide +kernel
theorem dX6_init_54 : decode cX6_init 54 = .ok (.putfield 30, 3) := by decide +kernel
theorem dX6_init_57 : decode cX6_init 57 = .ok (.aload_n 0, 1) := by decide +kernel
theorem dX6_init_58 : decode cX6_init 58 = .ok (.bipush 30, 2) := by decide +kernel
theorem dX6_init_60 : decode cX6_init 60 = .ok (.newarray .int, 2) := by decide +kernel
theorem dX6_init_62 : decode cX6_init 62 = .ok (.putfield 33, 3) := by decide +kernel
theorem dX6_init_65 : decode cX6_init 65 = .ok (.aload_n 0, 1) := by decide +kernel
theorem dX6_init_66 : decode cX6_init 66 = .ok (.bipush 30, 2) := by decide +kernel
theorem dX6_init_68 : decode cX6_init 68 = .ok (.newarray .boolean, 2) := by decide +kernel
theorem dX6_init_70 : decode cX6_init 70 = .ok (.putfield 36, 3) := by decide +kernel
theorem dX6_init_73 : decode cX6_init 73 = .ok (.aload_n 0, 1) := by decide +kernel
theorem dX6_init_74 : decode cX6_init 74 = .ok (.bipush 30, 2) := by decide +kernel
theorem dX6_init_76 : decode cX6_init 76 = .ok (.newarray .int, 2) := by decide +kernel
theorem dX6_init_78 : decode cX6_init 78 = .ok (.putfield 39, 3) := by decide +kernel
theorem dX6_init_81 : decode cX6_init 81 = .ok (.aload_n 0, 1) := by decide +kernel
theorem dX6_init_82 : decode cX6_init 82 = .ok (.bipush 30, 2) := by decide +kernel
theorem dX6_init_84 : decode cX6_init 84 = .ok (.newarray .boolean, 2) := by decide +kernel
theorem dX6_init_86 : decode cX6_init 86 = .ok (.putfield 42, 3) := by decide +kernel
theorem dX6_init_89 : decode cX6_init 89 = .ok (.aload_n 0, 1) := by decide +kernel
theorem dX6_init_90 : decode cX6_init 90 = .ok (.bipush 30, 2) := by decide +kernel
theorem dX6_init_92 : decode cX6_init 92 = .ok (.newarray .int, 2) := by decide +kernel
theorem dX6_init_94 : decode cX6_init 94 = .ok (.putfield 45, 3) := by decide +kernel
theorem dX6_init_97 : decode cX6_init 97 = .ok (.aload_n 0, 1) := by decide +kernel
theorem dX6_init_98 : decode cX6_init 98 = .ok (.bipush 30, 2) := by decide +kernel
theorem dX6_init_100 : decode cX6_init 100 = .ok (.newarray .int, 2) := by decide +kernel
theorem dX6_init_102 : decode cX6_init 102 = .ok (.putfield 48, 3) := by decide +kernel
theorem dX6_init_105 : decode cX6_init 105 = .ok (.aload_n 0, 1) := by decide +kernel
theorem dX6_init_106 : decode cX6_init 106 = .ok (.bipush 30, 2) := by decide +kernel
theorem dX6_init_108 : decode cX6_init 108 = .ok (.newarray .int, 2) := by decide +kernel
theorem dX6_init_110 : decode cX6_init 110 = .ok (.putfield 51, 3) := by decide +kernel
theorem dX6_init_113 : decode cX6_init 113 = .ok (.aload_n 0, 1) := by decide +kernel
theorem dX6_init_114 : decode cX6_init 114 = .ok (.bipush 30, 2) := by decide +kernel
theorem dX6_init_116 : decode cX6_init 116 = .ok (.newarray .boolean, 2) := by decide +kernel
theorem dX6_init_118 : decode cX6_init 118 = .ok (.putfield 54, 3) := by decide +kernel
theorem dX6_init_121 : decode cX6_init 121 = .ok (.aload_n 0, 1) := by decide +kernel
theorem dX6_init_122 : decode cX6_init 122 = .ok (.bipush 30, 2) := by decide +kernel
theorem dX6_init_124 : decode cX6_init 124 = .ok (.newarray .boolean, 2) := by decide +kernel
theorem dX6_init_126 : decode cX6_init 126 = .ok (.putfield 57, 3) := by decide +kernel
theorem dX6_init_129 : decode cX6_init 129 = .ok (.aload_n 0, 1) := by decide +kernel
theorem dX6_init_130 : decode cX6_init 130 = .ok (.bipush 30, 2) := by decide +kernel
theorem dX6_init_132 : decode cX6_init 132 = .ok (.newarray .int, 2) := by decide +kernel
theorem dX6_init_134 : decode cX6_init 134 = .ok (.putfield 60, 3) := by decide +kernel
theorem dX6_init_137 : decode cX6_init 137 = .ok (.aload_n 0, 1) := by decide +kernel
theorem dX6_init_138 : decode cX6_init 138 = .ok (.bipush 30, 2) := by decide +kernel
theorem dX6_init_140 : decode cX6_init 140 = .ok (.newarray .int, 2) := by decide +kernel
theorem dX6_init_142 : decode cX6_init 142 = .ok (.putfield 63, 3) := by decide +kernel
theorem dX6_init_145 : decode cX6_init 145 = .ok (.aload_n 0, 1) := by decide +kernel
theorem dX6_init_146 : decode cX6_init 146 = .ok (.bipush 30, 2) := by decide +kernel
theorem dX6_init_148 : decode cX6_init 148 = .ok (.newarray .int, 2) := by decide +kernel
theorem dX6_init_150 : decode cX6_init 150 = .ok (.putfield 66, 3) := by decide +kernel
theorem dX6_init_153 : decode cX6_init 153 = .ok (.aload_n 0, 1) := by decide +kernel
theorem dX6_init_154 : decode cX6_init 154 = .ok (.bipush 30, 2) := by decide +kernel
theorem dX6_init_156 : decode cX6_init 156 = .ok (.newarray .int, 2) := by decide +kernel
theorem dX6_init_158 : decode cX6_init 158 = .ok (.putfield 69, 3) := by decide +kernel
theorem dX6_init_161 : decode cX6_init 161 = .ok (.aload_n 0, 1) := by decide +kernel
theorem dX6_init_162 : decode cX6_init 162 = .ok (.sipush 210, 3) := by decide +kernel
theorem dX6_init_165 : decode cX6_init 165 = .ok (.newarray .int, 2) := by decide +kernel
theorem dX6_init_167 : decode cX6_init 167 = .ok (.putfield 72, 3) := by decide +kernel
theorem dX6_init_170 : decode cX6_init 170 = .ok (.aload_n 0, 1) := by decide +kernel
theorem dX6_init_171 : decode cX6_init 171 = .ok (.bipush 12, 2) := by decide +kernel
theorem dX6_init_173 : decode cX6_init 173 = .ok (.newarray .int, 2) := by decide +kernel
theorem dX6_init_175 : decode cX6_init 175 = .ok (.putfield 75, 3) := by decide +kernel
theorem dX6_init_178 : decode cX6_init 178 = .ok (.aload_n 0, 1) := by decide +kernel
theorem dX6_init_179 : decode cX6_init 179 = .ok (.bipush 12, 2) := by decide +kernel
theorem dX6_init_181 : decode cX6_init 181 = .ok (.newarray .int, 2) := by decide +kernel
theorem dX6_init_183 : decode cX6_init 183 = .ok (.putfield 78, 3) := by decide +kernel
theorem dX6_init_186 : decode cX6_init 186 = .ok (.aload_n 0, 1) := by decide +kernel
theorem dX6_init_187 : decode cX6_init 187 = .ok (.bipush 12, 2) := by decide +kernel
theorem dX6_init_189 : decode cX6_init 189 = .ok (.newarray .int, 2) := by decide +kernel
theorem dX6_init_191 : decode cX6_init 191 = .ok (.putfield 81, 3) := by decide +kernel
theorem dX6_init_194 : decode cX6_init 194 = .ok (.aload_n 0, 1) := by decide +kernel
theorem dX6_init_195 : decode cX6_init 195 = .ok (.bipush 96, 2) := by decide +kernel
theorem dX6_init_197 : decode cX6_init 197 = .ok (.newarray .int, 2) := by decide +kernel
theorem dX6_init_199 : decode cX6_init 199 = .ok (.putfield 84, 3) := by decide +kernel
theorem dX6_init_202 : decode cX6_init 202 = .ok (.aload_n 0, 1) := by decide +kernel
theorem dX6_init_203 : decode cX6_init 203 = .ok (.bipush 12, 2) := by decide +kernel
theorem dX6_init_205 : decode cX6_init 205 = .ok (.newarray .int, 2) := by decide +kernel
theorem dX6_init_207 : decode cX6_init 207 = .ok (.putfield 87, 3) := by decide +kernel
theorem dX6_init_210 : decode cX6_init 210 = .ok (.aload_n 0, 1) := by decide +kernel
theorem dX6_init_211 : decode cX6_init 211 = .ok (.sipush 360, 3) := by decide +kernel
theorem dX6_init_214 : decode cX6_init 214 = .ok (.newarray .int, 2) := by decide +kernel
theorem dX6_init_216 : decode cX6_init 216 = .ok (.putfield 90, 3) := by decide +kernel
theorem dX6_init_219 : decode cX6_init 219 = .ok (.aload_n 0, 1) := by decide +kernel
theorem dX6_init_220 : decode cX6_init 220 = .ok (.iconst 2, 1) := by decide +kernel
theorem dX6_init_221 : decode cX6_init 221 = .ok (.newarray .int, 2) := by decide +kernel
theorem dX6_init_223 : decode cX6_init 223 = .ok (.putfield 93, 3) := by decide +kernel
theorem dX6_init_226 : decode cX6_init 226 = .ok (.aload_n 0, 1) := by decide +kernel
theorem dX6_init_227 : decode cX6_init 227 = .ok (.bipush 60, 2) := by decide +kernel
theorem dX6_init_229 : decode cX6_init 229 = .ok (.newarray .int, 2) := by decide +kernel
theorem dX6_init_231 : decode cX6_init 231 = .ok (.putfield 96, 3) := by decide +kernel
theorem dX6_init_234 : decode cX6_init 234 = .ok (.aload_n 0, 1) := by decide +kernel
theorem dX6_init_235 : decode cX6_init 235 = .ok (.bipush 16, 2) := by decide +kernel
theorem dX6_init_237 : decode cX6_init 237 = .ok (.newarray .int, 2) := by decide +kernel
theorem dX6_init_239 : decode cX6_init 239 = .ok (.putfield 99, 3) := by decide +kernel
theorem dX6_init_242 : decode cX6_init 242 = .ok (.aload_n 0, 1) := by decide +kernel
theorem dX6_init_243 : decode cX6_init 243 = .ok (.sipush 480, 3) := by decide +kernel
theorem dX6_init_246 : decode cX6_init 246 = .ok (.newarray .int, 2) := by decide +kernel
theorem dX6_init_248 : decode cX6_init 248 = .ok (.putfield 102, 3) := by decide +kernel
theorem dX6_init_251 : decode cX6_init 251 = .ok (.aload_n 0, 1) := by decide +kernel
theorem dX6_init_252 : decode cX6_init 252 = .ok (.bipush 16, 2) := by decide +kernel
theorem dX6_init_254 : decode cX6_init 254 = .ok (.newarray .int, 2) := by decide +kernel
theorem dX6_init_256 : decode cX6_init 256 = .ok (.putfield 105, 3) := by decide +kernel
theorem dX6_init_259 : decode cX6_init 259 = .ok (.iconst 0, 1) := by decide +kernel
theorem dX6_init_260 : decode cX6_init 260 = .ok (.istore_n 1, 1) := by decide +kernel
theorem dX6_init_261 : decode cX6_init 261 = .ok (.iload_n 1, 1) := by decide +kernel
theorem dX6_init_262 : decode cX6_init 262 = .ok (.bipush 8, 2) := by decide +kernel
theorem dX6_init_264 : decode cX6_init 264 = .ok (.if_icmp .ge 49, 3) := by decide +kernel
theorem dX6_init_267 : decode cX6_init 267 = .ok (.aload_n 0, 1) := by decide +kernel
theorem dX6_init_268 : decode cX6_init 268 = .ok (.getfield 13, 3) := by decide +kernel
theorem dX6_init_271 : decode cX6_init 271 = .ok (.iload_n 1, 1) := by decide +kernel
theorem dX6_init_272 : decode cX6_init 272 = .ok (.bipush 20, 2) := by decide +kernel
theorem dX6_init_274 : decode cX6_init 274 = .ok (.iastore, 1) := by decide +kernel
theorem dX6_init_275 : decode cX6_init 275 = .ok (.aload_n 0, 1) := by decide +kernel
theorem dX6_init_276 : decode cX6_init 276 = .ok (.getfield 17, 3) := by decide +kernel
theorem dX6_init_279 : decode cX6_init 279 = .ok (.iload_n 1, 1) := by decide +kernel
theorem dX6_init_280 : decode cX6_init 280 = .ok (.bipush 15, 2) := by decide +kernel
theorem dX6_init_282 : decode cX6_init 282 = .ok (.iastore, 1) := by decide +kernel
theorem dX6_init_283 : decode cX6_init 283 = .ok (.aload_n 0, 1) := by decide +kernel
theorem dX6_init_284 : decode cX6_init 284 = .ok (.getfield 105, 3) := by decide +kernel
theorem dX6_init_287 : decode cX6_init 287 = .ok (.iconst 2, 1) := by decide +kernel
theorem dX6_init_288 : decode cX6_init 288 = .ok (.iload_n 1, 1) := by decide +kernel
theorem dX6_init_289 : decode cX6_init 289 = .ok (.imul, 1) := by decide +kernel
theorem dX6_init_290 : decode cX6_init 290 = .ok (.sipush (-1000), 3) := by decide +kernel
theorem dX6_init_293 : decode cX6_init 293 = .ok (.iastore, 1) := by decide +kernel
theorem dX6_init_294 : decode cX6_init 294 = .ok (.aload_n 0, 1) := by decide +kernel
theorem dX6_init_295 : decode cX6_init 295 = .ok (.getfield 105, 3) := by decide +kernel
theorem dX6_init_298 : decode cX6_init 298 = .ok (.iconst 2, 1) := by decide +kernel
theorem dX6_init_299 : decode cX6_init 299 = .ok (.iload_n 1, 1) := by decide +kernel
theorem dX6_init_300 : decode cX6_init 300 = .ok (.imul, 1) := by decide +kernel
theorem dX6_init_301 : decode cX6_init 301 = .ok (.iconst 1, 1) := by decide +kernel
theorem dX6_init_302 : decode cX6_init 302 = .ok (.iadd, 1) := by decide +kernel
theorem dX6_init_303 : decode cX6_init 303 = .ok (.sipush (-1000), 3) := by decide +kernel
theorem dX6_init_306 : decode cX6_init 306 = .ok (.iastore, 1) := by decide +kernel
theorem dX6_init_307 : decode cX6_init 307 = .ok (.iinc 1 1, 3) := by decide +kernel
theorem dX6_init_310 : decode cX6_init 310 = .ok (.goto (-49), 3) := by decide +kernel
theorem dX6_init_313 : decode cX6_init 313 = .ok (.return_, 1) := by decide +kernel
theorem dX6_isIn_0 : decode cX6_isIn 0 = .ok (.iload_n 0, 1) := by decide +kernel
theorem dX6_isIn_1 : decode cX6_isIn 1 = .ok (.iload_n 1, 1) := by decide +kernel
theorem dX6_isIn_2 : decode cX6_isIn 2 = .ok (.if_icmp .lt 12, 3) := by decide +kernel
theorem dX6_isIn_5 : decode cX6_isIn 5 = .ok (.iload_n 0, 1) := by decide +kernel
theorem dX6_isIn_6 : decode cX6_isIn 6 = .ok (.iload_n 2, 1) := by decide +kernel
theorem dX6_isIn_7 : decode cX6_isIn 7 = .ok (.if_icmp .gt 7, 3) := by decide +kernel
theorem dX6_isIn_10 : decode cX6_isIn 10 = .ok (.iconst 1, 1) := by decide +kernel
theorem dX6_isIn_11 : decode cX6_isIn 11 = .ok (.goto 4, 3) := by decide +kernel
theorem dX6_isIn_14 : decode cX6_isIn 14 = .ok (.iconst 0, 1) := by decide +kernel
theorem dX6_isIn_15 : decode cX6_isIn 15 = .ok (.ireturn, 1) := by decide +kernel
theorem dX6_section_0 : decode cX6_section 0 = .ok (.iload_n 1, 1) := by decide +kernel
theorem dX6_section_1 : decode cX6_section 1 = .ok (.iconst 0, 1) := by decide +kernel
theorem dX6_section_2 : decode cX6_section 2 = .ok (.bipush 7, 2) := by decide +kernel
theorem dX6_section_4 : decode cX6_section 4 = .ok (.invokestatic 108, 3) := by decide +kernel
theorem dX6_section_7 : decode cX6_section 7 = .ok (.ifCond .eq 23, 3) := by decide +kernel
theorem dX6_section_10 : decode cX6_section 10 = .ok (.iload_n 2, 1) := by decide +kernel
theorem dX6_section_11 : decode cX6_section 11 = .ok (.iconst 1, 1) := by decide +kernel
theorem dX6_section_12 : decode cX6_section 12 = .ok (.bipush 60, 2) := by decide +kernel
theorem dX6_section_14 : decode cX6_section 14 = .ok (.invokestatic 108, 3) := by decide +kernel
theorem dX6_section_17 : decode cX6_section 17 = .ok (.ifCond .eq 13, 3) := by decide +kernel
theorem dX6_section_20 : decode cX6_section 20 = .ok (.iload_n 3, 1) := by decide +kernel
theorem dX6_section_21 : decode cX6_section 21 = .ok (.iconst 1, 1) := by decide +kernel
theorem dX6_section_22 : decode cX6_section 22 = .ok (.bipush 40, 2) := by decide +kernel
theorem dX6_section_24 : decode cX6_section 24 = .ok (.invokestatic 108, 3) := by decide +kernel
theorem dX6_section_27 : decode cX6_section 27 = .ok (.ifCond .ne 5, 3) := by decide +kernel
theorem dX6_section_30 : decode cX6_section 30 = .ok (.iconst (-1), 1) := by decide +kernel
theorem dX6_section_31 : decode cX6_section 31 = .ok (.ireturn, 1) := by decide +kernel
theorem dX6_section_32 : decode cX6_section 32 = .ok (.aload_n 0, 1) := by decide +kernel
theorem dX6_section_33 : decode cX6_section 33 = .ok (.getfield 112, 3) := by decide +kernel
theorem dX6_section_36 : decode cX6_section 36 = .ok (.ifCond .le 6, 3) := by decide +kernel
theorem dX6_section_39 : decode cX6_section 39 = .ok (.bipush (-2), 2) := by decide +kernel
theorem dX6_section_41 : decode cX6_section 41 = .ok (.ireturn, 1) := by decide +kernel
theorem dX6_section_42 : decode cX6_section 42 = .ok (.aload_n 0, 1) := by decide +kernel
theorem dX6_section_43 : decode cX6_section 43 = .ok (.getfield 13, 3) := by decide +kernel
theorem dX6_section_46 : decode cX6_section 46 = .ok (.iload_n 1, 1) := by decide +kernel
theorem dX6_section_47 : decode cX6_section 47 = .ok (.iload_n 2, 1) := by decide +kernel
theorem dX6_section_48 : decode cX6_section 48 = .ok (.iastore, 1) := by decide +kernel
theorem dX6_section_49 : decode cX6_section 49 = .ok (.aload_n 0, 1) := by decide +kernel
theorem dX6_section_50 : decode cX6_section 50 = .ok (.getfield 17, 3) := by decide +kernel
theorem dX6_section_53 : decode cX6_section 53 = .ok (.iload_n 1, 1) := by decide +kernel
theorem dX6_section_54 : decode cX6_section 54 = .ok (.iload_n 3, 1) := by decide +kernel
theorem dX6_section_55 : decode cX6_section 55 = .ok (.iastore, 1) := by decide +kernel
theorem dX6_section_56 : decode cX6_section 56 = .ok (.aload_n 0, 1) := by decide +kernel
theorem dX6_section_57 : decode cX6_section 57 = .ok (.getfield 20, 3) := by decide +kernel
theorem dX6_section_60 : decode cX6_section 60 = .ok (.iload_n 1, 1) := by decide +kernel
theorem dX6_section_61 : decode cX6_section 61 = .ok (.iload 4, 2) := by decide +kernel
theorem dX6_section_63 : decode cX6_section 63 = .ok (.bastore, 1) := by decide +kernel
theorem dX6_section_64 : decode cX6_section 64 = .ok (.iconst 0, 1) := by decide +kernel
theorem dX6_section_65 : decode cX6_section 65 = .ok (.ireturn, 1) := by decide +kernel
theorem dX6_tide_0 : decode cX6_tide 0 = .ok (.iload_n 1, 1) := by decide +kernel
theorem dX6_tide_1 : decode cX6_tide 1 = .ok (.iconst 0, 1) := by decide +kernel
theorem dX6_tide_2 : decode cX6_tide 2 = .ok (.bipush 23, 2) := by decide +kernel
theorem dX6_tide_4 : decode cX6_tide 4 = .ok (.invokestatic 108, 3) := by decide +kernel
theorem dX6_tide_7 : decode cX6_tide 7 = .ok (.ifCond .eq 13, 3) := by decide +kernel
theorem dX6_tide_10 : decode cX6_tide 10 = .ok (.iload_n 2, 1) := by decide +kernel
theorem dX6_tide_11 : decode cX6_tide 11 = .ok (.iconst 0, 1) := by decide +kernel
theorem dX6_tide_12 : decode cX6_tide 12 = .ok (.bipush 9, 2) := by decide +kernel
theorem dX6_tide_14 : decode cX6_tide 14 = .ok (.invokestatic 108, 3) := by decide +kernel
theorem dX6_tide_17 : decode cX6_tide 17 = .ok (.ifCond .ne 5, 3) := by decide +kernel
theorem dX6_tide_20 : decode cX6_tide 20 = .ok (.iconst (-1), 1) := by decide +kernel
theorem dX6_tide_21 : decode cX6_tide 21 = .ok (.ireturn, 1) := by decide +kernel
theorem dX6_tide_22 : decode cX6_tide 22 = .ok (.aload_n 0, 1) := by decide +kernel
theorem dX6_tide_23 : decode cX6_tide 23 = .ok (.getfield 24, 3) := by decide +kernel
theorem dX6_tide_26 : decode cX6_tide 26 = .ok (.iload_n 1, 1) := by decide +kernel
theorem dX6_tide_27 : decode cX6_tide 27 = .ok (.iaload, 1) := by decide +kernel
theorem dX6_tide_28 : decode cX6_tide 28 = .ok (.istore_n 3, 1) := by decide +kernel
theorem dX6_tide_29 : decode cX6_tide 29 = .ok (.aload_n 0, 1) := by decide +kernel
theorem dX6_tide_30 : decode cX6_tide 30 = .ok (.getfield 24, 3) := by decide +kernel
theorem dX6_tide_33 : decode cX6_tide 33 = .ok (.iload_n 1, 1) := by decide +kernel
theorem dX6_tide_34 : decode cX6_tide 34 = .ok (.iload_n 2, 1) := by decide +kernel
theorem dX6_tide_35 : decode cX6_tide 35 = .ok (.iastore, 1) := by decide +kernel
theorem dX6_tide_36 : decode cX6_tide 36 = .ok (.iload_n 3, 1) := by decide +kernel
theorem dX6_tide_37 : decode cX6_tide 37 = .ok (.ireturn, 1) := by decide +kernel
theorem dX6_wind_0 : decode cX6_wind 0 = .ok (.iload_n 1, 1) := by decide +kernel
theorem dX6_wind_1 : decode cX6_wind 1 = .ok (.iconst 0, 1) := by decide +kernel
theorem dX6_wind_2 : decode cX6_wind 2 = .ok (.bipush 23, 2) := by decide +kernel
theorem dX6_wind_4 : decode cX6_wind 4 = .ok (.invokestatic 108, 3) := by decide +kernel
theorem dX6_wind_7 : decode cX6_wind 7 = .ok (.ifCond .eq 13, 3) := by decide +kernel
theorem dX6_wind_10 : decode cX6_wind 10 = .ok (.iload_n 2, 1) := by decide +kernel
theorem dX6_wind_11 : decode cX6_wind 11 = .ok (.iconst (-1), 1) := by decide +kernel
theorem dX6_wind_12 : decode cX6_wind 12 = .ok (.bipush 12, 2) := by decide +kernel
theorem dX6_wind_14 : decode cX6_wind 14 = .ok (.invokestatic 108, 3) := by decide +kernel
theorem dX6_wind_17 : decode cX6_wind 17 = .ok (.ifCond .ne 6, 3) := by decide +kernel
theorem dX6_wind_20 : decode cX6_wind 20 = .ok (.bipush (-9), 2) := by decide +kernel
theorem dX6_wind_22 : decode cX6_wind 22 = .ok (.ireturn, 1) := by decide +kernel
theorem dX6_wind_23 : decode cX6_wind 23 = .ok (.aload_n 0, 1) := by decide +kernel
theorem dX6_wind_24 : decode cX6_wind 24 = .ok (.getfield 27, 3) := by decide +kernel
theorem dX6_wind_27 : decode cX6_wind 27 = .ok (.iload_n 1, 1) := by decide +kernel
theorem dX6_wind_28 : decode cX6_wind 28 = .ok (.iaload, 1) := by decide +kernel
theorem dX6_wind_29 : decode cX6_wind 29 = .ok (.istore_n 3, 1) := by decide +kernel
theorem dX6_wind_30 : decode cX6_wind 30 = .ok (.aload_n 0, 1) := by decide +kernel
theorem dX6_wind_31 : decode cX6_wind 31 = .ok (.getfield 27, 3) := by decide +kernel
theorem dX6_wind_34 : decode cX6_wind 34 = .ok (.iload_n 1, 1) := by decide +kernel
theorem dX6_wind_35 : decode cX6_wind 35 = .ok (.iload_n 2, 1) := by decide +kernel
theorem dX6_wind_36 : decode cX6_wind 36 = .ok (.iastore, 1) := by decide +kernel
theorem dX6_wind_37 : decode cX6_wind 37 = .ok (.iload_n 3, 1) := by decide +kernel
theorem dX6_wind_38 : decode cX6_wind 38 = .ok (.ireturn, 1) := by decide +kernel
theorem dX6_rule_0 : decode cX6_rule 0 = .ok (.iload_n 1, 1) := by decide +kernel
theorem dX6_rule_1 : decode cX6_rule 1 = .ok (.iconst 0, 1) := by decide +kernel
theorem dX6_rule_2 : decode cX6_rule 2 = .ok (.iconst 1, 1) := by decide +kernel
theorem dX6_rule_3 : decode cX6_rule 3 = .ok (.invokestatic 108, 3) := by decide +kernel
theorem dX6_rule_6 : decode cX6_rule 6 = .ok (.ifCond .eq 21, 3) := by decide +kernel
theorem dX6_rule_9 : decode cX6_rule 9 = .ok (.iload_n 2, 1) := by decide +kernel
theorem dX6_rule_10 : decode cX6_rule 10 = .ok (.iconst 0, 1) := by decide +kernel
theorem dX6_rule_11 : decode cX6_rule 11 = .ok (.iload_n 1, 1) := by decide +kernel
theorem dX6_rule_12 : decode cX6_rule 12 = .ok (.ifCond .ne 8, 3) := by decide +kernel
theorem dX6_rule_15 : decode cX6_rule 15 = .ok (.bipush 60, 2) := by decide +kernel
theorem dX6_rule_17 : decode cX6_rule 17 = .ok (.goto 4, 3) := by decide +kernel
theorem dX6_rule_20 : decode cX6_rule 20 = .ok (.iconst 1, 1) := by decide +kernel
theorem dX6_rule_21 : decode cX6_rule 21 = .ok (.invokestatic 108, 3) := by decide +kernel
theorem dX6_rule_24 : decode cX6_rule 24 = .ok (.ifCond .ne 5, 3) := by decide +kernel
theorem dX6_rule_27 : decode cX6_rule 27 = .ok (.iconst (-1), 1) := by decide +kernel
theorem dX6_rule_28 : decode cX6_rule 28 = .ok (.ireturn, 1) := by decide +kernel
theorem dX6_rule_29 : decode cX6_rule 29 = .ok (.iload_n 1, 1) := by decide +kernel
theorem dX6_rule_30 : decode cX6_rule 30 = .ok (.ifCond .ne 10, 3) := by decide +kernel
theorem dX6_rule_33 : decode cX6_rule 33 = .ok (.aload_n 0, 1) := by decide +kernel
theorem dX6_rule_34 : decode cX6_rule 34 = .ok (.getfield 7, 3) := by decide +kernel
theorem dX6_rule_37 : decode cX6_rule 37 = .ok (.goto 7, 3) := by decide +kernel
theorem dX6_rule_40 : decode cX6_rule 40 = .ok (.aload_n 0, 1) := by decide +kernel
theorem dX6_rule_41 : decode cX6_rule 41 = .ok (.getfield 115, 3) := by decide +kernel
theorem dX6_rule_44 : decode cX6_rule 44 = .ok (.istore_n 3, 1) := by decide +kernel
theorem dX6_rule_45 : decode cX6_rule 45 = .ok (.aload_n 0, 1) := by decide +kernel
theorem dX6_rule_46 : decode cX6_rule 46 = .ok (.iload_n 1, 1) := by decide +kernel
theorem dX6_rule_47 : decode cX6_rule 47 = .ok (.ifCond .ne 7, 3) := by decide +kernel
theorem dX6_rule_50 : decode cX6_rule 50 = .ok (.iload_n 2, 1) := by decide +kernel
theorem dX6_rule_51 : decode cX6_rule 51 = .ok (.goto 7, 3) := by decide +kernel
theorem dX6_rule_54 : decode cX6_rule 54 = .ok (.aload_n 0, 1) := by decide +kernel
theorem dX6_rule_55 : decode cX6_rule 55 = .ok (.getfield 7, 3) := by decide +kernel
theorem dX6_rule_58 : decode cX6_rule 58 = .ok (.putfield 7, 3) := by decide +kernel
theorem dX6_rule_61 : decode cX6_rule 61 = .ok (.aload_n 0, 1) := by decide +kernel
theorem dX6_rule_62 : decode cX6_rule 62 = .ok (.iload_n 1, 1) := by decide +kernel
theorem dX6_rule_63 : decode cX6_rule 63 = .ok (.iconst 1, 1) := by decide +kernel
theorem dX6_rule_64 : decode cX6_rule 64 = .ok (.if_icmp .ne 7, 3) := by decide +kernel
theorem dX6_rule_67 : decode cX6_rule 67 = .ok (.iload_n 2, 1) := by decide +kernel
theorem dX6_rule_68 : decode cX6_rule 68 = .ok (.goto 7, 3) := by decide +kernel
theorem dX6_rule_71 : decode cX6_rule 71 = .ok (.aload_n 0, 1) := by decide +kernel
theorem dX6_rule_72 : decode cX6_rule 72 = .ok (.getfield 115, 3) := by decide +kernel
theorem dX6_rule_75 : decode cX6_rule 75 = .ok (.putfield 115, 3) := by decide +kernel
theorem dX6_rule_78 : decode cX6_rule 78 = .ok (.iload_n 3, 1) := by decide +kernel
theorem dX6_rule_79 : decode cX6_rule 79 = .ok (.ireturn, 1) := by decide +kernel
theorem dX6_ship_0 : decode cX6_ship 0 = .ok (.iload_n 1, 1) := by decide +kernel
theorem dX6_ship_1 : decode cX6_ship 1 = .ok (.iconst 0, 1) := by decide +kernel
theorem dX6_ship_2 : decode cX6_ship 2 = .ok (.iconst 1, 1) := by decide +kernel
theorem dX6_ship_3 : decode cX6_ship 3 = .ok (.invokestatic 108, 3) := by decide +kernel
theorem dX6_ship_6 : decode cX6_ship 6 = .ok (.ifCond .eq 36, 3) := by decide +kernel
theorem dX6_ship_9 : decode cX6_ship 9 = .ok (.iload_n 2, 1) := by decide +kernel
theorem dX6_ship_10 : decode cX6_ship 10 = .ok (.iconst 0, 1) := by decide +kernel
theorem dX6_ship_11 : decode cX6_ship 11 = .ok (.sipush 9999, 3) := by decide +kernel
theorem dX6_ship_14 : decode cX6_ship 14 = .ok (.invokestatic 108, 3) := by decide +kernel
theorem dX6_ship_17 : decode cX6_ship 17 = .ok (.ifCond .eq 25, 3) := by decide +kernel
theorem dX6_ship_20 : decode cX6_ship 20 = .ok (.iload 4, 2) := by decide +kernel
theorem dX6_ship_22 : decode cX6_ship 22 = .ok (.iconst 1, 1) := by decide +kernel
theorem dX6_ship_23 : decode cX6_ship 23 = .ok (.bipush 45, 2) := by decide +kernel
theorem dX6_ship_25 : decode cX6_ship 25 = .ok (.invokestatic 108, 3) := by decide +kernel
theorem dX6_ship_28 : decode cX6_ship 28 = .ok (.ifCond .eq 14, 3) := by decide +kernel
theorem dX6_ship_31 : decode cX6_ship 31 = .ok (.iload 6, 2) := by decide +kernel
theorem dX6_ship_33 : decode cX6_ship 33 = .ok (.iconst 1, 1) := by decide +kernel
theorem dX6_ship_34 : decode cX6_ship 34 = .ok (.ldc 118, 2) := by decide +kernel
theorem dX6_ship_36 : decode cX6_ship 36 = .ok (.invokestatic 108, 3) := by decide +kernel
theorem dX6_ship_39 : decode cX6_ship 39 = .ok (.ifCond .ne 5, 3) := by decide +kernel
theorem dX6_ship_42 : decode cX6_ship 42 = .ok (.iconst (-1), 1) := by decide +kernel
theorem dX6_ship_43 : decode cX6_ship 43 = .ok (.ireturn, 1) := by decide +kernel
theorem dX6_ship_44 : decode cX6_ship 44 = .ok (.iload_n 2, 1) := by decide +kernel
theorem dX6_ship_45 : decode cX6_ship 45 = .ok (.aload_n 0, 1) := by decide +kernel
theorem dX6_ship_46 : decode cX6_ship 46 = .ok (.getfield 112, 3) := by decide +kernel
theorem dX6_ship_49 : decode cX6_ship 49 = .ok (.if_icmp .ge 6, 3) := by decide +kernel
theorem dX6_ship_52 : decode cX6_ship 52 = .ok (.bipush (-2), 2) := by decide +kernel
theorem dX6_ship_54 : decode cX6_ship 54 = .ok (.ireturn, 1) := by decide +kernel
theorem dX6_ship_55 : decode cX6_ship 55 = .ok (.aload_n 0, 1) := by decide +kernel
theorem dX6_ship_56 : decode cX6_ship 56 = .ok (.getfield 119, 3) := by decide +kernel
theorem dX6_ship_59 : decode cX6_ship 59 = .ok (.bipush 30, 2) := by decide +kernel
theorem dX6_ship_61 : decode cX6_ship 61 = .ok (.if_icmp .ne 6, 3) := by decide +kernel
theorem dX6_ship_64 : decode cX6_ship 64 = .ok (.bipush (-3), 2) := by decide +kernel
theorem dX6_ship_66 : decode cX6_ship 66 = .ok (.ireturn, 1) := by decide +kernel
theorem dX6_ship_67 : decode cX6_ship 67 = .ok (.aload_n 0, 1) := by decide +kernel
theorem dX6_ship_68 : decode cX6_ship 68 = .ok (.getfield 30, 3) := by decide +kernel
theorem dX6_ship_71 : decode cX6_ship 71 = .ok (.aload_n 0, 1) := by decide +kernel
theorem dX6_ship_72 : decode cX6_ship 72 = .ok (.getfield 119, 3) := by decide +kernel
theorem dX6_ship_75 : decode cX6_ship 75 = .ok (.iload_n 1, 1) := by decide +kernel
theorem dX6_ship_76 : decode cX6_ship 76 = .ok (.iastore, 1) := by decide +kernel
theorem dX6_ship_77 : decode cX6_ship 77 = .ok (.aload_n 0, 1) := by decide +kernel
theorem dX6_ship_78 : decode cX6_ship 78 = .ok (.getfield 33, 3) := by decide +kernel
theorem dX6_ship_81 : decode cX6_ship 81 = .ok (.aload_n 0, 1) := by decide +kernel
theorem dX6_ship_82 : decode cX6_ship 82 = .ok (.getfield 119, 3) := by decide +kernel
theorem dX6_ship_85 : decode cX6_ship 85 = .ok (.iload_n 2, 1) := by decide +kernel
theorem dX6_ship_86 : decode cX6_ship 86 = .ok (.iastore, 1) := by decide +kernel
theorem dX6_ship_87 : decode cX6_ship 87 = .ok (.aload_n 0, 1) := by decide +kernel
theorem dX6_ship_88 : decode cX6_ship 88 = .ok (.getfield 36, 3) := by decide +kernel
theorem dX6_ship_91 : decode cX6_ship 91 = .ok (.aload_n 0, 1) := by decide +kernel
theorem dX6_ship_92 : decode cX6_ship 92 = .ok (.getfield 119, 3) := by decide +kernel
theorem dX6_ship_95 : decode cX6_ship 95 = .ok (.iload_n 3, 1) := by decide +kernel
theorem dX6_ship_96 : decode cX6_ship 96 = .ok (.bastore, 1) := by decide +kernel
theorem dX6_ship_97 : decode cX6_ship 97 = .ok (.aload_n 0, 1) := by decide +kernel
theorem dX6_ship_98 : decode cX6_ship 98 = .ok (.getfield 39, 3) := by decide +kernel
theorem dX6_ship_101 : decode cX6_ship 101 = .ok (.aload_n 0, 1) := by decide +kernel
theorem dX6_ship_102 : decode cX6_ship 102 = .ok (.getfield 119, 3) := by decide +kernel
theorem dX6_ship_105 : decode cX6_ship 105 = .ok (.iload 4, 2) := by decide +kernel
theorem dX6_ship_107 : decode cX6_ship 107 = .ok (.iastore, 1) := by decide +kernel
theorem dX6_ship_108 : decode cX6_ship 108 = .ok (.aload_n 0, 1) := by decide +kernel
theorem dX6_ship_109 : decode cX6_ship 109 = .ok (.getfield 42, 3) := by decide +kernel
theorem dX6_ship_112 : decode cX6_ship 112 = .ok (.aload_n 0, 1) := by decide +kernel
theorem dX6_ship_113 : decode cX6_ship 113 = .ok (.getfield 119, 3) := by decide +kernel
theorem dX6_ship_116 : decode cX6_ship 116 = .ok (.iload 5, 2) := by decide +kernel
theorem dX6_ship_118 : decode cX6_ship 118 = .ok (.bastore, 1) := by decide +kernel
theorem dX6_ship_119 : decode cX6_ship 119 = .ok (.aload_n 0, 1) := by decide +kernel
theorem dX6_ship_120 : decode cX6_ship 120 = .ok (.getfield 45, 3) := by decide +kernel
theorem dX6_ship_123 : decode cX6_ship 123 = .ok (.aload_n 0, 1) := by decide +kernel
theorem dX6_ship_124 : decode cX6_ship 124 = .ok (.getfield 119, 3) := by decide +kernel
theorem dX6_ship_127 : decode cX6_ship 127 = .ok (.iload 6, 2) := by decide +kernel
theorem dX6_ship_129 : decode cX6_ship 129 = .ok (.iastore, 1) := by decide +kernel
theorem dX6_ship_130 : decode cX6_ship 130 = .ok (.aload_n 0, 1) := by decide +kernel
theorem dX6_ship_131 : decode cX6_ship 131 = .ok (.getfield 48, 3) := by decide +kernel
theorem dX6_ship_134 : decode cX6_ship 134 = .ok (.aload_n 0, 1) := by decide +kernel
theorem dX6_ship_135 : decode cX6_ship 135 = .ok (.getfield 119, 3) := by decide +kernel
theorem dX6_ship_138 : decode cX6_ship 138 = .ok (.iconst (-1), 1) := by decide +kernel
theorem dX6_ship_139 : decode cX6_ship 139 = .ok (.iastore, 1) := by decide +kernel
theorem dX6_ship_140 : decode cX6_ship 140 = .ok (.aload_n 0, 1) := by decide +kernel
theorem dX6_ship_141 : decode cX6_ship 141 = .ok (.getfield 60, 3) := by decide +kernel
theorem dX6_ship_144 : decode cX6_ship 144 = .ok (.aload_n 0, 1) := by decide +kernel
theorem dX6_ship_145 : decode cX6_ship 145 = .ok (.getfield 119, 3) := by decide +kernel
theorem dX6_ship_148 : decode cX6_ship 148 = .ok (.bipush (-4), 2) := by decide +kernel
theorem dX6_ship_150 : decode cX6_ship 150 = .ok (.iastore, 1) := by decide +kernel
theorem dX6_ship_151 : decode cX6_ship 151 = .ok (.aload_n 0, 1) := by decide +kernel
theorem dX6_ship_152 : decode cX6_ship 152 = .ok (.getfield 63, 3) := by decide +kernel
theorem dX6_ship_155 : decode cX6_ship 155 = .ok (.aload_n 0, 1) := by decide +kernel
theorem dX6_ship_156 : decode cX6_ship 156 = .ok (.getfield 119, 3) := by decide +kernel
theorem dX6_ship_159 : decode cX6_ship 159 = .ok (.bipush (-4), 2) := by decide +kernel
theorem dX6_ship_161 : decode cX6_ship 161 = .ok (.iastore, 1) := by decide +kernel
theorem dX6_ship_162 : decode cX6_ship 162 = .ok (.aload_n 0, 1) := by decide +kernel
theorem dX6_ship_163 : decode cX6_ship 163 = .ok (.getfield 69, 3) := by decide +kernel
theorem dX6_ship_166 : decode cX6_ship 166 = .ok (.aload_n 0, 1) := by decide +kernel
theorem dX6_ship_167 : decode cX6_ship 167 = .ok (.getfield 119, 3) := by decide +kernel
theorem dX6_ship_170 : decode cX6_ship 170 = .ok (.bipush (-4), 2) := by decide +kernel
theorem dX6_ship_172 : decode cX6_ship 172 = .ok (.iastore, 1) := by decide +kernel
theorem dX6_ship_173 : decode cX6_ship 173 = .ok (.aload_n 0, 1) := by decide +kernel
theorem dX6_ship_174 : decode cX6_ship 174 = .ok (.dup, 1) := by decide +kernel
theorem dX6_ship_175 : decode cX6_ship 175 = .ok (.getfield 119, 3) := by decide +kernel
theorem dX6_ship_178 : decode cX6_ship 178 = .ok (.iconst 1, 1) := by decide +kernel
theorem dX6_ship_179 : decode cX6_ship 179 = .ok (.iadd, 1) := by decide +kernel
theorem dX6_ship_180 : decode cX6_ship 180 = .ok (.putfield 119, 3) := by decide +kernel
theorem dX6_ship_183 : decode cX6_ship 183 = .ok (.aload_n 0, 1) := by decide +kernel
theorem dX6_ship_184 : decode cX6_ship 184 = .ok (.getfield 119, 3) := by decide +kernel
theorem dX6_ship_187 : decode cX6_ship 187 = .ok (.iconst 1, 1) := by decide +kernel
theorem dX6_ship_188 : decode cX6_ship 188 = .ok (.isub, 1) := by decide +kernel
theorem dX6_ship_189 : decode cX6_ship 189 = .ok (.ireturn, 1) := by decide +kernel
theorem dX6_convoy_0 : decode cX6_convoy 0 = .ok (.iload_n 1, 1) := by decide +kernel
theorem dX6_convoy_1 : decode cX6_convoy 1 = .ok (.iconst 0, 1) := by decide +kernel
theorem dX6_convoy_2 : decode cX6_convoy 2 = .ok (.iconst 1, 1) := by decide +kernel
theorem dX6_convoy_3 : decode cX6_convoy 3 = .ok (.invokestatic 108, 3) := by decide +kernel
theorem dX6_convoy_6 : decode cX6_convoy 6 = .ok (.ifCond .eq 14, 3) := by decide +kernel
theorem dX6_convoy_9 : decode cX6_convoy 9 = .ok (.iload_n 2, 1) := by decide +kernel
theorem dX6_convoy_10 : decode cX6_convoy 10 = .ok (.iconst 0, 1) := by decide +kernel
theorem dX6_convoy_11 : decode cX6_convoy 11 = .ok (.sipush 9999, 3) := by decide +kernel
theorem dX6_convoy_14 : decode cX6_convoy 14 = .ok (.invokestatic 108, 3) := by decide +kernel
theorem dX6_convoy_17 : decode cX6_convoy 17 = .ok (.ifCond .ne 5, 3) := by decide +kernel
theorem dX6_convoy_20 : decode cX6_convoy 20 = .ok (.iconst (-1), 1) := by decide +kernel
theorem dX6_convoy_21 : decode cX6_convoy 21 = .ok (.ireturn, 1) := by decide +kernel
theorem dX6_convoy_22 : decode cX6_convoy 22 = .ok (.iload_n 2, 1) := by decide +kernel
theorem dX6_convoy_23 : decode cX6_convoy 23 = .ok (.aload_n 0, 1) := by decide +kernel
theorem dX6_convoy_24 : decode cX6_convoy 24 = .ok (.getfield 112, 3) := by decide +kernel
theorem dX6_convoy_27 : decode cX6_convoy 27 = .ok (.if_icmp .gt 6, 3) := by decide +kernel
theorem dX6_convoy_30 : decode cX6_convoy 30 = .ok (.bipush (-2), 2) := by decide +kernel
theorem dX6_convoy_32 : decode cX6_convoy 32 = .ok (.ireturn, 1) := by decide +kernel
theorem dX6_convoy_33 : decode cX6_convoy 33 = .ok (.aload_n 0, 1) := by decide +kernel
theorem dX6_convoy_34 : decode cX6_convoy 34 = .ok (.getfield 122, 3) := by decide +kernel
theorem dX6_convoy_37 : decode cX6_convoy 37 = .ok (.bipush 12, 2) := by decide +kernel
theorem dX6_convoy_39 : decode cX6_convoy 39 = .ok (.if_icmp .ne 6, 3) := by decide +kernel
theorem dX6_convoy_42 : decode cX6_convoy 42 = .ok (.bipush (-3), 2) := by decide +kernel
theorem dX6_convoy_44 : decode cX6_convoy 44 = .ok (.ireturn, 1) := by decide +kernel
theorem dX6_convoy_45 : decode cX6_convoy 45 = .ok (.aload_n 0, 1) := by decide +kernel
theorem dX6_convoy_46 : decode cX6_convoy 46 = .ok (.getfield 75, 3) := by decide +kernel
theorem dX6_convoy_49 : decode cX6_convoy 49 = .ok (.aload_n 0, 1) := by decide +kernel
theorem dX6_convoy_50 : decode cX6_convoy 50 = .ok (.getfield 122, 3) := by decide +kernel
theorem dX6_convoy_53 : decode cX6_convoy 53 = .ok (.iload_n 1, 1) := by decide +kernel
theorem dX6_convoy_54 : decode cX6_convoy 54 = .ok (.iastore, 1) := by decide +kernel
theorem dX6_convoy_55 : decode cX6_convoy 55 = .ok (.aload_n 0, 1) := by decide +kernel
theorem dX6_convoy_56 : decode cX6_convoy 56 = .ok (.getfield 78, 3) := by decide +kernel
theorem dX6_convoy_59 : decode cX6_convoy 59 = .ok (.aload_n 0, 1) := by decide +kernel
theorem dX6_convoy_60 : decode cX6_convoy 60 = .ok (.getfield 122, 3) := by decide +kernel
theorem dX6_convoy_63 : decode cX6_convoy 63 = .ok (.iload_n 2, 1) := by decide +kernel
theorem dX6_convoy_64 : decode cX6_convoy 64 = .ok (.iastore, 1) := by decide +kernel
theorem dX6_convoy_65 : decode cX6_convoy 65 = .ok (.aload_n 0, 1) := by decide +kernel
theorem dX6_convoy_66 : decode cX6_convoy 66 = .ok (.dup, 1) := by decide +kernel
theorem dX6_convoy_67 : decode cX6_convoy 67 = .ok (.getfield 122, 3) := by decide +kernel
theorem dX6_convoy_70 : decode cX6_convoy 70 = .ok (.iconst 1, 1) := by decide +kernel
theorem dX6_convoy_71 : decode cX6_convoy 71 = .ok (.iadd, 1) := by decide +kernel
theorem dX6_convoy_72 : decode cX6_convoy 72 = .ok (.putfield 122, 3) := by decide +kernel
theorem dX6_convoy_75 : decode cX6_convoy 75 = .ok (.aload_n 0, 1) := by decide +kernel
theorem dX6_convoy_76 : decode cX6_convoy 76 = .ok (.getfield 122, 3) := by decide +kernel
theorem dX6_convoy_79 : decode cX6_convoy 79 = .ok (.iconst 1, 1) := by decide +kernel
theorem dX6_convoy_80 : decode cX6_convoy 80 = .ok (.isub, 1) := by decide +kernel
theorem dX6_convoy_81 : decode cX6_convoy 81 = .ok (.ireturn, 1) := by decide +kernel
theorem dX6_book_0 : decode cX6_book 0 = .ok (.iload_n 1, 1) := by decide +kernel
theorem dX6_book_1 : decode cX6_book 1 = .ok (.iconst 0, 1) := by decide +kernel
theorem dX6_book_2 : decode cX6_book 2 = .ok (.aload_n 0, 1) := by decide +kernel
theorem dX6_book_3 : decode cX6_book 3 = .ok (.getfield 122, 3) := by decide +kernel
theorem dX6_book_6 : decode cX6_book 6 = .ok (.iconst 1, 1) := by decide +kernel
theorem dX6_book_7 : decode cX6_book 7 = .ok (.isub, 1) := by decide +kernel
theorem dX6_book_8 : decode cX6_book 8 = .ok (.invokestatic 108, 3) := by decide +kernel
theorem dX6_book_11 : decode cX6_book 11 = .ok (.ifCond .eq 17, 3) := by decide +kernel
theorem dX6_book_14 : decode cX6_book 14 = .ok (.iload_n 2, 1) := by decide +kernel
theorem dX6_book_15 : decode cX6_book 15 = .ok (.iconst 0, 1) := by decide +kernel
theorem dX6_book_16 : decode cX6_book 16 = .ok (.aload_n 0, 1) := by decide +kernel
theorem dX6_book_17 : decode cX6_book 17 = .ok (.getfield 119, 3) := by decide +kernel
theorem dX6_book_20 : decode cX6_book 20 = .ok (.iconst 1, 1) := by decide +kernel
theorem dX6_book_21 : decode cX6_book 21 = .ok (.isub, 1) := by decide +kernel
theorem dX6_book_22 : decode cX6_book 22 = .ok (.invokestatic 108, 3) := by decide +kernel
theorem dX6_book_25 : decode cX6_book 25 = .ok (.ifCond .ne 5, 3) := by decide +kernel
theorem dX6_book_28 : decode cX6_book 28 = .ok (.iconst (-1), 1) := by decide +kernel
theorem dX6_book_29 : decode cX6_book 29 = .ok (.ireturn, 1) := by decide +kernel
theorem dX6_book_30 : decode cX6_book 30 = .ok (.aload_n 0, 1) := by decide +kernel
theorem dX6_book_31 : decode cX6_book 31 = .ok (.getfield 30, 3) := by decide +kernel
theorem dX6_book_34 : decode cX6_book 34 = .ok (.iload_n 2, 1) := by decide +kernel
theorem dX6_book_35 : decode cX6_book 35 = .ok (.iaload, 1) := by decide +kernel
theorem dX6_book_36 : decode cX6_book 36 = .ok (.aload_n 0, 1) := by decide +kernel
theorem dX6_book_37 : decode cX6_book 37 = .ok (.getfield 75, 3) := by decide +kernel
theorem dX6_book_40 : decode cX6_book 40 = .ok (.iload_n 1, 1) := by decide +kernel
theorem dX6_book_41 : decode cX6_book 41 = .ok (.iaload, 1) := by decide +kernel
theorem dX6_book_42 : decode cX6_book 42 = .ok (.if_icmp .ne 49, 3) := by decide +kernel
theorem dX6_book_45 : decode cX6_book 45 = .ok (.aload_n 0, 1) := by decide +kernel
theorem dX6_book_46 : decode cX6_book 46 = .ok (.getfield 69, 3) := by decide +kernel
theorem dX6_book_49 : decode cX6_book 49 = .ok (.iload_n 2, 1) := by decide +kernel
theorem dX6_book_50 : decode cX6_book 50 = .ok (.iaload, 1) := by decide +kernel
theorem dX6_book_51 : decode cX6_book 51 = .ok (.bipush (-4), 2) := by decide +kernel
theorem dX6_book_53 : decode cX6_book 53 = .ok (.if_icmp .ne 38, 3) := by decide +kernel
theorem dX6_book_56 : decode cX6_book 56 = .ok (.aload_n 0, 1) := by decide +kernel
theorem dX6_book_57 : decode cX6_book 57 = .ok (.getfield 57, 3) := by decide +kernel
theorem dX6_book_60 : decode cX6_book 60 = .ok (.iload_n 2, 1) := by decide +kernel
theorem dX6_book_61 : decode cX6_book 61 = .ok (.baload, 1) := by decide +kernel
theorem dX6_book_62 : decode cX6_book 62 = .ok (.ifCond .ne 29, 3) := by decide +kernel
theorem dX6_book_65 : decode cX6_book 65 = .ok (.aload_n 0, 1) := by decide +kernel
theorem dX6_book_66 : decode cX6_book 66 = .ok (.getfield 78, 3) := by decide +kernel
theorem dX6_book_69 : decode cX6_book 69 = .ok (.iload_n 1, 1) := by decide +kernel
theorem dX6_book_70 : decode cX6_book 70 = .ok (.iaload, 1) := by decide +kernel
theorem dX6_book_71 : decode cX6_book 71 = .ok (.aload_n 0, 1) := by decide +kernel
theorem dX6_book_72 : decode cX6_book 72 = .ok (.getfield 112, 3) := by decide +kernel
theorem dX6_book_75 : decode cX6_book 75 = .ok (.if_icmp .le 16, 3) := by decide +kernel
theorem dX6_book_78 : decode cX6_book 78 = .ok (.aload_n 0, 1) := by decide +kernel
theorem dX6_book_79 : decode cX6_book 79 = .ok (.getfield 33, 3) := by decide +kernel
theorem dX6_book_82 : decode cX6_book 82 = .ok (.iload_n 2, 1) := by decide +kernel
theorem dX6_book_83 : decode cX6_book 83 = .ok (.iaload, 1) := by decide +kernel
theorem dX6_book_84 : decode cX6_book 84 = .ok (.aload_n 0, 1) := by decide +kernel
theorem dX6_book_85 : decode cX6_book 85 = .ok (.getfield 112, 3) := by decide +kernel
theorem dX6_book_88 : decode cX6_book 88 = .ok (.if_icmp .ge 6, 3) := by decide +kernel
theorem dX6_book_91 : decode cX6_book 91 = .ok (.bipush (-2), 2) := by decide +kernel
theorem dX6_book_93 : decode cX6_book 93 = .ok (.ireturn, 1) := by decide +kernel
theorem dX6_book_94 : decode cX6_book 94 = .ok (.aload_n 0, 1) := by decide +kernel
theorem dX6_book_95 : decode cX6_book 95 = .ok (.getfield 81, 3) := by decide +kernel
theorem dX6_book_98 : decode cX6_book 98 = .ok (.iload_n 1, 1) := by decide +kernel
theorem dX6_book_99 : decode cX6_book 99 = .ok (.iaload, 1) := by decide +kernel
theorem dX6_book_100 : decode cX6_book 100 = .ok (.bipush 8, 2) := by decide +kernel
theorem dX6_book_102 : decode cX6_book 102 = .ok (.if_icmp .ne 6, 3) := by decide +kernel
theorem dX6_book_105 : decode cX6_book 105 = .ok (.bipush (-3), 2) := by decide +kernel
theorem dX6_book_107 : decode cX6_book 107 = .ok (.ireturn, 1) := by decide +kernel
theorem dX6_book_108 : decode cX6_book 108 = .ok (.aload_n 0, 1) := by decide +kernel
theorem dX6_book_109 : decode cX6_book 109 = .ok (.getfield 84, 3) := by decide +kernel
theorem dX6_book_112 : decode cX6_book 112 = .ok (.bipush 8, 2) := by decide +kernel
theorem dX6_book_114 : decode cX6_book 114 = .ok (.iload_n 1, 1) := by decide +kernel
theorem dX6_book_115 : decode cX6_book 115 = .ok (.imul, 1) := by decide +kernel
theorem dX6_book_116 : decode cX6_book 116 = .ok (.aload_n 0, 1) := by decide +kernel
theorem dX6_book_117 : decode cX6_book 117 = .ok (.getfield 81, 3) := by decide +kernel
theorem dX6_book_120 : decode cX6_book 120 = .ok (.iload_n 1, 1) := by decide +kernel
theorem dX6_book_121 : decode cX6_book 121 = .ok (.iaload, 1) := by decide +kernel
theorem dX6_book_122 : decode cX6_book 122 = .ok (.iadd, 1) := by decide +kernel
theorem dX6_book_123 : decode cX6_book 123 = .ok (.iload_n 2, 1) := by decide +kernel
theorem dX6_book_124 : decode cX6_book 124 = .ok (.iastore, 1) := by decide +kernel
theorem dX6_book_125 : decode cX6_book 125 = .ok (.aload_n 0, 1) := by decide +kernel
theorem dX6_book_126 : decode cX6_book 126 = .ok (.getfield 81, 3) := by decide +kernel
theorem dX6_book_129 : decode cX6_book 129 = .ok (.iload_n 1, 1) := by decide +kernel
theorem dX6_book_130 : decode cX6_book 130 = .ok (.dup2, 1) := by decide +kernel
theorem dX6_book_131 : decode cX6_book 131 = .ok (.iaload, 1) := by decide +kernel
theorem dX6_book_132 : decode cX6_book 132 = .ok (.iconst 1, 1) := by decide +kernel
theorem dX6_book_133 : decode cX6_book 133 = .ok (.iadd, 1) := by decide +kernel
theorem dX6_book_134 : decode cX6_book 134 = .ok (.iastore, 1) := by decide +kernel
theorem dX6_book_135 : decode cX6_book 135 = .ok (.aload_n 0, 1) := by decide +kernel
theorem dX6_book_136 : decode cX6_book 136 = .ok (.getfield 69, 3) := by decide +kernel
theorem dX6_book_139 : decode cX6_book 139 = .ok (.iload_n 2, 1) := by decide +kernel
theorem dX6_book_140 : decode cX6_book 140 = .ok (.iload_n 1, 1) := by decide +kernel
theorem dX6_book_141 : decode cX6_book 141 = .ok (.iastore, 1) := by decide +kernel
theorem dX6_book_142 : decode cX6_book 142 = .ok (.aload_n 0, 1) := by decide +kernel
theorem dX6_book_143 : decode cX6_book 143 = .ok (.getfield 81, 3) := by decide +kernel
theorem dX6_book_146 : decode cX6_book 146 = .ok (.iload_n 1, 1) := by decide +kernel
theorem dX6_book_147 : decode cX6_book 147 = .ok (.iaload, 1) := by decide +kernel
theorem dX6_book_148 : decode cX6_book 148 = .ok (.ireturn, 1) := by decide +kernel
theorem dX6_ground_0 : decode cX6_ground 0 = .ok (.iload_n 1, 1) := by decide +kernel
theorem dX6_ground_1 : decode cX6_ground 1 = .ok (.iconst 0, 1) := by decide +kernel
theorem dX6_ground_2 : decode cX6_ground 2 = .ok (.aload_n 0, 1) := by decide +kernel
theorem dX6_ground_3 : decode cX6_ground 3 = .ok (.getfield 119, 3) := by decide +kernel
theorem dX6_ground_6 : decode cX6_ground 6 = .ok (.iconst 1, 1) := by decide +kernel
theorem dX6_ground_7 : decode cX6_ground 7 = .ok (.isub, 1) := by decide +kernel
theorem dX6_ground_8 : decode cX6_ground 8 = .ok (.invokestatic 108, 3) := by decide +kernel
theorem dX6_ground_11 : decode cX6_ground 11 = .ok (.ifCond .eq 14, 3) := by decide +kernel
theorem dX6_ground_14 : decode cX6_ground 14 = .ok (.iload_n 2, 1) := by decide +kernel
theorem dX6_ground_15 : decode cX6_ground 15 = .ok (.iconst 1, 1) := by decide +kernel
theorem dX6_ground_16 : decode cX6_ground 16 = .ok (.sipush 500, 3) := by decide +kernel
theorem dX6_ground_19 : decode cX6_ground 19 = .ok (.invokestatic 108, 3) := by decide +kernel
theorem dX6_ground_22 : decode cX6_ground 22 = .ok (.ifCond .ne 5, 3) := by decide +kernel
theorem dX6_ground_25 : decode cX6_ground 25 = .ok (.iconst (-1), 1) := by decide +kernel
theorem dX6_ground_26 : decode cX6_ground 26 = .ok (.ireturn, 1) := by decide +kernel
theorem dX6_ground_27 : decode cX6_ground 27 = .ok (.aload_n 0, 1) := by decide +kernel
theorem dX6_ground_28 : decode cX6_ground 28 = .ok (.getfield 48, 3) := by decide +kernel
theorem dX6_ground_31 : decode cX6_ground 31 = .ok (.iload_n 1, 1) := by decide +kernel
theorem dX6_ground_32 : decode cX6_ground 32 = .ok (.iaload, 1) := by decide +kernel
theorem dX6_ground_33 : decode cX6_ground 33 = .ok (.iconst 0, 1) := by decide +kernel
theorem dX6_ground_34 : decode cX6_ground 34 = .ok (.bipush 7, 2) := by decide +kernel
theorem dX6_ground_36 : decode cX6_ground 36 = .ok (.invokestatic 108, 3) := by decide +kernel
theorem dX6_ground_39 : decode cX6_ground 39 = .ok (.ifCond .eq 12, 3) := by decide +kernel
theorem dX6_ground_42 : decode cX6_ground 42 = .ok (.aload_n 0, 1) := by decide +kernel
theorem dX6_ground_43 : decode cX6_ground 43 = .ok (.getfield 66, 3) := by decide +kernel
theorem dX6_ground_46 : decode cX6_ground 46 = .ok (.iload_n 1, 1) := by decide +kernel
theorem dX6_ground_47 : decode cX6_ground 47 = .ok (.iaload, 1) := by decide +kernel
theorem dX6_ground_48 : decode cX6_ground 48 = .ok (.ifCond .le 6, 3) := by decide +kernel
theorem dX6_ground_51 : decode cX6_ground 51 = .ok (.bipush (-2), 2) := by decide +kernel
theorem dX6_ground_53 : decode cX6_ground 53 = .ok (.ireturn, 1) := by decide +kernel
theorem dX6_ground_54 : decode cX6_ground 54 = .ok (.aload_n 0, 1) := by decide +kernel
theorem dX6_ground_55 : decode cX6_ground 55 = .ok (.getfield 66, 3) := by decide +kernel
theorem dX6_ground_58 : decode cX6_ground 58 = .ok (.iload_n 1, 1) := by decide +kernel
theorem dX6_ground_59 : decode cX6_ground 59 = .ok (.iload_n 2, 1) := by decide +kernel
theorem dX6_ground_60 : decode cX6_ground 60 = .ok (.iastore, 1) := by decide +kernel
theorem dX6_ground_61 : decode cX6_ground 61 = .ok (.iconst 1, 1) := by decide +kernel
theorem dX6_ground_62 : decode cX6_ground 62 = .ok (.ireturn, 1) := by decide +kernel
theorem dX6_joins_0 : decode cX6_joins 0 = .ok (.aload_n 0, 1) := by decide +kernel
theorem dX6_joins_1 : decode cX6_joins 1 = .ok (.getfield 30, 3) := by decide +kernel
theorem dX6_joins_4 : decode cX6_joins 4 = .ok (.iload_n 1, 1) := by decide +kernel
theorem dX6_joins_5 : decode cX6_joins 5 = .ok (.iaload, 1) := by decide +kernel
theorem dX6_joins_6 : decode cX6_joins 6 = .ok (.istore_n 2, 1) := by decide +kernel
theorem dX6_joins_7 : decode cX6_joins 7 = .ok (.aload_n 0, 1) := by decide +kernel
theorem dX6_joins_8 : decode cX6_joins 8 = .ok (.getfield 96, 3) := by decide +kernel
theorem dX6_joins_11 : decode cX6_joins 11 = .ok (.bipush 30, 2) := by decide +kernel
theorem dX6_joins_13 : decode cX6_joins 13 = .ok (.iload_n 2, 1) := by decide +kernel
theorem dX6_joins_14 : decode cX6_joins 14 = .ok (.imul, 1) := by decide +kernel
theorem dX6_joins_15 : decode cX6_joins 15 = .ok (.aload_n 0, 1) := by decide +kernel
theorem dX6_joins_16 : decode cX6_joins 16 = .ok (.getfield 93, 3) := by decide +kernel
theorem dX6_joins_19 : decode cX6_joins 19 = .ok (.iload_n 2, 1) := by decide +kernel
theorem dX6_joins_20 : decode cX6_joins 20 = .ok (.iaload, 1) := by decide +kernel
theorem dX6_joins_21 : decode cX6_joins 21 = .ok (.iadd, 1) := by decide +kernel
theorem dX6_joins_22 : decode cX6_joins 22 = .ok (.iload_n 1, 1) := by decide +kernel
theorem dX6_joins_23 : decode cX6_joins 23 = .ok (.iastore, 1) := by decide +kernel
theorem dX6_joins_24 : decode cX6_joins 24 = .ok (.aload_n 0, 1) := by decide +kernel
theorem dX6_joins_25 : decode cX6_joins 25 = .ok (.getfield 93, 3) := by decide +kernel
theorem dX6_joins_28 : decode cX6_joins 28 = .ok (.iload_n 2, 1) := by decide +kernel
theorem dX6_joins_29 : decode cX6_joins 29 = .ok (.dup2, 1) := by decide +kernel
theorem dX6_joins_30 : decode cX6_joins 30 = .ok (.iaload, 1) := by decide +kernel
theorem dX6_joins_31 : decode cX6_joins 31 = .ok (.iconst 1, 1) := by decide +kernel
theorem dX6_joins_32 : decode cX6_joins 32 = .ok (.iadd, 1) := by decide +kernel
theorem dX6_joins_33 : decode cX6_joins 33 = .ok (.iastore, 1) := by decide +kernel
theorem dX6_joins_34 : decode cX6_joins 34 = .ok (.return_, 1) := by decide +kernel
theorem dX6_starts_0 : decode cX6_starts 0 = .ok (.iconst 0, 1) := by decide +kernel
theorem dX6_starts_1 : decode cX6_starts 1 = .ok (.istore_n 1, 1) := by decide +kernel
theorem dX6_starts_2 : decode cX6_starts 2 = .ok (.iload_n 1, 1) := by decide +kernel
theorem dX6_starts_3 : decode cX6_starts 3 = .ok (.aload_n 0, 1) := by decide +kernel
theorem dX6_starts_4 : decode cX6_starts 4 = .ok (.getfield 122, 3) := by decide +kernel
theorem dX6_starts_7 : decode cX6_starts 7 = .ok (.if_icmp .ge 111, 3) := by decide +kernel
theorem dX6_starts_10 : decode cX6_starts 10 = .ok (.aload_n 0, 1) := by decide +kernel
theorem dX6_starts_11 : decode cX6_starts 11 = .ok (.getfield 78, 3) := by decide +kernel
theorem dX6_starts_14 : decode cX6_starts 14 = .ok (.iload_n 1, 1) := by decide +kernel
theorem dX6_starts_15 : decode cX6_starts 15 = .ok (.iaload, 1) := by decide +kernel
theorem dX6_starts_16 : decode cX6_starts 16 = .ok (.aload_n 0, 1) := by decide +kernel
theorem dX6_starts_17 : decode cX6_starts 17 = .ok (.getfield 112, 3) := by decide +kernel
theorem dX6_starts_20 : decode cX6_starts 20 = .ok (.if_icmp .ne 92, 3) := by decide +kernel
theorem dX6_starts_23 : decode cX6_starts 23 = .ok (.iconst 0, 1) := by decide +kernel
theorem dX6_starts_24 : decode cX6_starts 24 = .ok (.istore_n 2, 1) := by decide +kernel
theorem dX6_starts_25 : decode cX6_starts 25 = .ok (.iload_n 2, 1) := by decide +kernel
theorem dX6_starts_26 : decode cX6_starts 26 = .ok (.aload_n 0, 1) := by decide +kernel
theorem dX6_starts_27 : decode cX6_starts 27 = .ok (.getfield 81, 3) := by decide +kernel
theorem dX6_starts_30 : decode cX6_starts 30 = .ok (.iload_n 1, 1) := by decide +kernel
theorem dX6_starts_31 : decode cX6_starts 31 = .ok (.iaload, 1) := by decide +kernel
theorem dX6_starts_32 : decode cX6_starts 32 = .ok (.if_icmp .ge 47, 3) := by decide +kernel
theorem dX6_starts_35 : decode cX6_starts 35 = .ok (.aload_n 0, 1) := by decide +kernel
theorem dX6_starts_36 : decode cX6_starts 36 = .ok (.getfield 33, 3) := by decide +kernel
theorem dX6_starts_39 : decode cX6_starts 39 = .ok (.aload_n 0, 1) := by decide +kernel
theorem dX6_starts_40 : decode cX6_starts 40 = .ok (.getfield 84, 3) := by decide +kernel
theorem dX6_starts_43 : decode cX6_starts 43 = .ok (.bipush 8, 2) := by decide +kernel
theorem dX6_starts_45 : decode cX6_starts 45 = .ok (.iload_n 1, 1) := by decide +kernel
theorem dX6_starts_46 : decode cX6_starts 46 = .ok (.imul, 1) := by decide +kernel
theorem dX6_starts_47 : decode cX6_starts 47 = .ok (.iload_n 2, 1) := by decide +kernel
theorem dX6_starts_48 : decode cX6_starts 48 = .ok (.iadd, 1) := by decide +kernel
theorem dX6_starts_49 : decode cX6_starts 49 = .ok (.iaload, 1) := by decide +kernel
theorem dX6_starts_50 : decode cX6_starts 50 = .ok (.iaload, 1) := by decide +kernel
theorem dX6_starts_51 : decode cX6_starts 51 = .ok (.aload_n 0, 1) := by decide +kernel
theorem dX6_starts_52 : decode cX6_starts 52 = .ok (.getfield 112, 3) := by decide +kernel
theorem dX6_starts_55 : decode cX6_starts 55 = .ok (.if_icmp .gt 18, 3) := by decide +kernel
theorem dX6_starts_58 : decode cX6_starts 58 = .ok (.aload_n 0, 1) := by decide +kernel
theorem dX6_starts_59 : decode cX6_starts 59 = .ok (.aload_n 0, 1) := by decide +kernel
theorem dX6_starts_60 : decode cX6_starts 60 = .ok (.getfield 84, 3) := by decide +kernel
theorem dX6_starts_63 : decode cX6_starts 63 = .ok (.bipush 8, 2) := by decide +kernel
theorem dX6_starts_65 : decode cX6_starts 65 = .ok (.iload_n 1, 1) := by decide +kernel
theorem dX6_starts_66 : decode cX6_starts 66 = .ok (.imul, 1) := by decide +kernel
theorem dX6_starts_67 : decode cX6_starts 67 = .ok (.iload_n 2, 1) := by decide +kernel
theorem dX6_starts_68 : decode cX6_starts 68 = .ok (.iadd, 1) := by decide +kernel
theorem dX6_starts_69 : decode cX6_starts 69 = .ok (.iaload, 1) := by decide +kernel
theorem dX6_starts_70 : decode cX6_starts 70 = .ok (.invokevirtual 125, 3) := by decide +kernel
theorem dX6_starts_73 : decode cX6_starts 73 = .ok (.iinc 2 1, 3) := by decide +kernel
theorem dX6_starts_76 : decode cX6_starts 76 = .ok (.goto (-51), 3) := by decide +kernel
theorem dX6_starts_79 : decode cX6_starts 79 = .ok (.iconst 0, 1) := by decide +kernel
theorem dX6_starts_80 : decode cX6_starts 80 = .ok (.istore_n 2, 1) := by decide +kernel
theorem dX6_starts_81 : decode cX6_starts 81 = .ok (.iload_n 2, 1) := by decide +kernel
theorem dX6_starts_82 : decode cX6_starts 82 = .ok (.aload_n 0, 1) := by decide +kernel
theorem dX6_starts_83 : decode cX6_starts 83 = .ok (.getfield 87, 3) := by decide +kernel
theorem dX6_starts_86 : decode cX6_starts 86 = .ok (.iload_n 1, 1) := by decide +kernel
theorem dX6_starts_87 : decode cX6_starts 87 = .ok (.iaload, 1) := by decide +kernel
theorem dX6_starts_88 : decode cX6_starts 88 = .ok (.if_icmp .ge 24, 3) := by decide +kernel
theorem dX6_starts_91 : decode cX6_starts 91 = .ok (.aload_n 0, 1) := by decide +kernel
theorem dX6_starts_92 : decode cX6_starts 92 = .ok (.aload_n 0, 1) := by decide +kernel
theorem dX6_starts_93 : decode cX6_starts 93 = .ok (.getfield 90, 3) := by decide +kernel
theorem dX6_starts_96 : decode cX6_starts 96 = .ok (.bipush 30, 2) := by decide +kernel
theorem dX6_starts_98 : decode cX6_starts 98 = .ok (.iload_n 1, 1) := by decide +kernel
theorem dX6_starts_99 : decode cX6_starts 99 = .ok (.imul, 1) := by decide +kernel
theorem dX6_starts_100 : decode cX6_starts 100 = .ok (.iload_n 2, 1) := by decide +kernel
theorem dX6_starts_101 : decode cX6_starts 101 = .ok (.iadd, 1) := by decide +kernel
theorem dX6_starts_102 : decode cX6_starts 102 = .ok (.iaload, 1) := by decide +kernel
theorem dX6_starts_103 : decode cX6_starts 103 = .ok (.invokevirtual 125, 3) := by decide +kernel
theorem dX6_starts_106 : decode cX6_starts 106 = .ok (.iinc 2 1, 3) := by decide +kernel
theorem dX6_starts_109 : decode cX6_starts 109 = .ok (.goto (-28), 3) := by decide +kernel
theorem dX6_starts_112 : decode cX6_starts 112 = .ok (.iinc 1 1, 3) := by decide +kernel
theorem dX6_starts_115 : decode cX6_starts 115 = .ok (.goto (-113), 3) := by decide +kernel
theorem dX6_starts_118 : decode cX6_starts 118 = .ok (.return_, 1) := by decide +kernel
theorem dX6_nextConvoy_0 : decode cX6_nextConvoy 0 = .ok (.bipush (-4), 2) := by decide +kernel
theorem dX6_nextConvoy_2 : decode cX6_nextConvoy 2 = .ok (.istore_n 2, 1) := by decide +kernel
theorem dX6_nextConvoy_3 : decode cX6_nextConvoy 3 = .ok (.iconst 0, 1) := by decide +kernel
theorem dX6_nextConvoy_4 : decode cX6_nextConvoy 4 = .ok (.istore_n 3, 1) := by decide +kernel
theorem dX6_nextConvoy_5 : decode cX6_nextConvoy 5 = .ok (.iload_n 3, 1) := by decide +kernel
theorem dX6_nextConvoy_6 : decode cX6_nextConvoy 6 = .ok (.aload_n 0, 1) := by decide +kernel
theorem dX6_nextConvoy_7 : decode cX6_nextConvoy 7 = .ok (.getfield 122, 3) := by decide +kernel
theorem dX6_nextConvoy_10 : decode cX6_nextConvoy 10 = .ok (.if_icmp .ge 69, 3) := by decide +kernel
theorem dX6_nextConvoy_13 : decode cX6_nextConvoy 13 = .ok (.aload_n 0, 1) := by decide +kernel
theorem dX6_nextConvoy_14 : decode cX6_nextConvoy 14 = .ok (.getfield 75, 3) := by decide +kernel
theorem dX6_nextConvoy_17 : decode cX6_nextConvoy 17 = .ok (.iload_n 3, 1) := by decide +kernel
theorem dX6_nextConvoy_18 : decode cX6_nextConvoy 18 = .ok (.iaload, 1) := by decide +kernel
theorem dX6_nextConvoy_19 : decode cX6_nextConvoy 19 = .ok (.iload_n 1, 1) := by decide +kernel
theorem dX6_nextConvoy_20 : decode cX6_nextConvoy 20 = .ok (.if_icmp .ne 20, 3) := by decide +kernel
theorem dX6_nextConvoy_23 : decode cX6_nextConvoy 23 = .ok (.aload_n 0, 1) := by decide +kernel
theorem dX6_nextConvoy_24 : decode cX6_nextConvoy 24 = .ok (.getfield 78, 3) := by decide +kernel
theorem dX6_nextConvoy_27 : decode cX6_nextConvoy 27 = .ok (.iload_n 3, 1) := by decide +kernel
theorem dX6_nextConvoy_28 : decode cX6_nextConvoy 28 = .ok (.iaload, 1) := by decide +kernel
theorem dX6_nextConvoy_29 : decode cX6_nextConvoy 29 = .ok (.aload_n 0, 1) := by decide +kernel
theorem dX6_nextConvoy_30 : decode cX6_nextConvoy 30 = .ok (.getfield 112, 3) := by decide +kernel
theorem dX6_nextConvoy_33 : decode cX6_nextConvoy 33 = .ok (.if_icmp .le 7, 3) := by decide +kernel
theorem dX6_nextConvoy_36 : decode cX6_nextConvoy 36 = .ok (.iconst 1, 1) := by decide +kernel
theorem dX6_nextConvoy_37 : decode cX6_nextConvoy 37 = .ok (.goto 4, 3) := by decide +kernel
theorem dX6_nextConvoy_40 : decode cX6_nextConvoy 40 = .ok (.iconst 0, 1) := by decide +kernel
theorem dX6_nextConvoy_41 : decode cX6_nextConvoy 41 = .ok (.istore 4, 2) := by decide +kernel
theorem dX6_nextConvoy_43 : decode cX6_nextConvoy 43 = .ok (.iload 4, 2) := by decide +kernel
theorem dX6_nextConvoy_45 : decode cX6_nextConvoy 45 = .ok (.ifCond .eq 26, 3) := by decide +kernel
theorem dX6_nextConvoy_48 : decode cX6_nextConvoy 48 = .ok (.iload_n 2, 1) := by decide +kernel
theorem dX6_nextConvoy_49 : decode cX6_nextConvoy 49 = .ok (.ifCond .lt 18, 3) := by decide +kernel
theorem dX6_nextConvoy_52 : decode cX6_nextConvoy 52 = .ok (.aload_n 0, 1) := by decide +kernel
theorem dX6_nextConvoy_53 : decode cX6_nextConvoy 53 = .ok (.getfield 78, 3) := by decide +kernel
theorem dX6_nextConvoy_56 : decode cX6_nextConvoy 56 = .ok (.iload_n 3, 1) := by decide +kernel
theorem dX6_nextConvoy_57 : decode cX6_nextConvoy 57 = .ok (.iaload, 1) := by decide +kernel
theorem dX6_nextConvoy_58 : decode cX6_nextConvoy 58 = .ok (.aload_n 0, 1) := by decide +kernel
theorem dX6_nextConvoy_59 : decode cX6_nextConvoy 59 = .ok (.getfield 78, 3) := by decide +kernel
theorem dX6_nextConvoy_62 : decode cX6_nextConvoy 62 = .ok (.iload_n 2, 1) := by decide +kernel
theorem dX6_nextConvoy_63 : decode cX6_nextConvoy 63 = .ok (.iaload, 1) := by decide +kernel
theorem dX6_nextConvoy_64 : decode cX6_nextConvoy 64 = .ok (.if_icmp .ge 7, 3) := by decide +kernel
theorem dX6_nextConvoy_67 : decode cX6_nextConvoy 67 = .ok (.iload_n 3, 1) := by decide +kernel
theorem dX6_nextConvoy_68 : decode cX6_nextConvoy 68 = .ok (.goto 4, 3) := by decide +kernel
theorem dX6_nextConvoy_71 : decode cX6_nextConvoy 71 = .ok (.iload_n 2, 1) := by decide +kernel
theorem dX6_nextConvoy_72 : decode cX6_nextConvoy 72 = .ok (.istore_n 2, 1) := by decide +kernel
theorem dX6_nextConvoy_73 : decode cX6_nextConvoy 73 = .ok (.iinc 3 1, 3) := by decide +kernel
theorem dX6_nextConvoy_76 : decode cX6_nextConvoy 76 = .ok (.goto (-71), 3) := by decide +kernel
theorem dX6_nextConvoy_79 : decode cX6_nextConvoy 79 = .ok (.iload_n 2, 1) := by decide +kernel
theorem dX6_nextConvoy_80 : decode cX6_nextConvoy 80 = .ok (.ireturn, 1) := by decide +kernel
theorem dX6_lates_0 : decode cX6_lates 0 = .ok (.iconst 0, 1) := by decide +kernel
theorem dX6_lates_1 : decode cX6_lates 1 = .ok (.istore_n 1, 1) := by decide +kernel
theorem dX6_lates_2 : decode cX6_lates 2 = .ok (.iload_n 1, 1) := by decide +kernel
theorem dX6_lates_3 : decode cX6_lates 3 = .ok (.aload_n 0, 1) := by decide +kernel
theorem dX6_lates_4 : decode cX6_lates 4 = .ok (.getfield 119, 3) := by decide +kernel
theorem dX6_lates_7 : decode cX6_lates 7 = .ok (.if_icmp .ge 131, 3) := by decide +kernel
theorem dX6_lates_10 : decode cX6_lates 10 = .ok (.aload_n 0, 1) := by decide +kernel
theorem dX6_lates_11 : decode cX6_lates 11 = .ok (.getfield 33, 3) := by decide +kernel
theorem dX6_lates_14 : decode cX6_lates 14 = .ok (.iload_n 1, 1) := by decide +kernel
theorem dX6_lates_15 : decode cX6_lates 15 = .ok (.iaload, 1) := by decide +kernel
theorem dX6_lates_16 : decode cX6_lates 16 = .ok (.aload_n 0, 1) := by decide +kernel
theorem dX6_lates_17 : decode cX6_lates 17 = .ok (.getfield 112, 3) := by decide +kernel
theorem dX6_lates_20 : decode cX6_lates 20 = .ok (.if_icmp .ne 112, 3) := by decide +kernel
theorem dX6_lates_23 : decode cX6_lates 23 = .ok (.aload_n 0, 1) := by decide +kernel
theorem dX6_lates_24 : decode cX6_lates 24 = .ok (.getfield 69, 3) := by decide +kernel
theorem dX6_lates_27 : decode cX6_lates 27 = .ok (.iload_n 1, 1) := by decide +kernel
theorem dX6_lates_28 : decode cX6_lates 28 = .ok (.iaload, 1) := by decide +kernel
theorem dX6_lates_29 : decode cX6_lates 29 = .ok (.ifCond .lt 103, 3) := by decide +kernel
theorem dX6_lates_32 : decode cX6_lates 32 = .ok (.aload_n 0, 1) := by decide +kernel
theorem dX6_lates_33 : decode cX6_lates 33 = .ok (.getfield 78, 3) := by decide +kernel
theorem dX6_lates_36 : decode cX6_lates 36 = .ok (.aload_n 0, 1) := by decide +kernel
theorem dX6_lates_37 : decode cX6_lates 37 = .ok (.getfield 69, 3) := by decide +kernel
theorem dX6_lates_40 : decode cX6_lates 40 = .ok (.iload_n 1, 1) := by decide +kernel
theorem dX6_lates_41 : decode cX6_lates 41 = .ok (.iaload, 1) := by decide +kernel
theorem dX6_lates_42 : decode cX6_lates 42 = .ok (.iaload, 1) := by decide +kernel
theorem dX6_lates_43 : decode cX6_lates 43 = .ok (.aload_n 0, 1) := by decide +kernel
theorem dX6_lates_44 : decode cX6_lates 44 = .ok (.getfield 112, 3) := by decide +kernel
theorem dX6_lates_47 : decode cX6_lates 47 = .ok (.if_icmp .ge 85, 3) := by decide +kernel
theorem dX6_lates_50 : decode cX6_lates 50 = .ok (.aload_n 0, 1) := by decide +kernel
theorem dX6_lates_51 : decode cX6_lates 51 = .ok (.getfield 54, 3) := by decide +kernel
theorem dX6_lates_54 : decode cX6_lates 54 = .ok (.iload_n 1, 1) := by decide +kernel
theorem dX6_lates_55 : decode cX6_lates 55 = .ok (.iconst 1, 1) := by decide +kernel
theorem dX6_lates_56 : decode cX6_lates 56 = .ok (.bastore, 1) := by decide +kernel
theorem dX6_lates_57 : decode cX6_lates 57 = .ok (.aload_n 0, 1) := by decide +kernel
theorem dX6_lates_58 : decode cX6_lates 58 = .ok (.getfield 115, 3) := by decide +kernel
theorem dX6_lates_61 : decode cX6_lates 61 = .ok (.iconst 1, 1) := by decide +kernel
theorem dX6_lates_62 : decode cX6_lates 62 = .ok (.if_icmp .ne 11, 3) := by decide +kernel
theorem dX6_lates_65 : decode cX6_lates 65 = .ok (.aload_n 0, 1) := by decide +kernel
theorem dX6_lates_66 : decode cX6_lates 66 = .ok (.iload_n 1, 1) := by decide +kernel
theorem dX6_lates_67 : decode cX6_lates 67 = .ok (.invokevirtual 125, 3) := by decide +kernel
theorem dX6_lates_70 : decode cX6_lates 70 = .ok (.goto 62, 3) := by decide +kernel
theorem dX6_lates_73 : decode cX6_lates 73 = .ok (.aload_n 0, 1) := by decide +kernel
theorem dX6_lates_74 : decode cX6_lates 74 = .ok (.aload_n 0, 1) := by decide +kernel
theorem dX6_lates_75 : decode cX6_lates 75 = .ok (.getfield 30, 3) := by decide +kernel
theorem dX6_lates_78 : decode cX6_lates 78 = .ok (.iload_n 1, 1) := by decide +kernel
theorem dX6_lates_79 : decode cX6_lates 79 = .ok (.iaload, 1) := by decide +kernel
theorem dX6_lates_80 : decode cX6_lates 80 = .ok (.invokevirtual 129, 3) := by decide +kernel
theorem dX6_lates_83 : decode cX6_lates 83 = .ok (.istore_n 2, 1) := by decide +kernel
theorem dX6_lates_84 : decode cX6_lates 84 = .ok (.iload_n 2, 1) := by decide +kernel
theorem dX6_lates_85 : decode cX6_lates 85 = .ok (.ifCond .ge 13, 3) := by decide +kernel
theorem dX6_lates_88 : decode cX6_lates 88 = .ok (.aload_n 0, 1) := by decide +kernel
theorem dX6_lates_89 : decode cX6_lates 89 = .ok (.getfield 57, 3) := by decide +kernel
theorem dX6_lates_92 : decode cX6_lates 92 = .ok (.iload_n 1, 1) := by decide +kernel
theorem dX6_lates_93 : decode cX6_lates 93 = .ok (.iconst 1, 1) := by decide +kernel
theorem dX6_lates_94 : decode cX6_lates 94 = .ok (.bastore, 1) := by decide +kernel
theorem dX6_lates_95 : decode cX6_lates 95 = .ok (.goto 37, 3) := by decide +kernel
theorem dX6_lates_98 : decode cX6_lates 98 = .ok (.aload_n 0, 1) := by decide +kernel
theorem dX6_lates_99 : decode cX6_lates 99 = .ok (.getfield 90, 3) := by decide +kernel
theorem dX6_lates_102 : decode cX6_lates 102 = .ok (.bipush 30, 2) := by decide +kernel
theorem dX6_lates_104 : decode cX6_lates 104 = .ok (.iload_n 2, 1) := by decide +kernel
theorem dX6_lates_105 : decode cX6_lates 105 = .ok (.imul, 1) := by decide +kernel
theorem dX6_lates_106 : decode cX6_lates 106 = .ok (.aload_n 0, 1) := by decide +kernel
theorem dX6_lates_107 : decode cX6_lates 107 = .ok (.getfield 87, 3) := by decide +kernel
theorem dX6_lates_110 : decode cX6_lates 110 = .ok (.iload_n 2, 1) := by decide +kernel
theorem dX6_lates_111 : decode cX6_lates 111 = .ok (.iaload, 1) := by decide +kernel
theorem dX6_lates_112 : decode cX6_lates 112 = .ok (.iadd, 1) := by decide +kernel
theorem dX6_lates_113 : decode cX6_lates 113 = .ok (.iload_n 1, 1) := by decide +kernel
theorem dX6_lates_114 : decode cX6_lates 114 = .ok (.iastore, 1) := by decide +kernel
theorem dX6_lates_115 : decode cX6_lates 115 = .ok (.aload_n 0, 1) := by decide +kernel
theorem dX6_lates_116 : decode cX6_lates 116 = .ok (.getfield 87, 3) := by decide +kernel
theorem dX6_lates_119 : decode cX6_lates 119 = .ok (.iload_n 2, 1) := by decide +kernel
theorem dX6_lates_120 : decode cX6_lates 120 = .ok (.dup2, 1) := by decide +kernel
theorem dX6_lates_121 : decode cX6_lates 121 = .ok (.iaload, 1) := by decide +kernel
theorem dX6_lates_122 : decode cX6_lates 122 = .ok (.iconst 1, 1) := by decide +kernel
theorem dX6_lates_123 : decode cX6_lates 123 = .ok (.iadd, 1) := by decide +kernel
theorem dX6_lates_124 : decode cX6_lates 124 = .ok (.iastore, 1) := by decide +kernel
theorem dX6_lates_125 : decode cX6_lates 125 = .ok (.aload_n 0, 1) := by decide +kernel
theorem dX6_lates_126 : decode cX6_lates 126 = .ok (.getfield 69, 3) := by decide +kernel
theorem dX6_lates_129 : decode cX6_lates 129 = .ok (.iload_n 1, 1) := by decide +kernel
theorem dX6_lates_130 : decode cX6_lates 130 = .ok (.iload_n 2, 1) := by decide +kernel
theorem dX6_lates_131 : decode cX6_lates 131 = .ok (.iastore, 1) := by decide +kernel
theorem dX6_lates_132 : decode cX6_lates 132 = .ok (.iinc 1 1, 3) := by decide +kernel
theorem dX6_lates_135 : decode cX6_lates 135 = .ok (.goto (-133), 3) := by decide +kernel
theorem dX6_lates_138 : decode cX6_lates 138 = .ok (.return_, 1) := by decide +kernel
theorem dX6_isAground_0 : decode cX6_isAground 0 = .ok (.iconst 0, 1) := by decide +kernel
theorem dX6_isAground_1 : decode cX6_isAground 1 = .ok (.istore_n 2, 1) := by decide +kernel
theorem dX6_isAground_2 : decode cX6_isAground 2 = .ok (.iconst 0, 1) := by decide +kernel
theorem dX6_isAground_3 : decode cX6_isAground 3 = .ok (.istore_n 3, 1) := by decide +kernel
theorem dX6_isAground_4 : decode cX6_isAground 4 = .ok (.iload_n 3, 1) := by decide +kernel
theorem dX6_isAground_5 : decode cX6_isAground 5 = .ok (.aload_n 0, 1) := by decide +kernel
theorem dX6_isAground_6 : decode cX6_isAground 6 = .ok (.getfield 119, 3) := by decide +kernel
theorem dX6_isAground_9 : decode cX6_isAground 9 = .ok (.if_icmp .ge 38, 3) := by decide +kernel
theorem dX6_isAground_12 : decode cX6_isAground 12 = .ok (.iload_n 2, 1) := by decide +kernel
theorem dX6_isAground_13 : decode cX6_isAground 13 = .ok (.ifCond .ne 22, 3) := by decide +kernel
theorem dX6_isAground_16 : decode cX6_isAground 16 = .ok (.aload_n 0, 1) := by decide +kernel
theorem dX6_isAground_17 : decode cX6_isAground 17 = .ok (.getfield 48, 3) := by decide +kernel
theorem dX6_isAground_20 : decode cX6_isAground 20 = .ok (.iload_n 3, 1) := by decide +kernel
theorem dX6_isAground_21 : decode cX6_isAground 21 = .ok (.iaload, 1) := by decide +kernel
theorem dX6_isAground_22 : decode cX6_isAground 22 = .ok (.iload_n 1, 1) := by decide +kernel
theorem dX6_isAground_23 : decode cX6_isAground 23 = .ok (.if_icmp .ne 16, 3) := by decide +kernel
theorem dX6_isAground_26 : decode cX6_isAground 26 = .ok (.aload_n 0, 1) := by decide +kernel
theorem dX6_isAground_27 : decode cX6_isAground 27 = .ok (.getfield 66, 3) := by decide +kernel
theorem dX6_isAground_30 : decode cX6_isAground 30 = .ok (.iload_n 3, 1) := by decide +kernel
theorem dX6_isAground_31 : decode cX6_isAground 31 = .ok (.iaload, 1) := by decide +kernel
theorem dX6_isAground_32 : decode cX6_isAground 32 = .ok (.ifCond .le 7, 3) := by decide +kernel
theorem dX6_isAground_35 : decode cX6_isAground 35 = .ok (.iconst 1, 1) := by decide +kernel
theorem dX6_isAground_36 : decode cX6_isAground 36 = .ok (.goto 4, 3) := by decide +kernel
theorem dX6_isAground_39 : decode cX6_isAground 39 = .ok (.iconst 0, 1) := by decide +kernel
theorem dX6_isAground_40 : decode cX6_isAground 40 = .ok (.istore_n 2, 1) := by decide +kernel
theorem dX6_isAground_41 : decode cX6_isAground 41 = .ok (.iinc 3 1, 3) := by decide +kernel
theorem dX6_isAground_44 : decode cX6_isAground 44 = .ok (.goto (-40), 3) := by decide +kernel
theorem dX6_isAground_47 : decode cX6_isAground 47 = .ok (.iload_n 2, 1) := by decide +kernel
theorem dX6_isAground_48 : decode cX6_isAground 48 = .ok (.ireturn, 1) := by decide +kernel
theorem dX6_isOncoming_0 : decode cX6_isOncoming 0 = .ok (.iconst 0, 1) := by decide +kernel
theorem dX6_isOncoming_1 : decode cX6_isOncoming 1 = .ok (.istore_n 3, 1) := by decide +kernel
theorem dX6_isOncoming_2 : decode cX6_isOncoming 2 = .ok (.iload_n 1, 1) := by decide +kernel
theorem dX6_isOncoming_3 : decode cX6_isOncoming 3 = .ok (.istore 4, 2) := by decide +kernel
theorem dX6_isOncoming_5 : decode cX6_isOncoming 5 = .ok (.iload 4, 2) := by decide +kernel
theorem dX6_isOncoming_7 : decode cX6_isOncoming 7 = .ok (.ifCond .le 21, 3) := by decide +kernel
theorem dX6_isOncoming_10 : decode cX6_isOncoming 10 = .ok (.aload_n 0, 1) := by decide +kernel
theorem dX6_isOncoming_11 : decode cX6_isOncoming 11 = .ok (.getfield 20, 3) := by decide +kernel
theorem dX6_isOncoming_14 : decode cX6_isOncoming 14 = .ok (.iload 4, 2) := by decide +kernel
theorem dX6_isOncoming_16 : decode cX6_isOncoming 16 = .ok (.iconst 1, 1) := by decide +kernel
theorem dX6_isOncoming_17 : decode cX6_isOncoming 17 = .ok (.isub, 1) := by decide +kernel
theorem dX6_isOncoming_18 : decode cX6_isOncoming 18 = .ok (.baload, 1) := by decide +kernel
theorem dX6_isOncoming_19 : decode cX6_isOncoming 19 = .ok (.ifCond .ne 9, 3) := by decide +kernel
theorem dX6_isOncoming_22 : decode cX6_isOncoming 22 = .ok (.iinc 4 (-1), 3) := by decide +kernel
theorem dX6_isOncoming_25 : decode cX6_isOncoming 25 = .ok (.goto (-20), 3) := by decide +kernel
theorem dX6_isOncoming_28 : decode cX6_isOncoming 28 = .ok (.iload 4, 2) := by decide +kernel
theorem dX6_isOncoming_30 : decode cX6_isOncoming 30 = .ok (.istore 5, 2) := by decide +kernel
theorem dX6_isOncoming_32 : decode cX6_isOncoming 32 = .ok (.iload 5, 2) := by decide +kernel
theorem dX6_isOncoming_34 : decode cX6_isOncoming 34 = .ok (.bipush 8, 2) := by decide +kernel
theorem dX6_isOncoming_36 : decode cX6_isOncoming 36 = .ok (.if_icmp .ge 43, 3) := by decide +kernel
theorem dX6_isOncoming_39 : decode cX6_isOncoming 39 = .ok (.aload_n 0, 1) := by decide +kernel
theorem dX6_isOncoming_40 : decode cX6_isOncoming 40 = .ok (.getfield 20, 3) := by decide +kernel
theorem dX6_isOncoming_43 : decode cX6_isOncoming 43 = .ok (.iload 5, 2) := by decide +kernel
theorem dX6_isOncoming_45 : decode cX6_isOncoming 45 = .ok (.baload, 1) := by decide +kernel
theorem dX6_isOncoming_46 : decode cX6_isOncoming 46 = .ok (.ifCond .ne 33, 3) := by decide +kernel
theorem dX6_isOncoming_49 : decode cX6_isOncoming 49 = .ok (.iload_n 3, 1) := by decide +kernel
theorem dX6_isOncoming_50 : decode cX6_isOncoming 50 = .ok (.ifCond .ne 17, 3) := by decide +kernel
theorem dX6_isOncoming_53 : decode cX6_isOncoming 53 = .ok (.aload_n 0, 1) := by decide +kernel
theorem dX6_isOncoming_54 : decode cX6_isOncoming 54 = .ok (.getfield 99, 3) := by decide +kernel
theorem dX6_isOncoming_57 : decode cX6_isOncoming 57 = .ok (.iconst 2, 1) := by decide +kernel
theorem dX6_isOncoming_58 : decode cX6_isOncoming 58 = .ok (.iload 5, 2) := by decide +kernel
theorem dX6_isOncoming_60 : decode cX6_isOncoming 60 = .ok (.imul, 1) := by decide +kernel
theorem dX6_isOncoming_61 : decode cX6_isOncoming 61 = .ok (.iload_n 2, 1) := by decide +kernel
theorem dX6_isOncoming_62 : decode cX6_isOncoming 62 = .ok (.iadd, 1) := by decide +kernel
theorem dX6_isOncoming_63 : decode cX6_isOncoming 63 = .ok (.iaload, 1) := by decide +kernel
theorem dX6_isOncoming_64 : decode cX6_isOncoming 64 = .ok (.ifCond .le 7, 3) := by decide +kernel
theorem dX6_isOncoming_67 : decode cX6_isOncoming 67 = .ok (.iconst 1, 1) := by decide +kernel
theorem dX6_isOncoming_68 : decode cX6_isOncoming 68 = .ok (.goto 4, 3) := by decide +kernel
theorem dX6_isOncoming_71 : decode cX6_isOncoming 71 = .ok (.iconst 0, 1) := by decide +kernel
theorem dX6_isOncoming_72 : decode cX6_isOncoming 72 = .ok (.istore_n 3, 1) := by decide +kernel
theorem dX6_isOncoming_73 : decode cX6_isOncoming 73 = .ok (.iinc 5 1, 3) := by decide +kernel
theorem dX6_isOncoming_76 : decode cX6_isOncoming 76 = .ok (.goto (-44), 3) := by decide +kernel
theorem dX6_isOncoming_79 : decode cX6_isOncoming 79 = .ok (.iload_n 3, 1) := by decide +kernel
theorem dX6_isOncoming_80 : decode cX6_isOncoming 80 = .ok (.ireturn, 1) := by decide +kernel
theorem dX6_cause_0 : decode cX6_cause 0 = .ok (.iconst 2, 1) := by decide +kernel
theorem dX6_cause_1 : decode cX6_cause 1 = .ok (.iload_n 2, 1) := by decide +kernel
theorem dX6_cause_2 : decode cX6_cause 2 = .ok (.imul, 1) := by decide +kernel
theorem dX6_cause_3 : decode cX6_cause 3 = .ok (.aload_n 0, 1) := by decide +kernel
theorem dX6_cause_4 : decode cX6_cause 4 = .ok (.getfield 30, 3) := by decide +kernel
theorem dX6_cause_7 : decode cX6_cause 7 = .ok (.iload_n 1, 1) := by decide +kernel
theorem dX6_cause_8 : decode cX6_cause 8 = .ok (.iaload, 1) := by decide +kernel
theorem dX6_cause_9 : decode cX6_cause 9 = .ok (.iadd, 1) := by decide +kernel
theorem dX6_cause_10 : decode cX6_cause 10 = .ok (.istore_n 3, 1) := by decide +kernel
theorem dX6_cause_11 : decode cX6_cause 11 = .ok (.aload_n 0, 1) := by decide +kernel
theorem dX6_cause_12 : decode cX6_cause 12 = .ok (.getfield 112, 3) := by decide +kernel
theorem dX6_cause_15 : decode cX6_cause 15 = .ok (.bipush 60, 2) := by decide +kernel
theorem dX6_cause_17 : decode cX6_cause 17 = .ok (.idiv, 1) := by decide +kernel
theorem dX6_cause_18 : decode cX6_cause 18 = .ok (.bipush 24, 2) := by decide +kernel
theorem dX6_cause_20 : decode cX6_cause 20 = .ok (.irem, 1) := by decide +kernel
theorem dX6_cause_21 : decode cX6_cause 21 = .ok (.istore 4, 2) := by decide +kernel
theorem dX6_cause_23 : decode cX6_cause 23 = .ok (.aload_n 0, 1) := by decide +kernel
theorem dX6_cause_24 : decode cX6_cause 24 = .ok (.getfield 17, 3) := by decide +kernel
theorem dX6_cause_27 : decode cX6_cause 27 = .ok (.iload_n 2, 1) := by decide +kernel
theorem dX6_cause_28 : decode cX6_cause 28 = .ok (.iaload, 1) := by decide +kernel
theorem dX6_cause_29 : decode cX6_cause 29 = .ok (.iload_n 2, 1) := by decide +kernel
theorem dX6_cause_30 : decode cX6_cause 30 = .ok (.ifCond .eq 9, 3) := by decide +kernel
theorem dX6_cause_33 : decode cX6_cause 33 = .ok (.iload_n 2, 1) := by decide +kernel
theorem dX6_cause_34 : decode cX6_cause 34 = .ok (.bipush 7, 2) := by decide +kernel
theorem dX6_cause_36 : decode cX6_cause 36 = .ok (.if_icmp .ne 13, 3) := by decide +kernel
theorem dX6_cause_39 : decode cX6_cause 39 = .ok (.aload_n 0, 1) := by decide +kernel
theorem dX6_cause_40 : decode cX6_cause 40 = .ok (.getfield 24, 3) := by decide +kernel
theorem dX6_cause_43 : decode cX6_cause 43 = .ok (.iload 4, 2) := by decide +kernel
theorem dX6_cause_45 : decode cX6_cause 45 = .ok (.iaload, 1) := by decide +kernel
theorem dX6_cause_46 : decode cX6_cause 46 = .ok (.goto 4, 3) := by decide +kernel
theorem dX6_cause_49 : decode cX6_cause 49 = .ok (.iconst 0, 1) := by decide +kernel
theorem dX6_cause_50 : decode cX6_cause 50 = .ok (.iadd, 1) := by decide +kernel
theorem dX6_cause_51 : decode cX6_cause 51 = .ok (.istore 5, 2) := by decide +kernel
theorem dX6_cause_53 : decode cX6_cause 53 = .ok (.aload_n 0, 1) := by decide +kernel
theorem dX6_cause_54 : decode cX6_cause 54 = .ok (.iload_n 2, 1) := by decide +kernel
theorem dX6_cause_55 : decode cX6_cause 55 = .ok (.invokevirtual 133, 3) := by decide +kernel
theorem dX6_cause_58 : decode cX6_cause 58 = .ok (.ifCond .eq 5, 3) := by decide +kernel
theorem dX6_cause_61 : decode cX6_cause 61 = .ok (.iconst 0, 1) := by decide +kernel
theorem dX6_cause_62 : decode cX6_cause 62 = .ok (.ireturn, 1) := by decide +kernel
theorem dX6_cause_63 : decode cX6_cause 63 = .ok (.aload_n 0, 1) := by decide +kernel
theorem dX6_cause_64 : decode cX6_cause 64 = .ok (.getfield 20, 3) := by decide +kernel
theorem dX6_cause_67 : decode cX6_cause 67 = .ok (.iload_n 2, 1) := by decide +kernel
theorem dX6_cause_68 : decode cX6_cause 68 = .ok (.baload, 1) := by decide +kernel
theorem dX6_cause_69 : decode cX6_cause 69 = .ok (.ifCond .ne 21, 3) := by decide +kernel
theorem dX6_cause_72 : decode cX6_cause 72 = .ok (.aload_n 0, 1) := by decide +kernel
theorem dX6_cause_73 : decode cX6_cause 73 = .ok (.iload_n 2, 1) := by decide +kernel
theorem dX6_cause_74 : decode cX6_cause 74 = .ok (.iconst 1, 1) := by decide +kernel
theorem dX6_cause_75 : decode cX6_cause 75 = .ok (.aload_n 0, 1) := by decide +kernel
theorem dX6_cause_76 : decode cX6_cause 76 = .ok (.getfield 30, 3) := by decide +kernel
theorem dX6_cause_79 : decode cX6_cause 79 = .ok (.iload_n 1, 1) := by decide +kernel
theorem dX6_cause_80 : decode cX6_cause 80 = .ok (.iaload, 1) := by decide +kernel
theorem dX6_cause_81 : decode cX6_cause 81 = .ok (.isub, 1) := by decide +kernel
theorem dX6_cause_82 : decode cX6_cause 82 = .ok (.invokevirtual 137, 3) := by decide +kernel
theorem dX6_cause_85 : decode cX6_cause 85 = .ok (.ifCond .eq 5, 3) := by decide +kernel
theorem dX6_cause_88 : decode cX6_cause 88 = .ok (.iconst 1, 1) := by decide +kernel
theorem dX6_cause_89 : decode cX6_cause 89 = .ok (.ireturn, 1) := by decide +kernel
theorem dX6_cause_90 : decode cX6_cause 90 = .ok (.aload_n 0, 1) := by decide +kernel
theorem dX6_cause_91 : decode cX6_cause 91 = .ok (.getfield 99, 3) := by decide +kernel
theorem dX6_cause_94 : decode cX6_cause 94 = .ok (.iload_n 3, 1) := by decide +kernel
theorem dX6_cause_95 : decode cX6_cause 95 = .ok (.iaload, 1) := by decide +kernel
theorem dX6_cause_96 : decode cX6_cause 96 = .ok (.iconst 3, 1) := by decide +kernel
theorem dX6_cause_97 : decode cX6_cause 97 = .ok (.if_icmp .ne 5, 3) := by decide +kernel
theorem dX6_cause_100 : decode cX6_cause 100 = .ok (.iconst 2, 1) := by decide +kernel
theorem dX6_cause_101 : decode cX6_cause 101 = .ok (.ireturn, 1) := by decide +kernel
theorem dX6_cause_102 : decode cX6_cause 102 = .ok (.aload_n 0, 1) := by decide +kernel
theorem dX6_cause_103 : decode cX6_cause 103 = .ok (.getfield 112, 3) := by decide +kernel
theorem dX6_cause_106 : decode cX6_cause 106 = .ok (.aload_n 0, 1) := by decide +kernel
theorem dX6_cause_107 : decode cX6_cause 107 = .ok (.getfield 105, 3) := by decide +kernel
theorem dX6_cause_110 : decode cX6_cause 110 = .ok (.iload_n 3, 1) := by decide +kernel
theorem dX6_cause_111 : decode cX6_cause 111 = .ok (.iaload, 1) := by decide +kernel
theorem dX6_cause_112 : decode cX6_cause 112 = .ok (.isub, 1) := by decide +kernel
theorem dX6_cause_113 : decode cX6_cause 113 = .ok (.aload_n 0, 1) := by decide +kernel
theorem dX6_cause_114 : decode cX6_cause 114 = .ok (.getfield 7, 3) := by decide +kernel
theorem dX6_cause_117 : decode cX6_cause 117 = .ok (.if_icmp .ge 5, 3) := by decide +kernel
theorem dX6_cause_120 : decode cX6_cause 120 = .ok (.iconst 3, 1) := by decide +kernel
theorem dX6_cause_121 : decode cX6_cause 121 = .ok (.ireturn, 1) := by decide +kernel
theorem dX6_cause_122 : decode cX6_cause 122 = .ok (.aload_n 0, 1) := by decide +kernel
theorem dX6_cause_123 : decode cX6_cause 123 = .ok (.getfield 39, 3) := by decide +kernel
theorem dX6_cause_126 : decode cX6_cause 126 = .ok (.iload_n 1, 1) := by decide +kernel
theorem dX6_cause_127 : decode cX6_cause 127 = .ok (.iaload, 1) := by decide +kernel
theorem dX6_cause_128 : decode cX6_cause 128 = .ok (.iload 5, 2) := by decide +kernel
theorem dX6_cause_130 : decode cX6_cause 130 = .ok (.if_icmp .le 5, 3) := by decide +kernel
theorem dX6_cause_133 : decode cX6_cause 133 = .ok (.iconst 4, 1) := by decide +kernel
theorem dX6_cause_134 : decode cX6_cause 134 = .ok (.ireturn, 1) := by decide +kernel
theorem dX6_cause_135 : decode cX6_cause 135 = .ok (.aload_n 0, 1) := by decide +kernel
theorem dX6_cause_136 : decode cX6_cause 136 = .ok (.getfield 36, 3) := by decide +kernel
theorem dX6_cause_139 : decode cX6_cause 139 = .ok (.iload_n 1, 1) := by decide +kernel
theorem dX6_cause_140 : decode cX6_cause 140 = .ok (.baload, 1) := by decide +kernel
theorem dX6_cause_141 : decode cX6_cause 141 = .ok (.ifCond .eq 38, 3) := by decide +kernel
theorem dX6_cause_144 : decode cX6_cause 144 = .ok (.aload_n 0, 1) := by decide +kernel
theorem dX6_cause_145 : decode cX6_cause 145 = .ok (.getfield 20, 3) := by decide +kernel
theorem dX6_cause_148 : decode cX6_cause 148 = .ok (.iload_n 2, 1) := by decide +kernel
theorem dX6_cause_149 : decode cX6_cause 149 = .ok (.baload, 1) := by decide +kernel
theorem dX6_cause_150 : decode cX6_cause 150 = .ok (.ifCond .ne 29, 3) := by decide +kernel
theorem dX6_cause_153 : decode cX6_cause 153 = .ok (.aload_n 0, 1) := by decide +kernel
theorem dX6_cause_154 : decode cX6_cause 154 = .ok (.getfield 27, 3) := by decide +kernel
theorem dX6_cause_157 : decode cX6_cause 157 = .ok (.iload 4, 2) := by decide +kernel
theorem dX6_cause_159 : decode cX6_cause 159 = .ok (.iaload, 1) := by decide +kernel
theorem dX6_cause_160 : decode cX6_cause 160 = .ok (.ifCond .lt 15, 3) := by decide +kernel
theorem dX6_cause_163 : decode cX6_cause 163 = .ok (.aload_n 0, 1) := by decide +kernel
theorem dX6_cause_164 : decode cX6_cause 164 = .ok (.getfield 27, 3) := by decide +kernel
theorem dX6_cause_167 : decode cX6_cause 167 = .ok (.iload 4, 2) := by decide +kernel
theorem dX6_cause_169 : decode cX6_cause 169 = .ok (.iaload, 1) := by decide +kernel
theorem dX6_cause_170 : decode cX6_cause 170 = .ok (.bipush 6, 2) := by decide +kernel
theorem dX6_cause_172 : decode cX6_cause 172 = .ok (.if_icmp .le 7, 3) := by decide +kernel
theorem dX6_cause_175 : decode cX6_cause 175 = .ok (.iconst 5, 1) := by decide +kernel
theorem dX6_cause_176 : decode cX6_cause 176 = .ok (.goto 4, 3) := by decide +kernel
theorem dX6_cause_179 : decode cX6_cause 179 = .ok (.iconst (-1), 1) := by decide +kernel
theorem dX6_cause_180 : decode cX6_cause 180 = .ok (.ireturn, 1) := by decide +kernel
theorem dX6_enters_0 : decode cX6_enters 0 = .ok (.iconst 2, 1) := by decide +kernel
theorem dX6_enters_1 : decode cX6_enters 1 = .ok (.iload_n 2, 1) := by decide +kernel
theorem dX6_enters_2 : decode cX6_enters 2 = .ok (.imul, 1) := by decide +kernel
theorem dX6_enters_3 : decode cX6_enters 3 = .ok (.aload_n 0, 1) := by decide +kernel
theorem dX6_enters_4 : decode cX6_enters 4 = .ok (.getfield 30, 3) := by decide +kernel
theorem dX6_enters_7 : decode cX6_enters 7 = .ok (.iload_n 1, 1) := by decide +kernel
theorem dX6_enters_8 : decode cX6_enters 8 = .ok (.iaload, 1) := by decide +kernel
theorem dX6_enters_9 : decode cX6_enters 9 = .ok (.iadd, 1) := by decide +kernel
theorem dX6_enters_10 : decode cX6_enters 10 = .ok (.istore_n 3, 1) := by decide +kernel
theorem dX6_enters_11 : decode cX6_enters 11 = .ok (.aload_n 0, 1) := by decide +kernel
theorem dX6_enters_12 : decode cX6_enters 12 = .ok (.getfield 102, 3) := by decide +kernel
theorem dX6_enters_15 : decode cX6_enters 15 = .ok (.bipush 30, 2) := by decide +kernel
theorem dX6_enters_17 : decode cX6_enters 17 = .ok (.iload_n 3, 1) := by decide +kernel
theorem dX6_enters_18 : decode cX6_enters 18 = .ok (.imul, 1) := by decide +kernel
theorem dX6_enters_19 : decode cX6_enters 19 = .ok (.aload_n 0, 1) := by decide +kernel
theorem dX6_enters_20 : decode cX6_enters 20 = .ok (.getfield 99, 3) := by decide +kernel
theorem dX6_enters_23 : decode cX6_enters 23 = .ok (.iload_n 3, 1) := by decide +kernel
theorem dX6_enters_24 : decode cX6_enters 24 = .ok (.iaload, 1) := by decide +kernel
theorem dX6_enters_25 : decode cX6_enters 25 = .ok (.iadd, 1) := by decide +kernel
theorem dX6_enters_26 : decode cX6_enters 26 = .ok (.iload_n 1, 1) := by decide +kernel
theorem dX6_enters_27 : decode cX6_enters 27 = .ok (.iastore, 1) := by decide +kernel
theorem dX6_enters_28 : decode cX6_enters 28 = .ok (.aload_n 0, 1) := by decide +kernel
theorem dX6_enters_29 : decode cX6_enters 29 = .ok (.getfield 99, 3) := by decide +kernel
theorem dX6_enters_32 : decode cX6_enters 32 = .ok (.iload_n 3, 1) := by decide +kernel
theorem dX6_enters_33 : decode cX6_enters 33 = .ok (.dup2, 1) := by decide +kernel
theorem dX6_enters_34 : decode cX6_enters 34 = .ok (.iaload, 1) := by decide +kernel
theorem dX6_enters_35 : decode cX6_enters 35 = .ok (.iconst 1, 1) := by decide +kernel
theorem dX6_enters_36 : decode cX6_enters 36 = .ok (.iadd, 1) := by decide +kernel
theorem dX6_enters_37 : decode cX6_enters 37 = .ok (.iastore, 1) := by decide +kernel
theorem dX6_enters_38 : decode cX6_enters 38 = .ok (.aload_n 0, 1) := by decide +kernel
theorem dX6_enters_39 : decode cX6_enters 39 = .ok (.getfield 105, 3) := by decide +kernel
theorem dX6_enters_42 : decode cX6_enters 42 = .ok (.iload_n 3, 1) := by decide +kernel
theorem dX6_enters_43 : decode cX6_enters 43 = .ok (.aload_n 0, 1) := by decide +kernel
theorem dX6_enters_44 : decode cX6_enters 44 = .ok (.getfield 112, 3) := by decide +kernel
theorem dX6_enters_47 : decode cX6_enters 47 = .ok (.iastore, 1) := by decide +kernel
theorem dX6_enters_48 : decode cX6_enters 48 = .ok (.aload_n 0, 1) := by decide +kernel
theorem dX6_enters_49 : decode cX6_enters 49 = .ok (.getfield 48, 3) := by decide +kernel
theorem dX6_enters_52 : decode cX6_enters 52 = .ok (.iload_n 1, 1) := by decide +kernel
theorem dX6_enters_53 : decode cX6_enters 53 = .ok (.iload_n 2, 1) := by decide +kernel
theorem dX6_enters_54 : decode cX6_enters 54 = .ok (.iastore, 1) := by decide +kernel
theorem dX6_enters_55 : decode cX6_enters 55 = .ok (.aload_n 0, 1) := by decide +kernel
theorem dX6_enters_56 : decode cX6_enters 56 = .ok (.getfield 51, 3) := by decide +kernel
theorem dX6_enters_59 : decode cX6_enters 59 = .ok (.iload_n 1, 1) := by decide +kernel
theorem dX6_enters_60 : decode cX6_enters 60 = .ok (.aload_n 0, 1) := by decide +kernel
theorem dX6_enters_61 : decode cX6_enters 61 = .ok (.getfield 42, 3) := by decide +kernel
theorem dX6_enters_64 : decode cX6_enters 64 = .ok (.iload_n 1, 1) := by decide +kernel
theorem dX6_enters_65 : decode cX6_enters 65 = .ok (.baload, 1) := by decide +kernel
theorem dX6_enters_66 : decode cX6_enters 66 = .ok (.ifCond .eq 14, 3) := by decide +kernel
theorem dX6_enters_69 : decode cX6_enters 69 = .ok (.iconst 2, 1) := by decide +kernel
theorem dX6_enters_70 : decode cX6_enters 70 = .ok (.aload_n 0, 1) := by decide +kernel
theorem dX6_enters_71 : decode cX6_enters 71 = .ok (.getfield 13, 3) := by decide +kernel
theorem dX6_enters_74 : decode cX6_enters 74 = .ok (.iload_n 2, 1) := by decide +kernel
theorem dX6_enters_75 : decode cX6_enters 75 = .ok (.iaload, 1) := by decide +kernel
theorem dX6_enters_76 : decode cX6_enters 76 = .ok (.imul, 1) := by decide +kernel
theorem dX6_enters_77 : decode cX6_enters 77 = .ok (.goto 9, 3) := by decide +kernel
theorem dX6_enters_80 : decode cX6_enters 80 = .ok (.aload_n 0, 1) := by decide +kernel
theorem dX6_enters_81 : decode cX6_enters 81 = .ok (.getfield 13, 3) := by decide +kernel
theorem dX6_enters_84 : decode cX6_enters 84 = .ok (.iload_n 2, 1) := by decide +kernel
theorem dX6_enters_85 : decode cX6_enters 85 = .ok (.iaload, 1) := by decide +kernel
theorem dX6_enters_86 : decode cX6_enters 86 = .ok (.iastore, 1) := by decide +kernel
theorem dX6_enters_87 : decode cX6_enters 87 = .ok (.return_, 1) := by decide +kernel
theorem dX6_leaves_0 : decode cX6_leaves 0 = .ok (.iconst 2, 1) := by decide +kernel
theorem dX6_leaves_1 : decode cX6_leaves 1 = .ok (.iload_n 1, 1) := by decide +kernel
theorem dX6_leaves_2 : decode cX6_leaves 2 = .ok (.imul, 1) := by decide +kernel
theorem dX6_leaves_3 : decode cX6_leaves 3 = .ok (.iload_n 2, 1) := by decide +kernel
theorem dX6_leaves_4 : decode cX6_leaves 4 = .ok (.iadd, 1) := by decide +kernel
theorem dX6_leaves_5 : decode cX6_leaves 5 = .ok (.istore_n 3, 1) := by decide +kernel
theorem dX6_leaves_6 : decode cX6_leaves 6 = .ok (.aload_n 0, 1) := by decide +kernel
theorem dX6_leaves_7 : decode cX6_leaves 7 = .ok (.getfield 99, 3) := by decide +kernel
theorem dX6_leaves_10 : decode cX6_leaves 10 = .ok (.iload_n 3, 1) := by decide +kernel
theorem dX6_leaves_11 : decode cX6_leaves 11 = .ok (.dup2, 1) := by decide +kernel
theorem dX6_leaves_12 : decode cX6_leaves 12 = .ok (.iaload, 1) := by decide +kernel
theorem dX6_leaves_13 : decode cX6_leaves 13 = .ok (.iconst 1, 1) := by decide +kernel
theorem dX6_leaves_14 : decode cX6_leaves 14 = .ok (.isub, 1) := by decide +kernel
theorem dX6_leaves_15 : decode cX6_leaves 15 = .ok (.iastore, 1) := by decide +kernel
theorem dX6_leaves_16 : decode cX6_leaves 16 = .ok (.iconst 0, 1) := by decide +kernel
theorem dX6_leaves_17 : decode cX6_leaves 17 = .ok (.istore 4, 2) := by decide +kernel
theorem dX6_leaves_19 : decode cX6_leaves 19 = .ok (.iload 4, 2) := by decide +kernel
theorem dX6_leaves_21 : decode cX6_leaves 21 = .ok (.aload_n 0, 1) := by decide +kernel
theorem dX6_leaves_22 : decode cX6_leaves 22 = .ok (.getfield 99, 3) := by decide +kernel
theorem dX6_leaves_25 : decode cX6_leaves 25 = .ok (.iload_n 3, 1) := by decide +kernel
theorem dX6_leaves_26 : decode cX6_leaves 26 = .ok (.iaload, 1) := by decide +kernel
theorem dX6_leaves_27 : decode cX6_leaves 27 = .ok (.if_icmp .ge 35, 3) := by decide +kernel
theorem dX6_leaves_30 : decode cX6_leaves 30 = .ok (.aload_n 0, 1) := by decide +kernel
theorem dX6_leaves_31 : decode cX6_leaves 31 = .ok (.getfield 102, 3) := by decide +kernel
theorem dX6_leaves_34 : decode cX6_leaves 34 = .ok (.bipush 30, 2) := by decide +kernel
theorem dX6_leaves_36 : decode cX6_leaves 36 = .ok (.iload_n 3, 1) := by decide +kernel
theorem dX6_leaves_37 : decode cX6_leaves 37 = .ok (.imul, 1) := by decide +kernel
theorem dX6_leaves_38 : decode cX6_leaves 38 = .ok (.iload 4, 2) := by decide +kernel
theorem dX6_leaves_40 : decode cX6_leaves 40 = .ok (.iadd, 1) := by decide +kernel
theorem dX6_leaves_41 : decode cX6_leaves 41 = .ok (.aload_n 0, 1) := by decide +kernel
theorem dX6_leaves_42 : decode cX6_leaves 42 = .ok (.getfield 102, 3) := by decide +kernel
theorem dX6_leaves_45 : decode cX6_leaves 45 = .ok (.bipush 30, 2) := by decide +kernel
theorem dX6_leaves_47 : decode cX6_leaves 47 = .ok (.iload_n 3, 1) := by decide +kernel
theorem dX6_leaves_48 : decode cX6_leaves 48 = .ok (.imul, 1) := by decide +kernel
theorem dX6_leaves_49 : decode cX6_leaves 49 = .ok (.iload 4, 2) := by decide +kernel
theorem dX6_leaves_51 : decode cX6_leaves 51 = .ok (.iadd, 1) := by decide +kernel
theorem dX6_leaves_52 : decode cX6_leaves 52 = .ok (.iconst 1, 1) := by decide +kernel
theorem dX6_leaves_53 : decode cX6_leaves 53 = .ok (.iadd, 1) := by decide +kernel
theorem dX6_leaves_54 : decode cX6_leaves 54 = .ok (.iaload, 1) := by decide +kernel
theorem dX6_leaves_55 : decode cX6_leaves 55 = .ok (.iastore, 1) := by decide +kernel
theorem dX6_leaves_56 : decode cX6_leaves 56 = .ok (.iinc 4 1, 3) := by decide +kernel
theorem dX6_leaves_59 : decode cX6_leaves 59 = .ok (.goto (-40), 3) := by decide +kernel
theorem dX6_leaves_62 : decode cX6_leaves 62 = .ok (.return_, 1) := by decide +kernel
theorem dX6_moves_0 : decode cX6_moves 0 = .ok (.iconst 2, 1) := by decide +kernel
theorem dX6_moves_1 : decode cX6_moves 1 = .ok (.iload_n 1, 1) := by decide +kernel
theorem dX6_moves_2 : decode cX6_moves 2 = .ok (.imul, 1) := by decide +kernel
theorem dX6_moves_3 : decode cX6_moves 3 = .ok (.iload_n 2, 1) := by decide +kernel
theorem dX6_moves_4 : decode cX6_moves 4 = .ok (.iadd, 1) := by decide +kernel
theorem dX6_moves_5 : decode cX6_moves 5 = .ok (.istore_n 3, 1) := by decide +kernel
theorem dX6_moves_6 : decode cX6_moves 6 = .ok (.iconst 0, 1) := by decide +kernel
theorem dX6_moves_7 : decode cX6_moves 7 = .ok (.istore 4, 2) := by decide +kernel
theorem dX6_moves_9 : decode cX6_moves 9 = .ok (.iconst 0, 1) := by decide +kernel
theorem dX6_moves_10 : decode cX6_moves 10 = .ok (.istore 5, 2) := by decide +kernel
theorem dX6_moves_12 : decode cX6_moves 12 = .ok (.iload 4, 2) := by decide +kernel
theorem dX6_moves_14 : decode cX6_moves 14 = .ok (.aload_n 0, 1) := by decide +kernel
theorem dX6_moves_15 : decode cX6_moves 15 = .ok (.getfield 99, 3) := by decide +kernel
theorem dX6_moves_18 : decode cX6_moves 18 = .ok (.iload_n 3, 1) := by decide +kernel
theorem dX6_moves_19 : decode cX6_moves 19 = .ok (.iaload, 1) := by decide +kernel
theorem dX6_moves_20 : decode cX6_moves 20 = .ok (.if_icmp .ge 161, 3) := by decide +kernel
theorem dX6_moves_23 : decode cX6_moves 23 = .ok (.aload_n 0, 1) := by decide +kernel
theorem dX6_moves_24 : decode cX6_moves 24 = .ok (.getfield 102, 3) := by decide +kernel
theorem dX6_moves_27 : decode cX6_moves 27 = .ok (.bipush 30, 2) := by decide +kernel
theorem dX6_moves_29 : decode cX6_moves 29 = .ok (.iload_n 3, 1) := by decide +kernel
theorem dX6_moves_30 : decode cX6_moves 30 = .ok (.imul, 1) := by decide +kernel
theorem dX6_moves_31 : decode cX6_moves 31 = .ok (.iload 4, 2) := by decide +kernel
theorem dX6_moves_33 : decode cX6_moves 33 = .ok (.iadd, 1) := by decide +kernel
theorem dX6_moves_34 : decode cX6_moves 34 = .ok (.iaload, 1) := by decide +kernel
theorem dX6_moves_35 : decode cX6_moves 35 = .ok (.istore 6, 2) := by decide +kernel
theorem dX6_moves_37 : decode cX6_moves 37 = .ok (.iload 5, 2) := by decide +kernel
theorem dX6_moves_39 : decode cX6_moves 39 = .ok (.ifCond .ne 13, 3) := by decide +kernel
theorem dX6_moves_42 : decode cX6_moves 42 = .ok (.aload_n 0, 1) := by decide +kernel
theorem dX6_moves_43 : decode cX6_moves 43 = .ok (.getfield 66, 3) := by decide +kernel
theorem dX6_moves_46 : decode cX6_moves 46 = .ok (.iload 6, 2) := by decide +kernel
theorem dX6_moves_48 : decode cX6_moves 48 = .ok (.iaload, 1) := by decide +kernel
theorem dX6_moves_49 : decode cX6_moves 49 = .ok (.ifCond .le 7, 3) := by decide +kernel
theorem dX6_moves_52 : decode cX6_moves 52 = .ok (.iconst 1, 1) := by decide +kernel
theorem dX6_moves_53 : decode cX6_moves 53 = .ok (.goto 4, 3) := by decide +kernel
theorem dX6_moves_56 : decode cX6_moves 56 = .ok (.iconst 0, 1) := by decide +kernel
theorem dX6_moves_57 : decode cX6_moves 57 = .ok (.istore 5, 2) := by decide +kernel
theorem dX6_moves_59 : decode cX6_moves 59 = .ok (.iconst 0, 1) := by decide +kernel
theorem dX6_moves_60 : decode cX6_moves 60 = .ok (.istore 7, 2) := by decide +kernel
theorem dX6_moves_62 : decode cX6_moves 62 = .ok (.iload 5, 2) := by decide +kernel
theorem dX6_moves_64 : decode cX6_moves 64 = .ok (.ifCond .eq 20, 3) := by decide +kernel
theorem dX6_moves_67 : decode cX6_moves 67 = .ok (.aload_n 0, 1) := by decide +kernel
theorem dX6_moves_68 : decode cX6_moves 68 = .ok (.getfield 72, 3) := by decide +kernel
theorem dX6_moves_71 : decode cX6_moves 71 = .ok (.bipush 7, 2) := by decide +kernel
theorem dX6_moves_73 : decode cX6_moves 73 = .ok (.iload 6, 2) := by decide +kernel
theorem dX6_moves_75 : decode cX6_moves 75 = .ok (.imul, 1) := by decide +kernel
theorem dX6_moves_76 : decode cX6_moves 76 = .ok (.dup2, 1) := by decide +kernel
theorem dX6_moves_77 : decode cX6_moves 77 = .ok (.iaload, 1) := by decide +kernel
theorem dX6_moves_78 : decode cX6_moves 78 = .ok (.iconst 1, 1) := by decide +kernel
theorem dX6_moves_79 : decode cX6_moves 79 = .ok (.iadd, 1) := by decide +kernel
theorem dX6_moves_80 : decode cX6_moves 80 = .ok (.iastore, 1) := by decide +kernel
theorem dX6_moves_81 : decode cX6_moves 81 = .ok (.goto 82, 3) := by decide +kernel
theorem dX6_moves_84 : decode cX6_moves 84 = .ok (.aload_n 0, 1) := by decide +kernel
theorem dX6_moves_85 : decode cX6_moves 85 = .ok (.getfield 51, 3) := by decide +kernel
theorem dX6_moves_88 : decode cX6_moves 88 = .ok (.iload 6, 2) := by decide +kernel
theorem dX6_moves_90 : decode cX6_moves 90 = .ok (.dup2, 1) := by decide +kernel
theorem dX6_moves_91 : decode cX6_moves 91 = .ok (.iaload, 1) := by decide +kernel
theorem dX6_moves_92 : decode cX6_moves 92 = .ok (.aload_n 0, 1) := by decide +kernel
theorem dX6_moves_93 : decode cX6_moves 93 = .ok (.getfield 51, 3) := by decide +kernel
theorem dX6_moves_96 : decode cX6_moves 96 = .ok (.iload 6, 2) := by decide +kernel
theorem dX6_moves_98 : decode cX6_moves 98 = .ok (.iaload, 1) := by decide +kernel
theorem dX6_moves_99 : decode cX6_moves 99 = .ok (.ifCond .le 7, 3) := by decide +kernel
theorem dX6_moves_102 : decode cX6_moves 102 = .ok (.iconst 1, 1) := by decide +kernel
theorem dX6_moves_103 : decode cX6_moves 103 = .ok (.goto 4, 3) := by decide +kernel
theorem dX6_moves_106 : decode cX6_moves 106 = .ok (.iconst 0, 1) := by decide +kernel
theorem dX6_moves_107 : decode cX6_moves 107 = .ok (.isub, 1) := by decide +kernel
theorem dX6_moves_108 : decode cX6_moves 108 = .ok (.iastore, 1) := by decide +kernel
theorem dX6_moves_109 : decode cX6_moves 109 = .ok (.aload_n 0, 1) := by decide +kernel
theorem dX6_moves_110 : decode cX6_moves 110 = .ok (.getfield 51, 3) := by decide +kernel
theorem dX6_moves_113 : decode cX6_moves 113 = .ok (.iload 6, 2) := by decide +kernel
theorem dX6_moves_115 : decode cX6_moves 115 = .ok (.iaload, 1) := by decide +kernel
theorem dX6_moves_116 : decode cX6_moves 116 = .ok (.ifCond .ne 47, 3) := by decide +kernel
theorem dX6_moves_119 : decode cX6_moves 119 = .ok (.iload 4, 2) := by decide +kernel
theorem dX6_moves_121 : decode cX6_moves 121 = .ok (.ifCond .ne 17, 3) := by decide +kernel
theorem dX6_moves_124 : decode cX6_moves 124 = .ok (.aload_n 0, 1) := by decide +kernel
theorem dX6_moves_125 : decode cX6_moves 125 = .ok (.iload 6, 2) := by decide +kernel
theorem dX6_moves_127 : decode cX6_moves 127 = .ok (.iload_n 1, 1) := by decide +kernel
theorem dX6_moves_128 : decode cX6_moves 128 = .ok (.invokevirtual 141, 3) := by decide +kernel
theorem dX6_moves_131 : decode cX6_moves 131 = .ok (.ifCond .eq 7, 3) := by decide +kernel
theorem dX6_moves_134 : decode cX6_moves 134 = .ok (.iconst 1, 1) := by decide +kernel
theorem dX6_moves_135 : decode cX6_moves 135 = .ok (.goto 4, 3) := by decide +kernel
theorem dX6_moves_138 : decode cX6_moves 138 = .ok (.iconst 0, 1) := by decide +kernel
theorem dX6_moves_139 : decode cX6_moves 139 = .ok (.istore 7, 2) := by decide +kernel
theorem dX6_moves_141 : decode cX6_moves 141 = .ok (.iload 4, 2) := by decide +kernel
theorem dX6_moves_143 : decode cX6_moves 143 = .ok (.ifCond .le 20, 3) := by decide +kernel
theorem dX6_moves_146 : decode cX6_moves 146 = .ok (.aload_n 0, 1) := by decide +kernel
theorem dX6_moves_147 : decode cX6_moves 147 = .ok (.getfield 72, 3) := by decide +kernel
theorem dX6_moves_150 : decode cX6_moves 150 = .ok (.bipush 7, 2) := by decide +kernel
theorem dX6_moves_152 : decode cX6_moves 152 = .ok (.iload 6, 2) := by decide +kernel
theorem dX6_moves_154 : decode cX6_moves 154 = .ok (.imul, 1) := by decide +kernel
theorem dX6_moves_155 : decode cX6_moves 155 = .ok (.bipush 6, 2) := by decide +kernel
theorem dX6_moves_157 : decode cX6_moves 157 = .ok (.iadd, 1) := by decide +kernel
theorem dX6_moves_158 : decode cX6_moves 158 = .ok (.dup2, 1) := by decide +kernel
theorem dX6_moves_159 : decode cX6_moves 159 = .ok (.iaload, 1) := by decide +kernel
theorem dX6_moves_160 : decode cX6_moves 160 = .ok (.iconst 1, 1) := by decide +kernel
theorem dX6_moves_161 : decode cX6_moves 161 = .ok (.iadd, 1) := by decide +kernel
theorem dX6_moves_162 : decode cX6_moves 162 = .ok (.iastore, 1) := by decide +kernel
theorem dX6_moves_163 : decode cX6_moves 163 = .ok (.iload 4, 2) := by decide +kernel
theorem dX6_moves_165 : decode cX6_moves 165 = .ok (.iload 7, 2) := by decide +kernel
theorem dX6_moves_167 : decode cX6_moves 167 = .ok (.ifCond .eq 7, 3) := by decide +kernel
theorem dX6_moves_170 : decode cX6_moves 170 = .ok (.iconst 0, 1) := by decide +kernel
theorem dX6_moves_171 : decode cX6_moves 171 = .ok (.goto 4, 3) := by decide +kernel
theorem dX6_moves_174 : decode cX6_moves 174 = .ok (.iconst 1, 1) := by decide +kernel
theorem dX6_moves_175 : decode cX6_moves 175 = .ok (.iadd, 1) := by decide +kernel
theorem dX6_moves_176 : decode cX6_moves 176 = .ok (.istore 4, 2) := by decide +kernel
theorem dX6_moves_178 : decode cX6_moves 178 = .ok (.goto (-166), 3) := by decide +kernel
theorem dX6_moves_181 : decode cX6_moves 181 = .ok (.return_, 1) := by decide +kernel
theorem dX6_goes_0 : decode cX6_goes 0 = .ok (.aload_n 0, 1) := by decide +kernel
theorem dX6_goes_1 : decode cX6_goes 1 = .ok (.getfield 30, 3) := by decide +kernel
theorem dX6_goes_4 : decode cX6_goes 4 = .ok (.iload_n 1, 1) := by decide +kernel
theorem dX6_goes_5 : decode cX6_goes 5 = .ok (.iaload, 1) := by decide +kernel
theorem dX6_goes_6 : decode cX6_goes 6 = .ok (.istore_n 3, 1) := by decide +kernel
theorem dX6_goes_7 : decode cX6_goes 7 = .ok (.iload_n 2, 1) := by decide +kernel
theorem dX6_goes_8 : decode cX6_goes 8 = .ok (.iload_n 3, 1) := by decide +kernel
theorem dX6_goes_9 : decode cX6_goes 9 = .ok (.ifCond .ne 8, 3) := by decide +kernel
theorem dX6_goes_12 : decode cX6_goes 12 = .ok (.bipush 7, 2) := by decide +kernel
theorem dX6_goes_14 : decode cX6_goes 14 = .ok (.goto 4, 3) := by decide +kernel
theorem dX6_goes_17 : decode cX6_goes 17 = .ok (.iconst 0, 1) := by decide +kernel
theorem dX6_goes_18 : decode cX6_goes 18 = .ok (.if_icmp .ne 29, 3) := by decide +kernel
theorem dX6_goes_21 : decode cX6_goes 21 = .ok (.aload_n 0, 1) := by decide +kernel
theorem dX6_goes_22 : decode cX6_goes 22 = .ok (.iload_n 2, 1) := by decide +kernel
theorem dX6_goes_23 : decode cX6_goes 23 = .ok (.iload_n 3, 1) := by decide +kernel
theorem dX6_goes_24 : decode cX6_goes 24 = .ok (.invokevirtual 144, 3) := by decide +kernel
theorem dX6_goes_27 : decode cX6_goes 27 = .ok (.aload_n 0, 1) := by decide +kernel
theorem dX6_goes_28 : decode cX6_goes 28 = .ok (.getfield 48, 3) := by decide +kernel
theorem dX6_goes_31 : decode cX6_goes 31 = .ok (.iload_n 1, 1) := by decide +kernel
theorem dX6_goes_32 : decode cX6_goes 32 = .ok (.bipush 8, 2) := by decide +kernel
theorem dX6_goes_34 : decode cX6_goes 34 = .ok (.iastore, 1) := by decide +kernel
theorem dX6_goes_35 : decode cX6_goes 35 = .ok (.aload_n 0, 1) := by decide +kernel
theorem dX6_goes_36 : decode cX6_goes 36 = .ok (.getfield 63, 3) := by decide +kernel
theorem dX6_goes_39 : decode cX6_goes 39 = .ok (.iload_n 1, 1) := by decide +kernel
theorem dX6_goes_40 : decode cX6_goes 40 = .ok (.aload_n 0, 1) := by decide +kernel
theorem dX6_goes_41 : decode cX6_goes 41 = .ok (.getfield 112, 3) := by decide +kernel
theorem dX6_goes_44 : decode cX6_goes 44 = .ok (.iastore, 1) := by decide +kernel
theorem dX6_goes_45 : decode cX6_goes 45 = .ok (.iconst 1, 1) := by decide +kernel
theorem dX6_goes_46 : decode cX6_goes 46 = .ok (.ireturn, 1) := by decide +kernel
theorem dX6_goes_47 : decode cX6_goes 47 = .ok (.iload_n 3, 1) := by decide +kernel
theorem dX6_goes_48 : decode cX6_goes 48 = .ok (.ifCond .ne 9, 3) := by decide +kernel
theorem dX6_goes_51 : decode cX6_goes 51 = .ok (.iload_n 2, 1) := by decide +kernel
theorem dX6_goes_52 : decode cX6_goes 52 = .ok (.iconst 1, 1) := by decide +kernel
theorem dX6_goes_53 : decode cX6_goes 53 = .ok (.iadd, 1) := by decide +kernel
theorem dX6_goes_54 : decode cX6_goes 54 = .ok (.goto 6, 3) := by decide +kernel
theorem dX6_goes_57 : decode cX6_goes 57 = .ok (.iload_n 2, 1) := by decide +kernel
theorem dX6_goes_58 : decode cX6_goes 58 = .ok (.iconst 1, 1) := by decide +kernel
theorem dX6_goes_59 : decode cX6_goes 59 = .ok (.isub, 1) := by decide +kernel
theorem dX6_goes_60 : decode cX6_goes 60 = .ok (.istore 4, 2) := by decide +kernel
theorem dX6_goes_62 : decode cX6_goes 62 = .ok (.aload_n 0, 1) := by decide +kernel
theorem dX6_goes_63 : decode cX6_goes 63 = .ok (.iload_n 1, 1) := by decide +kernel
theorem dX6_goes_64 : decode cX6_goes 64 = .ok (.iload 4, 2) := by decide +kernel
theorem dX6_goes_66 : decode cX6_goes 66 = .ok (.invokevirtual 148, 3) := by decide +kernel
theorem dX6_goes_69 : decode cX6_goes 69 = .ok (.istore 5, 2) := by decide +kernel
theorem dX6_goes_71 : decode cX6_goes 71 = .ok (.iload 5, 2) := by decide +kernel
theorem dX6_goes_73 : decode cX6_goes 73 = .ok (.ifCond .lt 21, 3) := by decide +kernel
theorem dX6_goes_76 : decode cX6_goes 76 = .ok (.aload_n 0, 1) := by decide +kernel
theorem dX6_goes_77 : decode cX6_goes 77 = .ok (.getfield 72, 3) := by decide +kernel
theorem dX6_goes_80 : decode cX6_goes 80 = .ok (.bipush 7, 2) := by decide +kernel
theorem dX6_goes_82 : decode cX6_goes 82 = .ok (.iload_n 1, 1) := by decide +kernel
theorem dX6_goes_83 : decode cX6_goes 83 = .ok (.imul, 1) := by decide +kernel
theorem dX6_goes_84 : decode cX6_goes 84 = .ok (.iload 5, 2) := by decide +kernel
theorem dX6_goes_86 : decode cX6_goes 86 = .ok (.iadd, 1) := by decide +kernel
theorem dX6_goes_87 : decode cX6_goes 87 = .ok (.dup2, 1) := by decide +kernel
theorem dX6_goes_88 : decode cX6_goes 88 = .ok (.iaload, 1) := by decide +kernel
theorem dX6_goes_89 : decode cX6_goes 89 = .ok (.iconst 1, 1) := by decide +kernel
theorem dX6_goes_90 : decode cX6_goes 90 = .ok (.iadd, 1) := by decide +kernel
theorem dX6_goes_91 : decode cX6_goes 91 = .ok (.iastore, 1) := by decide +kernel
theorem dX6_goes_92 : decode cX6_goes 92 = .ok (.iconst 0, 1) := by decide +kernel
theorem dX6_goes_93 : decode cX6_goes 93 = .ok (.ireturn, 1) := by decide +kernel
theorem dX6_goes_94 : decode cX6_goes 94 = .ok (.aload_n 0, 1) := by decide +kernel
theorem dX6_goes_95 : decode cX6_goes 95 = .ok (.iload_n 2, 1) := by decide +kernel
theorem dX6_goes_96 : decode cX6_goes 96 = .ok (.iload_n 3, 1) := by decide +kernel
theorem dX6_goes_97 : decode cX6_goes 97 = .ok (.invokevirtual 144, 3) := by decide +kernel
theorem dX6_goes_100 : decode cX6_goes 100 = .ok (.aload_n 0, 1) := by decide +kernel
theorem dX6_goes_101 : decode cX6_goes 101 = .ok (.iload_n 1, 1) := by decide +kernel
theorem dX6_goes_102 : decode cX6_goes 102 = .ok (.iload 4, 2) := by decide +kernel
theorem dX6_goes_104 : decode cX6_goes 104 = .ok (.invokevirtual 152, 3) := by decide +kernel
theorem dX6_goes_107 : decode cX6_goes 107 = .ok (.iconst 1, 1) := by decide +kernel
theorem dX6_goes_108 : decode cX6_goes 108 = .ok (.ireturn, 1) := by decide +kernel
theorem dX6_comesIn_0 : decode cX6_comesIn 0 = .ok (.aload_n 0, 1) := by decide +kernel
theorem dX6_comesIn_1 : decode cX6_comesIn 1 = .ok (.getfield 93, 3) := by decide +kernel
theorem dX6_comesIn_4 : decode cX6_comesIn 4 = .ok (.iload_n 1, 1) := by decide +kernel
theorem dX6_comesIn_5 : decode cX6_comesIn 5 = .ok (.iaload, 1) := by decide +kernel
theorem dX6_comesIn_6 : decode cX6_comesIn 6 = .ok (.ifCond .ne 4, 3) := by decide +kernel
theorem dX6_comesIn_9 : decode cX6_comesIn 9 = .ok (.return_, 1) := by decide +kernel
theorem dX6_comesIn_10 : decode cX6_comesIn 10 = .ok (.aload_n 0, 1) := by decide +kernel
theorem dX6_comesIn_11 : decode cX6_comesIn 11 = .ok (.getfield 96, 3) := by decide +kernel
theorem dX6_comesIn_14 : decode cX6_comesIn 14 = .ok (.bipush 30, 2) := by decide +kernel
theorem dX6_comesIn_16 : decode cX6_comesIn 16 = .ok (.iload_n 1, 1) := by decide +kernel
theorem dX6_comesIn_17 : decode cX6_comesIn 17 = .ok (.imul, 1) := by decide +kernel
theorem dX6_comesIn_18 : decode cX6_comesIn 18 = .ok (.iaload, 1) := by decide +kernel
theorem dX6_comesIn_19 : decode cX6_comesIn 19 = .ok (.istore_n 2, 1) := by decide +kernel
theorem dX6_comesIn_20 : decode cX6_comesIn 20 = .ok (.iload_n 1, 1) := by decide +kernel
theorem dX6_comesIn_21 : decode cX6_comesIn 21 = .ok (.ifCond .ne 7, 3) := by decide +kernel
theorem dX6_comesIn_24 : decode cX6_comesIn 24 = .ok (.iconst 0, 1) := by decide +kernel
theorem dX6_comesIn_25 : decode cX6_comesIn 25 = .ok (.goto 5, 3) := by decide +kernel
theorem dX6_comesIn_28 : decode cX6_comesIn 28 = .ok (.bipush 7, 2) := by decide +kernel
theorem dX6_comesIn_30 : decode cX6_comesIn 30 = .ok (.istore_n 3, 1) := by decide +kernel
theorem dX6_comesIn_31 : decode cX6_comesIn 31 = .ok (.aload_n 0, 1) := by decide +kernel
theorem dX6_comesIn_32 : decode cX6_comesIn 32 = .ok (.iload_n 2, 1) := by decide +kernel
theorem dX6_comesIn_33 : decode cX6_comesIn 33 = .ok (.iload_n 3, 1) := by decide +kernel
theorem dX6_comesIn_34 : decode cX6_comesIn 34 = .ok (.invokevirtual 148, 3) := by decide +kernel
theorem dX6_comesIn_37 : decode cX6_comesIn 37 = .ok (.istore 4, 2) := by decide +kernel
theorem dX6_comesIn_39 : decode cX6_comesIn 39 = .ok (.iconst 1, 1) := by decide +kernel
theorem dX6_comesIn_40 : decode cX6_comesIn 40 = .ok (.istore 5, 2) := by decide +kernel
theorem dX6_comesIn_42 : decode cX6_comesIn 42 = .ok (.iload 5, 2) := by decide +kernel
theorem dX6_comesIn_44 : decode cX6_comesIn 44 = .ok (.aload_n 0, 1) := by decide +kernel
theorem dX6_comesIn_45 : decode cX6_comesIn 45 = .ok (.getfield 93, 3) := by decide +kernel
theorem dX6_comesIn_48 : decode cX6_comesIn 48 = .ok (.iload_n 1, 1) := by decide +kernel
theorem dX6_comesIn_49 : decode cX6_comesIn 49 = .ok (.iaload, 1) := by decide +kernel
theorem dX6_comesIn_50 : decode cX6_comesIn 50 = .ok (.if_icmp .ge 36, 3) := by decide +kernel
theorem dX6_comesIn_53 : decode cX6_comesIn 53 = .ok (.aload_n 0, 1) := by decide +kernel
theorem dX6_comesIn_54 : decode cX6_comesIn 54 = .ok (.getfield 72, 3) := by decide +kernel
theorem dX6_comesIn_57 : decode cX6_comesIn 57 = .ok (.bipush 7, 2) := by decide +kernel
theorem dX6_comesIn_59 : decode cX6_comesIn 59 = .ok (.aload_n 0, 1) := by decide +kernel
theorem dX6_comesIn_60 : decode cX6_comesIn 60 = .ok (.getfield 96, 3) := by decide +kernel
theorem dX6_comesIn_63 : decode cX6_comesIn 63 = .ok (.bipush 30, 2) := by decide +kernel
theorem dX6_comesIn_65 : decode cX6_comesIn 65 = .ok (.iload_n 1, 1) := by decide +kernel
theorem dX6_comesIn_66 : decode cX6_comesIn 66 = .ok (.imul, 1) := by decide +kernel
theorem dX6_comesIn_67 : decode cX6_comesIn 67 = .ok (.iload 5, 2) := by decide +kernel
theorem dX6_comesIn_69 : decode cX6_comesIn 69 = .ok (.iadd, 1) := by decide +kernel
theorem dX6_comesIn_70 : decode cX6_comesIn 70 = .ok (.iaload, 1) := by decide +kernel
theorem dX6_comesIn_71 : decode cX6_comesIn 71 = .ok (.imul, 1) := by decide +kernel
theorem dX6_comesIn_72 : decode cX6_comesIn 72 = .ok (.bipush 6, 2) := by decide +kernel
theorem dX6_comesIn_74 : decode cX6_comesIn 74 = .ok (.iadd, 1) := by decide +kernel
theorem dX6_comesIn_75 : decode cX6_comesIn 75 = .ok (.dup2, 1) := by decide +kernel
theorem dX6_comesIn_76 : decode cX6_comesIn 76 = .ok (.iaload, 1) := by decide +kernel
theorem dX6_comesIn_77 : decode cX6_comesIn 77 = .ok (.iconst 1, 1) := by decide +kernel
theorem dX6_comesIn_78 : decode cX6_comesIn 78 = .ok (.iadd, 1) := by decide +kernel
theorem dX6_comesIn_79 : decode cX6_comesIn 79 = .ok (.iastore, 1) := by decide +kernel
theorem dX6_comesIn_80 : decode cX6_comesIn 80 = .ok (.iinc 5 1, 3) := by decide +kernel
theorem dX6_comesIn_83 : decode cX6_comesIn 83 = .ok (.goto (-41), 3) := by decide +kernel
theorem dX6_comesIn_86 : decode cX6_comesIn 86 = .ok (.iload 4, 2) := by decide +kernel
theorem dX6_comesIn_88 : decode cX6_comesIn 88 = .ok (.ifCond .lt 20, 3) := by decide +kernel
theorem dX6_comesIn_91 : decode cX6_comesIn 91 = .ok (.aload_n 0, 1) := by decide +kernel
theorem dX6_comesIn_92 : decode cX6_comesIn 92 = .ok (.getfield 72, 3) := by decide +kernel
theorem dX6_comesIn_95 : decode cX6_comesIn 95 = .ok (.bipush 7, 2) := by decide +kernel
theorem dX6_comesIn_97 : decode cX6_comesIn 97 = .ok (.iload_n 2, 1) := by decide +kernel
theorem dX6_comesIn_98 : decode cX6_comesIn 98 = .ok (.imul, 1) := by decide +kernel
theorem dX6_comesIn_99 : decode cX6_comesIn 99 = .ok (.iload 4, 2) := by decide +kernel
theorem dX6_comesIn_101 : decode cX6_comesIn 101 = .ok (.iadd, 1) := by decide +kernel
theorem dX6_comesIn_102 : decode cX6_comesIn 102 = .ok (.dup2, 1) := by decide +kernel
theorem dX6_comesIn_103 : decode cX6_comesIn 103 = .ok (.iaload, 1) := by decide +kernel
theorem dX6_comesIn_104 : decode cX6_comesIn 104 = .ok (.iconst 1, 1) := by decide +kernel
theorem dX6_comesIn_105 : decode cX6_comesIn 105 = .ok (.iadd, 1) := by decide +kernel
theorem dX6_comesIn_106 : decode cX6_comesIn 106 = .ok (.iastore, 1) := by decide +kernel
theorem dX6_comesIn_107 : decode cX6_comesIn 107 = .ok (.return_, 1) := by decide +kernel
theorem dX6_comesIn_108 : decode cX6_comesIn 108 = .ok (.aload_n 0, 1) := by decide +kernel
theorem dX6_comesIn_109 : decode cX6_comesIn 109 = .ok (.getfield 93, 3) := by decide +kernel
theorem dX6_comesIn_112 : decode cX6_comesIn 112 = .ok (.iload_n 1, 1) := by decide +kernel
theorem dX6_comesIn_113 : decode cX6_comesIn 113 = .ok (.dup2, 1) := by decide +kernel
theorem dX6_comesIn_114 : decode cX6_comesIn 114 = .ok (.iaload, 1) := by decide +kernel
theorem dX6_comesIn_115 : decode cX6_comesIn 115 = .ok (.iconst 1, 1) := by decide +kernel
theorem dX6_comesIn_116 : decode cX6_comesIn 116 = .ok (.isub, 1) := by decide +kernel
theorem dX6_comesIn_117 : decode cX6_comesIn 117 = .ok (.iastore, 1) := by decide +kernel
theorem dX6_comesIn_118 : decode cX6_comesIn 118 = .ok (.iconst 0, 1) := by decide +kernel
theorem dX6_comesIn_119 : decode cX6_comesIn 119 = .ok (.istore 5, 2) := by decide +kernel
theorem dX6_comesIn_121 : decode cX6_comesIn 121 = .ok (.iload 5, 2) := by decide +kernel
theorem dX6_comesIn_123 : decode cX6_comesIn 123 = .ok (.aload_n 0, 1) := by decide +kernel
theorem dX6_comesIn_124 : decode cX6_comesIn 124 = .ok (.getfield 93, 3) := by decide +kernel
theorem dX6_comesIn_127 : decode cX6_comesIn 127 = .ok (.iload_n 1, 1) := by decide +kernel
theorem dX6_comesIn_128 : decode cX6_comesIn 128 = .ok (.iaload, 1) := by decide +kernel
theorem dX6_comesIn_129 : decode cX6_comesIn 129 = .ok (.if_icmp .ge 35, 3) := by decide +kernel
theorem dX6_comesIn_132 : decode cX6_comesIn 132 = .ok (.aload_n 0, 1) := by decide +kernel
theorem dX6_comesIn_133 : decode cX6_comesIn 133 = .ok (.getfield 96, 3) := by decide +kernel
theorem dX6_comesIn_136 : decode cX6_comesIn 136 = .ok (.bipush 30, 2) := by decide +kernel
theorem dX6_comesIn_138 : decode cX6_comesIn 138 = .ok (.iload_n 1, 1) := by decide +kernel
theorem dX6_comesIn_139 : decode cX6_comesIn 139 = .ok (.imul, 1) := by decide +kernel
theorem dX6_comesIn_140 : decode cX6_comesIn 140 = .ok (.iload 5, 2) := by decide +kernel
theorem dX6_comesIn_142 : decode cX6_comesIn 142 = .ok (.iadd, 1) := by decide +kernel
theorem dX6_comesIn_143 : decode cX6_comesIn 143 = .ok (.aload_n 0, 1) := by decide +kernel
theorem dX6_comesIn_144 : decode cX6_comesIn 144 = .ok (.getfield 96, 3) := by decide +kernel
theorem dX6_comesIn_147 : decode cX6_comesIn 147 = .ok (.bipush 30, 2) := by decide +kernel
theorem dX6_comesIn_149 : decode cX6_comesIn 149 = .ok (.iload_n 1, 1) := by decide +kernel
theorem dX6_comesIn_150 : decode cX6_comesIn 150 = .ok (.imul, 1) := by decide +kernel
theorem dX6_comesIn_151 : decode cX6_comesIn 151 = .ok (.iload 5, 2) := by decide +kernel
theorem dX6_comesIn_153 : decode cX6_comesIn 153 = .ok (.iadd, 1) := by decide +kernel
theorem dX6_comesIn_154 : decode cX6_comesIn 154 = .ok (.iconst 1, 1) := by decide +kernel
theorem dX6_comesIn_155 : decode cX6_comesIn 155 = .ok (.iadd, 1) := by decide +kernel
theorem dX6_comesIn_156 : decode cX6_comesIn 156 = .ok (.iaload, 1) := by decide +kernel
theorem dX6_comesIn_157 : decode cX6_comesIn 157 = .ok (.iastore, 1) := by decide +kernel
theorem dX6_comesIn_158 : decode cX6_comesIn 158 = .ok (.iinc 5 1, 3) := by decide +kernel
theorem dX6_comesIn_161 : decode cX6_comesIn 161 = .ok (.goto (-40), 3) := by decide +kernel
theorem dX6_comesIn_164 : decode cX6_comesIn 164 = .ok (.aload_n 0, 1) := by decide +kernel
theorem dX6_comesIn_165 : decode cX6_comesIn 165 = .ok (.getfield 60, 3) := by decide +kernel
theorem dX6_comesIn_168 : decode cX6_comesIn 168 = .ok (.iload_n 2, 1) := by decide +kernel
theorem dX6_comesIn_169 : decode cX6_comesIn 169 = .ok (.aload_n 0, 1) := by decide +kernel
theorem dX6_comesIn_170 : decode cX6_comesIn 170 = .ok (.getfield 112, 3) := by decide +kernel
theorem dX6_comesIn_173 : decode cX6_comesIn 173 = .ok (.iastore, 1) := by decide +kernel
theorem dX6_comesIn_174 : decode cX6_comesIn 174 = .ok (.aload_n 0, 1) := by decide +kernel
theorem dX6_comesIn_175 : decode cX6_comesIn 175 = .ok (.iload_n 2, 1) := by decide +kernel
theorem dX6_comesIn_176 : decode cX6_comesIn 176 = .ok (.iload_n 3, 1) := by decide +kernel
theorem dX6_comesIn_177 : decode cX6_comesIn 177 = .ok (.invokevirtual 152, 3) := by decide +kernel
theorem dX6_comesIn_180 : decode cX6_comesIn 180 = .ok (.return_, 1) := by decide +kernel
theorem dX6_minutes_0 : decode cX6_minutes 0 = .ok (.iload_n 1, 1) := by decide +kernel
theorem dX6_minutes_1 : decode cX6_minutes 1 = .ok (.iconst 1, 1) := by decide +kernel
theorem dX6_minutes_2 : decode cX6_minutes 2 = .ok (.sipush 300, 3) := by decide +kernel
theorem dX6_minutes_5 : decode cX6_minutes 5 = .ok (.invokestatic 108, 3) := by decide +kernel
theorem dX6_minutes_8 : decode cX6_minutes 8 = .ok (.ifCond .ne 5, 3) := by decide +kernel
theorem dX6_minutes_11 : decode cX6_minutes 11 = .ok (.iconst (-1), 1) := by decide +kernel
theorem dX6_minutes_12 : decode cX6_minutes 12 = .ok (.ireturn, 1) := by decide +kernel
theorem dX6_minutes_13 : decode cX6_minutes 13 = .ok (.aload_n 0, 1) := by decide +kernel
theorem dX6_minutes_14 : decode cX6_minutes 14 = .ok (.getfield 112, 3) := by decide +kernel
theorem dX6_minutes_17 : decode cX6_minutes 17 = .ok (.iload_n 1, 1) := by decide +kernel
theorem dX6_minutes_18 : decode cX6_minutes 18 = .ok (.iadd, 1) := by decide +kernel
theorem dX6_minutes_19 : decode cX6_minutes 19 = .ok (.sipush 10000, 3) := by decide +kernel
theorem dX6_minutes_22 : decode cX6_minutes 22 = .ok (.if_icmp .le 6, 3) := by decide +kernel
theorem dX6_minutes_25 : decode cX6_minutes 25 = .ok (.bipush (-3), 2) := by decide +kernel
theorem dX6_minutes_27 : decode cX6_minutes 27 = .ok (.ireturn, 1) := by decide +kernel
theorem dX6_minutes_28 : decode cX6_minutes 28 = .ok (.iconst 0, 1) := by decide +kernel
theorem dX6_minutes_29 : decode cX6_minutes 29 = .ok (.istore_n 2, 1) := by decide +kernel
theorem dX6_minutes_30 : decode cX6_minutes 30 = .ok (.iload_n 2, 1) := by decide +kernel
theorem dX6_minutes_31 : decode cX6_minutes 31 = .ok (.iload_n 1, 1) := by decide +kernel
theorem dX6_minutes_32 : decode cX6_minutes 32 = .ok (.if_icmp .ge 115, 3) := by decide +kernel
theorem dX6_minutes_35 : decode cX6_minutes 35 = .ok (.aload_n 0, 1) := by decide +kernel
theorem dX6_minutes_36 : decode cX6_minutes 36 = .ok (.invokevirtual 155, 3) := by decide +kernel
theorem dX6_minutes_39 : decode cX6_minutes 39 = .ok (.aload_n 0, 1) := by decide +kernel
theorem dX6_minutes_40 : decode cX6_minutes 40 = .ok (.invokevirtual 158, 3) := by decide +kernel
theorem dX6_minutes_43 : decode cX6_minutes 43 = .ok (.bipush 7, 2) := by decide +kernel
theorem dX6_minutes_45 : decode cX6_minutes 45 = .ok (.istore_n 3, 1) := by decide +kernel
theorem dX6_minutes_46 : decode cX6_minutes 46 = .ok (.iload_n 3, 1) := by decide +kernel
theorem dX6_minutes_47 : decode cX6_minutes 47 = .ok (.ifCond .lt 15, 3) := by decide +kernel
theorem dX6_minutes_50 : decode cX6_minutes 50 = .ok (.aload_n 0, 1) := by decide +kernel
theorem dX6_minutes_51 : decode cX6_minutes 51 = .ok (.iload_n 3, 1) := by decide +kernel
theorem dX6_minutes_52 : decode cX6_minutes 52 = .ok (.iconst 0, 1) := by decide +kernel
theorem dX6_minutes_53 : decode cX6_minutes 53 = .ok (.invokevirtual 161, 3) := by decide +kernel
theorem dX6_minutes_56 : decode cX6_minutes 56 = .ok (.iinc 3 (-1), 3) := by decide +kernel
theorem dX6_minutes_59 : decode cX6_minutes 59 = .ok (.goto (-13), 3) := by decide +kernel
theorem dX6_minutes_62 : decode cX6_minutes 62 = .ok (.iconst 0, 1) := by decide +kernel
theorem dX6_minutes_63 : decode cX6_minutes 63 = .ok (.istore_n 3, 1) := by decide +kernel
theorem dX6_minutes_64 : decode cX6_minutes 64 = .ok (.iload_n 3, 1) := by decide +kernel
theorem dX6_minutes_65 : decode cX6_minutes 65 = .ok (.bipush 8, 2) := by decide +kernel
theorem dX6_minutes_67 : decode cX6_minutes 67 = .ok (.if_icmp .ge 15, 3) := by decide +kernel
theorem dX6_minutes_70 : decode cX6_minutes 70 = .ok (.aload_n 0, 1) := by decide +kernel
theorem dX6_minutes_71 : decode cX6_minutes 71 = .ok (.iload_n 3, 1) := by decide +kernel
theorem dX6_minutes_72 : decode cX6_minutes 72 = .ok (.iconst 1, 1) := by decide +kernel
theorem dX6_minutes_73 : decode cX6_minutes 73 = .ok (.invokevirtual 161, 3) := by decide +kernel
theorem dX6_minutes_76 : decode cX6_minutes 76 = .ok (.iinc 3 1, 3) := by decide +kernel
theorem dX6_minutes_79 : decode cX6_minutes 79 = .ok (.goto (-15), 3) := by decide +kernel
theorem dX6_minutes_82 : decode cX6_minutes 82 = .ok (.aload_n 0, 1) := by decide +kernel
theorem dX6_minutes_83 : decode cX6_minutes 83 = .ok (.iconst 0, 1) := by decide +kernel
theorem dX6_minutes_84 : decode cX6_minutes 84 = .ok (.invokevirtual 164, 3) := by decide +kernel
theorem dX6_minutes_87 : decode cX6_minutes 87 = .ok (.aload_n 0, 1) := by decide +kernel
theorem dX6_minutes_88 : decode cX6_minutes 88 = .ok (.iconst 1, 1) := by decide +kernel
theorem dX6_minutes_89 : decode cX6_minutes 89 = .ok (.invokevirtual 164, 3) := by decide +kernel
theorem dX6_minutes_92 : decode cX6_minutes 92 = .ok (.iconst 0, 1) := by decide +kernel
theorem dX6_minutes_93 : decode cX6_minutes 93 = .ok (.istore_n 3, 1) := by decide +kernel
theorem dX6_minutes_94 : decode cX6_minutes 94 = .ok (.iload_n 3, 1) := by decide +kernel
theorem dX6_minutes_95 : decode cX6_minutes 95 = .ok (.aload_n 0, 1) := by decide +kernel
theorem dX6_minutes_96 : decode cX6_minutes 96 = .ok (.getfield 119, 3) := by decide +kernel
theorem dX6_minutes_99 : decode cX6_minutes 99 = .ok (.if_icmp .ge 32, 3) := by decide +kernel
theorem dX6_minutes_102 : decode cX6_minutes 102 = .ok (.aload_n 0, 1) := by decide +kernel
theorem dX6_minutes_103 : decode cX6_minutes 103 = .ok (.getfield 66, 3) := by decide +kernel
theorem dX6_minutes_106 : decode cX6_minutes 106 = .ok (.iload_n 3, 1) := by decide +kernel
theorem dX6_minutes_107 : decode cX6_minutes 107 = .ok (.dup2, 1) := by decide +kernel
theorem dX6_minutes_108 : decode cX6_minutes 108 = .ok (.iaload, 1) := by decide +kernel
theorem dX6_minutes_109 : decode cX6_minutes 109 = .ok (.aload_n 0, 1) := by decide +kernel
theorem dX6_minutes_110 : decode cX6_minutes 110 = .ok (.getfield 66, 3) := by decide +kernel
theorem dX6_minutes_113 : decode cX6_minutes 113 = .ok (.iload_n 3, 1) := by decide +kernel
theorem dX6_minutes_114 : decode cX6_minutes 114 = .ok (.iaload, 1) := by decide +kernel
theorem dX6_minutes_115 : decode cX6_minutes 115 = .ok (.ifCond .le 7, 3) := by decide +kernel
theorem dX6_minutes_118 : decode cX6_minutes 118 = .ok (.iconst 1, 1) := by decide +kernel
theorem dX6_minutes_119 : decode cX6_minutes 119 = .ok (.goto 4, 3) := by decide +kernel
theorem dX6_minutes_122 : decode cX6_minutes 122 = .ok (.iconst 0, 1) := by decide +kernel
theorem dX6_minutes_123 : decode cX6_minutes 123 = .ok (.isub, 1) := by decide +kernel
theorem dX6_minutes_124 : decode cX6_minutes 124 = .ok (.iastore, 1) := by decide +kernel
theorem dX6_minutes_125 : decode cX6_minutes 125 = .ok (.iinc 3 1, 3) := by decide +kernel
theorem dX6_minutes_128 : decode cX6_minutes 128 = .ok (.goto (-34), 3) := by decide +kernel
theorem dX6_minutes_131 : decode cX6_minutes 131 = .ok (.aload_n 0, 1) := by decide +kernel
theorem dX6_minutes_132 : decode cX6_minutes 132 = .ok (.dup, 1) := by decide +kernel
theorem dX6_minutes_133 : decode cX6_minutes 133 = .ok (.getfield 112, 3) := by decide +kernel
theorem dX6_minutes_136 : decode cX6_minutes 136 = .ok (.iconst 1, 1) := by decide +kernel
theorem dX6_minutes_137 : decode cX6_minutes 137 = .ok (.iadd, 1) := by decide +kernel
theorem dX6_minutes_138 : decode cX6_minutes 138 = .ok (.putfield 112, 3) := by decide +kernel
theorem dX6_minutes_141 : decode cX6_minutes 141 = .ok (.iinc 2 1, 3) := by decide +kernel
theorem dX6_minutes_144 : decode cX6_minutes 144 = .ok (.goto (-114), 3) := by decide +kernel
theorem dX6_minutes_147 : decode cX6_minutes 147 = .ok (.aload_n 0, 1) := by decide +kernel
theorem dX6_minutes_148 : decode cX6_minutes 148 = .ok (.getfield 112, 3) := by decide +kernel
theorem dX6_minutes_151 : decode cX6_minutes 151 = .ok (.ireturn, 1) := by decide +kernel
theorem dX6_dues_0 : decode cX6_dues 0 = .ok (.aload_n 0, 1) := by decide +kernel
theorem dX6_dues_1 : decode cX6_dues 1 = .ok (.getfield 45, 3) := by decide +kernel
theorem dX6_dues_4 : decode cX6_dues 4 = .ok (.iload_n 1, 1) := by decide +kernel
theorem dX6_dues_5 : decode cX6_dues 5 = .ok (.iaload, 1) := by decide +kernel
theorem dX6_dues_6 : decode cX6_dues 6 = .ok (.istore_n 2, 1) := by decide +kernel
theorem dX6_dues_7 : decode cX6_dues 7 = .ok (.iload_n 2, 1) := by decide +kernel
theorem dX6_dues_8 : decode cX6_dues 8 = .ok (.sipush 5000, 3) := by decide +kernel
theorem dX6_dues_11 : decode cX6_dues 11 = .ok (.if_icmp .gt 9, 3) := by decide +kernel
theorem dX6_dues_14 : decode cX6_dues 14 = .ok (.iconst 3, 1) := by decide +kernel
theorem dX6_dues_15 : decode cX6_dues 15 = .ok (.iload_n 2, 1) := by decide +kernel
theorem dX6_dues_16 : decode cX6_dues 16 = .ok (.imul, 1) := by decide +kernel
theorem dX6_dues_17 : decode cX6_dues 17 = .ok (.goto 32, 3) := by decide +kernel
theorem dX6_dues_20 : decode cX6_dues 20 = .ok (.iload_n 2, 1) := by decide +kernel
theorem dX6_dues_21 : decode cX6_dues 21 = .ok (.sipush 20000, 3) := by decide +kernel
theorem dX6_dues_24 : decode cX6_dues 24 = .ok (.if_icmp .gt 17, 3) := by decide +kernel
theorem dX6_dues_27 : decode cX6_dues 27 = .ok (.sipush 15000, 3) := by decide +kernel
theorem dX6_dues_30 : decode cX6_dues 30 = .ok (.iconst 2, 1) := by decide +kernel
theorem dX6_dues_31 : decode cX6_dues 31 = .ok (.iload_n 2, 1) := by decide +kernel
theorem dX6_dues_32 : decode cX6_dues 32 = .ok (.sipush 5000, 3) := by decide +kernel
theorem dX6_dues_35 : decode cX6_dues 35 = .ok (.isub, 1) := by decide +kernel
theorem dX6_dues_36 : decode cX6_dues 36 = .ok (.imul, 1) := by decide +kernel
theorem dX6_dues_37 : decode cX6_dues 37 = .ok (.iadd, 1) := by decide +kernel
theorem dX6_dues_38 : decode cX6_dues 38 = .ok (.goto 11, 3) := by decide +kernel
theorem dX6_dues_41 : decode cX6_dues 41 = .ok (.ldc 167, 2) := by decide +kernel
theorem dX6_dues_43 : decode cX6_dues 43 = .ok (.iload_n 2, 1) := by decide +kernel
theorem dX6_dues_44 : decode cX6_dues 44 = .ok (.iadd, 1) := by decide +kernel
theorem dX6_dues_45 : decode cX6_dues 45 = .ok (.sipush 20000, 3) := by decide +kernel
theorem dX6_dues_48 : decode cX6_dues 48 = .ok (.isub, 1) := by decide +kernel
theorem dX6_dues_49 : decode cX6_dues 49 = .ok (.istore_n 3, 1) := by decide +kernel
theorem dX6_dues_50 : decode cX6_dues 50 = .ok (.iload_n 3, 1) := by decide +kernel
theorem dX6_dues_51 : decode cX6_dues 51 = .ok (.aload_n 0, 1) := by decide +kernel
theorem dX6_dues_52 : decode cX6_dues 52 = .ok (.getfield 54, 3) := by decide +kernel
theorem dX6_dues_55 : decode cX6_dues 55 = .ok (.iload_n 1, 1) := by decide +kernel
theorem dX6_dues_56 : decode cX6_dues 56 = .ok (.baload, 1) := by decide +kernel
theorem dX6_dues_57 : decode cX6_dues 57 = .ok (.ifCond .eq 10, 3) := by decide +kernel
theorem dX6_dues_60 : decode cX6_dues 60 = .ok (.iload_n 3, 1) := by decide +kernel
theorem dX6_dues_61 : decode cX6_dues 61 = .ok (.bipush 10, 2) := by decide +kernel
theorem dX6_dues_63 : decode cX6_dues 63 = .ok (.idiv, 1) := by decide +kernel
theorem dX6_dues_64 : decode cX6_dues 64 = .ok (.goto 4, 3) := by decide +kernel
theorem dX6_dues_67 : decode cX6_dues 67 = .ok (.iconst 0, 1) := by decide +kernel
theorem dX6_dues_68 : decode cX6_dues 68 = .ok (.iadd, 1) := by decide +kernel
theorem dX6_dues_69 : decode cX6_dues 69 = .ok (.istore_n 3, 1) := by decide +kernel
theorem dX6_dues_70 : decode cX6_dues 70 = .ok (.iload_n 3, 1) := by decide +kernel
theorem dX6_dues_71 : decode cX6_dues 71 = .ok (.aload_n 0, 1) := by decide +kernel
theorem dX6_dues_72 : decode cX6_dues 72 = .ok (.getfield 72, 3) := by decide +kernel
theorem dX6_dues_75 : decode cX6_dues 75 = .ok (.bipush 7, 2) := by decide +kernel
theorem dX6_dues_77 : decode cX6_dues 77 = .ok (.iload_n 1, 1) := by decide +kernel
theorem dX6_dues_78 : decode cX6_dues 78 = .ok (.imul, 1) := by decide +kernel
theorem dX6_dues_79 : decode cX6_dues 79 = .ok (.iaload, 1) := by decide +kernel
theorem dX6_dues_80 : decode cX6_dues 80 = .ok (.bipush 60, 2) := by decide +kernel
theorem dX6_dues_82 : decode cX6_dues 82 = .ok (.if_icmp .le 10, 3) := by decide +kernel
theorem dX6_dues_85 : decode cX6_dues 85 = .ok (.iload_n 3, 1) := by decide +kernel
theorem dX6_dues_86 : decode cX6_dues 86 = .ok (.bipush 20, 2) := by decide +kernel
theorem dX6_dues_88 : decode cX6_dues 88 = .ok (.idiv, 1) := by decide +kernel
theorem dX6_dues_89 : decode cX6_dues 89 = .ok (.goto 4, 3) := by decide +kernel
theorem dX6_dues_92 : decode cX6_dues 92 = .ok (.iconst 0, 1) := by decide +kernel
theorem dX6_dues_93 : decode cX6_dues 93 = .ok (.isub, 1) := by decide +kernel
theorem dX6_dues_94 : decode cX6_dues 94 = .ok (.istore_n 3, 1) := by decide +kernel
theorem dX6_dues_95 : decode cX6_dues 95 = .ok (.iload_n 3, 1) := by decide +kernel
theorem dX6_dues_96 : decode cX6_dues 96 = .ok (.ireturn, 1) := by decide +kernel
theorem dX6_told_0 : decode cX6_told 0 = .ok (.iload_n 1, 1) := by decide +kernel
theorem dX6_told_1 : decode cX6_told 1 = .ok (.iconst 0, 1) := by decide +kernel
theorem dX6_told_2 : decode cX6_told 2 = .ok (.aload_n 0, 1) := by decide +kernel
theorem dX6_told_3 : decode cX6_told 3 = .ok (.getfield 119, 3) := by decide +kernel
theorem dX6_told_6 : decode cX6_told 6 = .ok (.iconst 1, 1) := by decide +kernel
theorem dX6_told_7 : decode cX6_told 7 = .ok (.isub, 1) := by decide +kernel
theorem dX6_told_8 : decode cX6_told 8 = .ok (.invokestatic 108, 3) := by decide +kernel
theorem dX6_told_11 : decode cX6_told 11 = .ok (.ifCond .eq 13, 3) := by decide +kernel
theorem dX6_told_14 : decode cX6_told 14 = .ok (.iload_n 2, 1) := by decide +kernel
theorem dX6_told_15 : decode cX6_told 15 = .ok (.iconst 0, 1) := by decide +kernel
theorem dX6_told_16 : decode cX6_told 16 = .ok (.bipush 8, 2) := by decide +kernel
theorem dX6_told_18 : decode cX6_told 18 = .ok (.invokestatic 108, 3) := by decide +kernel
theorem dX6_told_21 : decode cX6_told 21 = .ok (.ifCond .ne 6, 3) := by decide +kernel
theorem dX6_told_24 : decode cX6_told 24 = .ok (.bipush (-9), 2) := by decide +kernel
theorem dX6_told_26 : decode cX6_told 26 = .ok (.ireturn, 1) := by decide +kernel
theorem dX6_told_27 : decode cX6_told 27 = .ok (.iload_n 2, 1) := by decide +kernel
theorem dX6_told_28 : decode cX6_told 28 = .ok (.tableswitch 138 0 7 #[48, 55, 81, 96, 111, 118, 125, 131], 48) := by decide +kernel
theorem dX6_told_76 : decode cX6_told 76 = .ok (.aload_n 0, 1) := by decide +kernel
theorem dX6_told_77 : decode cX6_told 77 = .ok (.getfield 48, 3) := by decide +kernel
theorem dX6_told_80 : decode cX6_told 80 = .ok (.iload_n 1, 1) := by decide +kernel
theorem dX6_told_81 : decode cX6_told 81 = .ok (.iaload, 1) := by decide +kernel
theorem dX6_told_82 : decode cX6_told 82 = .ok (.ireturn, 1) := by decide +kernel
theorem dX6_told_83 : decode cX6_told 83 = .ok (.aload_n 0, 1) := by decide +kernel
theorem dX6_told_84 : decode cX6_told 84 = .ok (.getfield 48, 3) := by decide +kernel
theorem dX6_told_87 : decode cX6_told 87 = .ok (.iload_n 1, 1) := by decide +kernel
theorem dX6_told_88 : decode cX6_told 88 = .ok (.iaload, 1) := by decide +kernel
theorem dX6_told_89 : decode cX6_told 89 = .ok (.iconst 0, 1) := by decide +kernel
theorem dX6_told_90 : decode cX6_told 90 = .ok (.bipush 7, 2) := by decide +kernel
theorem dX6_told_92 : decode cX6_told 92 = .ok (.invokestatic 108, 3) := by decide +kernel
theorem dX6_told_95 : decode cX6_told 95 = .ok (.ifCond .eq 12, 3) := by decide +kernel
theorem dX6_told_98 : decode cX6_told 98 = .ok (.aload_n 0, 1) := by decide +kernel
theorem dX6_told_99 : decode cX6_told 99 = .ok (.getfield 51, 3) := by decide +kernel
theorem dX6_told_102 : decode cX6_told 102 = .ok (.iload_n 1, 1) := by decide +kernel
theorem dX6_told_103 : decode cX6_told 103 = .ok (.iaload, 1) := by decide +kernel
theorem dX6_told_104 : decode cX6_told 104 = .ok (.goto 4, 3) := by decide +kernel
theorem dX6_told_107 : decode cX6_told 107 = .ok (.iconst 0, 1) := by decide +kernel
theorem dX6_told_108 : decode cX6_told 108 = .ok (.ireturn, 1) := by decide +kernel
theorem dX6_told_109 : decode cX6_told 109 = .ok (.aload_n 0, 1) := by decide +kernel
theorem dX6_told_110 : decode cX6_told 110 = .ok (.getfield 54, 3) := by decide +kernel
theorem dX6_told_113 : decode cX6_told 113 = .ok (.iload_n 1, 1) := by decide +kernel
theorem dX6_told_114 : decode cX6_told 114 = .ok (.baload, 1) := by decide +kernel
theorem dX6_told_115 : decode cX6_told 115 = .ok (.ifCond .eq 7, 3) := by decide +kernel
theorem dX6_told_118 : decode cX6_told 118 = .ok (.iconst 1, 1) := by decide +kernel
theorem dX6_told_119 : decode cX6_told 119 = .ok (.goto 4, 3) := by decide +kernel
theorem dX6_told_122 : decode cX6_told 122 = .ok (.iconst 0, 1) := by decide +kernel
theorem dX6_told_123 : decode cX6_told 123 = .ok (.ireturn, 1) := by decide +kernel
theorem dX6_told_124 : decode cX6_told 124 = .ok (.aload_n 0, 1) := by decide +kernel
theorem dX6_told_125 : decode cX6_told 125 = .ok (.getfield 57, 3) := by decide +kernel
theorem dX6_told_128 : decode cX6_told 128 = .ok (.iload_n 1, 1) := by decide +kernel
theorem dX6_told_129 : decode cX6_told 129 = .ok (.baload, 1) := by decide +kernel
theorem dX6_told_130 : decode cX6_told 130 = .ok (.ifCond .eq 7, 3) := by decide +kernel
theorem dX6_told_133 : decode cX6_told 133 = .ok (.iconst 1, 1) := by decide +kernel
theorem dX6_told_134 : decode cX6_told 134 = .ok (.goto 4, 3) := by decide +kernel
theorem dX6_told_137 : decode cX6_told 137 = .ok (.iconst 0, 1) := by decide +kernel
theorem dX6_told_138 : decode cX6_told 138 = .ok (.ireturn, 1) := by decide +kernel
theorem dX6_told_139 : decode cX6_told 139 = .ok (.aload_n 0, 1) := by decide +kernel
theorem dX6_told_140 : decode cX6_told 140 = .ok (.getfield 60, 3) := by decide +kernel
theorem dX6_told_143 : decode cX6_told 143 = .ok (.iload_n 1, 1) := by decide +kernel
theorem dX6_told_144 : decode cX6_told 144 = .ok (.iaload, 1) := by decide +kernel
theorem dX6_told_145 : decode cX6_told 145 = .ok (.ireturn, 1) := by decide +kernel
theorem dX6_told_146 : decode cX6_told 146 = .ok (.aload_n 0, 1) := by decide +kernel
theorem dX6_told_147 : decode cX6_told 147 = .ok (.getfield 63, 3) := by decide +kernel
theorem dX6_told_150 : decode cX6_told 150 = .ok (.iload_n 1, 1) := by decide +kernel
theorem dX6_told_151 : decode cX6_told 151 = .ok (.iaload, 1) := by decide +kernel
theorem dX6_told_152 : decode cX6_told 152 = .ok (.ireturn, 1) := by decide +kernel
theorem dX6_told_153 : decode cX6_told 153 = .ok (.aload_n 0, 1) := by decide +kernel
theorem dX6_told_154 : decode cX6_told 154 = .ok (.iload_n 1, 1) := by decide +kernel
theorem dX6_told_155 : decode cX6_told 155 = .ok (.invokevirtual 168, 3) := by decide +kernel
theorem dX6_told_158 : decode cX6_told 158 = .ok (.ireturn, 1) := by decide +kernel
theorem dX6_told_159 : decode cX6_told 159 = .ok (.aload_n 0, 1) := by decide +kernel
theorem dX6_told_160 : decode cX6_told 160 = .ok (.getfield 66, 3) := by decide +kernel
theorem dX6_told_163 : decode cX6_told 163 = .ok (.iload_n 1, 1) := by decide +kernel
theorem dX6_told_164 : decode cX6_told 164 = .ok (.iaload, 1) := by decide +kernel
theorem dX6_told_165 : decode cX6_told 165 = .ok (.ireturn, 1) := by decide +kernel
theorem dX6_told_166 : decode cX6_told 166 = .ok (.aload_n 0, 1) := by decide +kernel
theorem dX6_told_167 : decode cX6_told 167 = .ok (.getfield 69, 3) := by decide +kernel
theorem dX6_told_170 : decode cX6_told 170 = .ok (.iload_n 1, 1) := by decide +kernel
theorem dX6_told_171 : decode cX6_told 171 = .ok (.iaload, 1) := by decide +kernel
theorem dX6_told_172 : decode cX6_told 172 = .ok (.ireturn, 1) := by decide +kernel
theorem dX6_waited_0 : decode cX6_waited 0 = .ok (.iload_n 1, 1) := by decide +kernel
theorem dX6_waited_1 : decode cX6_waited 1 = .ok (.iconst 0, 1) := by decide +kernel
theorem dX6_waited_2 : decode cX6_waited 2 = .ok (.aload_n 0, 1) := by decide +kernel
theorem dX6_waited_3 : decode cX6_waited 3 = .ok (.getfield 119, 3) := by decide +kernel
theorem dX6_waited_6 : decode cX6_waited 6 = .ok (.iconst 1, 1) := by decide +kernel
theorem dX6_waited_7 : decode cX6_waited 7 = .ok (.isub, 1) := by decide +kernel
theorem dX6_waited_8 : decode cX6_waited 8 = .ok (.invokestatic 108, 3) := by decide +kernel
theorem dX6_waited_11 : decode cX6_waited 11 = .ok (.ifCond .eq 13, 3) := by decide +kernel
theorem dX6_waited_14 : decode cX6_waited 14 = .ok (.iload_n 2, 1) := by decide +kernel
theorem dX6_waited_15 : decode cX6_waited 15 = .ok (.iconst (-1), 1) := by decide +kernel
theorem dX6_waited_16 : decode cX6_waited 16 = .ok (.bipush 6, 2) := by decide +kernel
theorem dX6_waited_18 : decode cX6_waited 18 = .ok (.invokestatic 108, 3) := by decide +kernel
theorem dX6_waited_21 : decode cX6_waited 21 = .ok (.ifCond .ne 5, 3) := by decide +kernel
theorem dX6_waited_24 : decode cX6_waited 24 = .ok (.iconst (-1), 1) := by decide +kernel
theorem dX6_waited_25 : decode cX6_waited 25 = .ok (.ireturn, 1) := by decide +kernel
theorem dX6_waited_26 : decode cX6_waited 26 = .ok (.iconst 0, 1) := by decide +kernel
theorem dX6_waited_27 : decode cX6_waited 27 = .ok (.istore_n 3, 1) := by decide +kernel
theorem dX6_waited_28 : decode cX6_waited 28 = .ok (.iconst 0, 1) := by decide +kernel
theorem dX6_waited_29 : decode cX6_waited 29 = .ok (.istore 4, 2) := by decide +kernel
theorem dX6_waited_31 : decode cX6_waited 31 = .ok (.iload 4, 2) := by decide +kernel
theorem dX6_waited_33 : decode cX6_waited 33 = .ok (.bipush 7, 2) := by decide +kernel
theorem dX6_waited_35 : decode cX6_waited 35 = .ok (.if_icmp .ge 38, 3) := by decide +kernel
theorem dX6_waited_38 : decode cX6_waited 38 = .ok (.iload_n 3, 1) := by decide +kernel
theorem dX6_waited_39 : decode cX6_waited 39 = .ok (.iload_n 2, 1) := by decide +kernel
theorem dX6_waited_40 : decode cX6_waited 40 = .ok (.ifCond .lt 9, 3) := by decide +kernel
theorem dX6_waited_43 : decode cX6_waited 43 = .ok (.iload_n 2, 1) := by decide +kernel
theorem dX6_waited_44 : decode cX6_waited 44 = .ok (.iload 4, 2) := by decide +kernel
theorem dX6_waited_46 : decode cX6_waited 46 = .ok (.if_icmp .ne 18, 3) := by decide +kernel
theorem dX6_waited_49 : decode cX6_waited 49 = .ok (.aload_n 0, 1) := by decide +kernel
theorem dX6_waited_50 : decode cX6_waited 50 = .ok (.getfield 72, 3) := by decide +kernel
theorem dX6_waited_53 : decode cX6_waited 53 = .ok (.bipush 7, 2) := by decide +kernel
theorem dX6_waited_55 : decode cX6_waited 55 = .ok (.iload_n 1, 1) := by decide +kernel
theorem dX6_waited_56 : decode cX6_waited 56 = .ok (.imul, 1) := by decide +kernel
theorem dX6_waited_57 : decode cX6_waited 57 = .ok (.iload 4, 2) := by decide +kernel
theorem dX6_waited_59 : decode cX6_waited 59 = .ok (.iadd, 1) := by decide +kernel
theorem dX6_waited_60 : decode cX6_waited 60 = .ok (.iaload, 1) := by decide +kernel
theorem dX6_waited_61 : decode cX6_waited 61 = .ok (.goto 4, 3) := by decide +kernel
theorem dX6_waited_64 : decode cX6_waited 64 = .ok (.iconst 0, 1) := by decide +kernel
theorem dX6_waited_65 : decode cX6_waited 65 = .ok (.iadd, 1) := by decide +kernel
theorem dX6_waited_66 : decode cX6_waited 66 = .ok (.istore_n 3, 1) := by decide +kernel
theorem dX6_waited_67 : decode cX6_waited 67 = .ok (.iinc 4 1, 3) := by decide +kernel
theorem dX6_waited_70 : decode cX6_waited 70 = .ok (.goto (-39), 3) := by decide +kernel
theorem dX6_waited_73 : decode cX6_waited 73 = .ok (.iload_n 3, 1) := by decide +kernel
theorem dX6_waited_74 : decode cX6_waited 74 = .ok (.ireturn, 1) := by decide +kernel
theorem dX6_line_0 : decode cX6_line 0 = .ok (.iload_n 1, 1) := by decide +kernel
theorem dX6_line_1 : decode cX6_line 1 = .ok (.iconst 0, 1) := by decide +kernel
theorem dX6_line_2 : decode cX6_line 2 = .ok (.iconst 1, 1) := by decide +kernel
theorem dX6_line_3 : decode cX6_line 3 = .ok (.invokestatic 108, 3) := by decide +kernel
theorem dX6_line_6 : decode cX6_line 6 = .ok (.ifCond .eq 7, 3) := by decide +kernel
theorem dX6_line_9 : decode cX6_line 9 = .ok (.iload_n 2, 1) := by decide +kernel
theorem dX6_line_10 : decode cX6_line 10 = .ok (.ifCond .ge 5, 3) := by decide +kernel
theorem dX6_line_13 : decode cX6_line 13 = .ok (.iconst (-1), 1) := by decide +kernel
theorem dX6_line_14 : decode cX6_line 14 = .ok (.ireturn, 1) := by decide +kernel
theorem dX6_line_15 : decode cX6_line 15 = .ok (.iload_n 2, 1) := by decide +kernel
theorem dX6_line_16 : decode cX6_line 16 = .ok (.aload_n 0, 1) := by decide +kernel
theorem dX6_line_17 : decode cX6_line 17 = .ok (.getfield 93, 3) := by decide +kernel
theorem dX6_line_20 : decode cX6_line 20 = .ok (.iload_n 1, 1) := by decide +kernel
theorem dX6_line_21 : decode cX6_line 21 = .ok (.iaload, 1) := by decide +kernel
theorem dX6_line_22 : decode cX6_line 22 = .ok (.if_icmp .ge 17, 3) := by decide +kernel
theorem dX6_line_25 : decode cX6_line 25 = .ok (.aload_n 0, 1) := by decide +kernel
theorem dX6_line_26 : decode cX6_line 26 = .ok (.getfield 96, 3) := by decide +kernel
theorem dX6_line_29 : decode cX6_line 29 = .ok (.bipush 30, 2) := by decide +kernel
theorem dX6_line_31 : decode cX6_line 31 = .ok (.iload_n 1, 1) := by decide +kernel
theorem dX6_line_32 : decode cX6_line 32 = .ok (.imul, 1) := by decide +kernel
theorem dX6_line_33 : decode cX6_line 33 = .ok (.iload_n 2, 1) := by decide +kernel
theorem dX6_line_34 : decode cX6_line 34 = .ok (.iadd, 1) := by decide +kernel
theorem dX6_line_35 : decode cX6_line 35 = .ok (.iaload, 1) := by decide +kernel
theorem dX6_line_36 : decode cX6_line 36 = .ok (.goto 5, 3) := by decide +kernel
theorem dX6_line_39 : decode cX6_line 39 = .ok (.bipush (-4), 2) := by decide +kernel
theorem dX6_line_41 : decode cX6_line 41 = .ok (.ireturn, 1) := by decide +kernel
theorem dX6_in_0 : decode cX6_in 0 = .ok (.iload_n 1, 1) := by decide +kernel
theorem dX6_in_1 : decode cX6_in 1 = .ok (.iconst 0, 1) := by decide +kernel
theorem dX6_in_2 : decode cX6_in 2 = .ok (.bipush 7, 2) := by decide +kernel
theorem dX6_in_4 : decode cX6_in 4 = .ok (.invokestatic 108, 3) := by decide +kernel
theorem dX6_in_7 : decode cX6_in 7 = .ok (.ifCond .eq 16, 3) := by decide +kernel
theorem dX6_in_10 : decode cX6_in 10 = .ok (.iload_n 2, 1) := by decide +kernel
theorem dX6_in_11 : decode cX6_in 11 = .ok (.iconst 0, 1) := by decide +kernel
theorem dX6_in_12 : decode cX6_in 12 = .ok (.iconst 1, 1) := by decide +kernel
theorem dX6_in_13 : decode cX6_in 13 = .ok (.invokestatic 108, 3) := by decide +kernel
theorem dX6_in_16 : decode cX6_in 16 = .ok (.ifCond .eq 7, 3) := by decide +kernel
theorem dX6_in_19 : decode cX6_in 19 = .ok (.iload_n 3, 1) := by decide +kernel
theorem dX6_in_20 : decode cX6_in 20 = .ok (.ifCond .ge 5, 3) := by decide +kernel
theorem dX6_in_23 : decode cX6_in 23 = .ok (.iconst (-1), 1) := by decide +kernel
theorem dX6_in_24 : decode cX6_in 24 = .ok (.ireturn, 1) := by decide +kernel
theorem dX6_in_25 : decode cX6_in 25 = .ok (.iload_n 3, 1) := by decide +kernel
theorem dX6_in_26 : decode cX6_in 26 = .ok (.aload_n 0, 1) := by decide +kernel
theorem dX6_in_27 : decode cX6_in 27 = .ok (.getfield 99, 3) := by decide +kernel
theorem dX6_in_30 : decode cX6_in 30 = .ok (.iconst 2, 1) := by decide +kernel
theorem dX6_in_31 : decode cX6_in 31 = .ok (.iload_n 1, 1) := by decide +kernel
theorem dX6_in_32 : decode cX6_in 32 = .ok (.imul, 1) := by decide +kernel
theorem dX6_in_33 : decode cX6_in 33 = .ok (.iload_n 2, 1) := by decide +kernel
theorem dX6_in_34 : decode cX6_in 34 = .ok (.iadd, 1) := by decide +kernel
theorem dX6_in_35 : decode cX6_in 35 = .ok (.iaload, 1) := by decide +kernel
theorem dX6_in_36 : decode cX6_in 36 = .ok (.if_icmp .ge 21, 3) := by decide +kernel
theorem dX6_in_39 : decode cX6_in 39 = .ok (.aload_n 0, 1) := by decide +kernel
theorem dX6_in_40 : decode cX6_in 40 = .ok (.getfield 102, 3) := by decide +kernel
theorem dX6_in_43 : decode cX6_in 43 = .ok (.bipush 30, 2) := by decide +kernel
theorem dX6_in_45 : decode cX6_in 45 = .ok (.iconst 2, 1) := by decide +kernel
theorem dX6_in_46 : decode cX6_in 46 = .ok (.iload_n 1, 1) := by decide +kernel
theorem dX6_in_47 : decode cX6_in 47 = .ok (.imul, 1) := by decide +kernel
theorem dX6_in_48 : decode cX6_in 48 = .ok (.iload_n 2, 1) := by decide +kernel
theorem dX6_in_49 : decode cX6_in 49 = .ok (.iadd, 1) := by decide +kernel
theorem dX6_in_50 : decode cX6_in 50 = .ok (.imul, 1) := by decide +kernel
theorem dX6_in_51 : decode cX6_in 51 = .ok (.iload_n 3, 1) := by decide +kernel
theorem dX6_in_52 : decode cX6_in 52 = .ok (.iadd, 1) := by decide +kernel
theorem dX6_in_53 : decode cX6_in 53 = .ok (.iaload, 1) := by decide +kernel
theorem dX6_in_54 : decode cX6_in 54 = .ok (.goto 5, 3) := by decide +kernel
theorem dX6_in_57 : decode cX6_in 57 = .ok (.bipush (-4), 2) := by decide +kernel
theorem dX6_in_59 : decode cX6_in 59 = .ok (.ireturn, 1) := by decide +kernel
theorem dX6_several_0 : decode cX6_several 0 = .ok (.iconst 0, 1) := by decide +kernel
theorem dX6_several_1 : decode cX6_several 1 = .ok (.istore_n 1, 1) := by decide +kernel
theorem dX6_several_2 : decode cX6_several 2 = .ok (.iconst 0, 1) := by decide +kernel
theorem dX6_several_3 : decode cX6_several 3 = .ok (.istore_n 2, 1) := by decide +kernel
theorem dX6_several_4 : decode cX6_several 4 = .ok (.iload_n 2, 1) := by decide +kernel
theorem dX6_several_5 : decode cX6_several 5 = .ok (.bipush 8, 2) := by decide +kernel
theorem dX6_several_7 : decode cX6_several 7 = .ok (.if_icmp .ge 65, 3) := by decide +kernel
theorem dX6_several_10 : decode cX6_several 10 = .ok (.aload_n 0, 1) := by decide +kernel
theorem dX6_several_11 : decode cX6_several 11 = .ok (.getfield 99, 3) := by decide +kernel
theorem dX6_several_14 : decode cX6_several 14 = .ok (.iconst 2, 1) := by decide +kernel
theorem dX6_several_15 : decode cX6_several 15 = .ok (.iload_n 2, 1) := by decide +kernel
theorem dX6_several_16 : decode cX6_several 16 = .ok (.imul, 1) := by decide +kernel
theorem dX6_several_17 : decode cX6_several 17 = .ok (.iaload, 1) := by decide +kernel
theorem dX6_several_18 : decode cX6_several 18 = .ok (.ifCond .le 7, 3) := by decide +kernel
theorem dX6_several_21 : decode cX6_several 21 = .ok (.iconst 1, 1) := by decide +kernel
theorem dX6_several_22 : decode cX6_several 22 = .ok (.goto 4, 3) := by decide +kernel
theorem dX6_several_25 : decode cX6_several 25 = .ok (.iconst 0, 1) := by decide +kernel
theorem dX6_several_26 : decode cX6_several 26 = .ok (.aload_n 0, 1) := by decide +kernel
theorem dX6_several_27 : decode cX6_several 27 = .ok (.getfield 99, 3) := by decide +kernel
theorem dX6_several_30 : decode cX6_several 30 = .ok (.iconst 2, 1) := by decide +kernel
theorem dX6_several_31 : decode cX6_several 31 = .ok (.iload_n 2, 1) := by decide +kernel
theorem dX6_several_32 : decode cX6_several 32 = .ok (.imul, 1) := by decide +kernel
theorem dX6_several_33 : decode cX6_several 33 = .ok (.iconst 1, 1) := by decide +kernel
theorem dX6_several_34 : decode cX6_several 34 = .ok (.iadd, 1) := by decide +kernel
theorem dX6_several_35 : decode cX6_several 35 = .ok (.iaload, 1) := by decide +kernel
theorem dX6_several_36 : decode cX6_several 36 = .ok (.ifCond .le 7, 3) := by decide +kernel
theorem dX6_several_39 : decode cX6_several 39 = .ok (.iconst 1, 1) := by decide +kernel
theorem dX6_several_40 : decode cX6_several 40 = .ok (.goto 4, 3) := by decide +kernel
theorem dX6_several_43 : decode cX6_several 43 = .ok (.iconst 0, 1) := by decide +kernel
theorem dX6_several_44 : decode cX6_several 44 = .ok (.iadd, 1) := by decide +kernel
theorem dX6_several_45 : decode cX6_several 45 = .ok (.istore_n 3, 1) := by decide +kernel
theorem dX6_several_46 : decode cX6_several 46 = .ok (.aload_n 0, 1) := by decide +kernel
theorem dX6_several_47 : decode cX6_several 47 = .ok (.getfield 20, 3) := by decide +kernel
theorem dX6_several_50 : decode cX6_several 50 = .ok (.iload_n 2, 1) := by decide +kernel
theorem dX6_several_51 : decode cX6_several 51 = .ok (.baload, 1) := by decide +kernel
theorem dX6_several_52 : decode cX6_several 52 = .ok (.ifCond .ne 12, 3) := by decide +kernel
theorem dX6_several_55 : decode cX6_several 55 = .ok (.iload_n 3, 1) := by decide +kernel
theorem dX6_several_56 : decode cX6_several 56 = .ok (.iload_n 1, 1) := by decide +kernel
theorem dX6_several_57 : decode cX6_several 57 = .ok (.if_icmp .le 7, 3) := by decide +kernel
theorem dX6_several_60 : decode cX6_several 60 = .ok (.iload_n 3, 1) := by decide +kernel
theorem dX6_several_61 : decode cX6_several 61 = .ok (.goto 4, 3) := by decide +kernel
theorem dX6_several_64 : decode cX6_several 64 = .ok (.iload_n 1, 1) := by decide +kernel
theorem dX6_several_65 : decode cX6_several 65 = .ok (.istore_n 1, 1) := by decide +kernel
theorem dX6_several_66 : decode cX6_several 66 = .ok (.iinc 2 1, 3) := by decide +kernel
theorem dX6_several_69 : decode cX6_several 69 = .ok (.goto (-65), 3) := by decide +kernel
theorem dX6_several_72 : decode cX6_several 72 = .ok (.iload_n 1, 1) := by decide +kernel
theorem dX6_several_73 : decode cX6_several 73 = .ok (.ireturn, 1) := by decide +kernel
theorem dX6_count_0 : decode cX6_count 0 = .ok (.iconst 0, 1) := by decide +kernel
theorem dX6_count_1 : decode cX6_count 1 = .ok (.istore_n 2, 1) := by decide +kernel
theorem dX6_count_2 : decode cX6_count 2 = .ok (.iconst 0, 1) := by decide +kernel
theorem dX6_count_3 : decode cX6_count 3 = .ok (.istore_n 3, 1) := by decide +kernel
theorem dX6_count_4 : decode cX6_count 4 = .ok (.iconst 0, 1) := by decide +kernel
theorem dX6_count_5 : decode cX6_count 5 = .ok (.istore 4, 2) := by decide +kernel
theorem dX6_count_7 : decode cX6_count 7 = .ok (.iconst 0, 1) := by decide +kernel
theorem dX6_count_8 : decode cX6_count 8 = .ok (.istore 5, 2) := by decide +kernel
theorem dX6_count_10 : decode cX6_count 10 = .ok (.iconst 0, 1) := by decide +kernel
theorem dX6_count_11 : decode cX6_count 11 = .ok (.istore 6, 2) := by decide +kernel
theorem dX6_count_13 : decode cX6_count 13 = .ok (.iload 6, 2) := by decide +kernel
theorem dX6_count_15 : decode cX6_count 15 = .ok (.aload_n 0, 1) := by decide +kernel
theorem dX6_count_16 : decode cX6_count 16 = .ok (.getfield 119, 3) := by decide +kernel
theorem dX6_count_19 : decode cX6_count 19 = .ok (.if_icmp .ge 99, 3) := by decide +kernel
theorem dX6_count_22 : decode cX6_count 22 = .ok (.iload_n 2, 1) := by decide +kernel
theorem dX6_count_23 : decode cX6_count 23 = .ok (.aload_n 0, 1) := by decide +kernel
theorem dX6_count_24 : decode cX6_count 24 = .ok (.getfield 48, 3) := by decide +kernel
theorem dX6_count_27 : decode cX6_count 27 = .ok (.iload 6, 2) := by decide +kernel
theorem dX6_count_29 : decode cX6_count 29 = .ok (.iaload, 1) := by decide +kernel
theorem dX6_count_30 : decode cX6_count 30 = .ok (.bipush 8, 2) := by decide +kernel
theorem dX6_count_32 : decode cX6_count 32 = .ok (.if_icmp .ne 7, 3) := by decide +kernel
theorem dX6_count_35 : decode cX6_count 35 = .ok (.iconst 1, 1) := by decide +kernel
theorem dX6_count_36 : decode cX6_count 36 = .ok (.goto 4, 3) := by decide +kernel
theorem dX6_count_39 : decode cX6_count 39 = .ok (.iconst 0, 1) := by decide +kernel
theorem dX6_count_40 : decode cX6_count 40 = .ok (.iadd, 1) := by decide +kernel
theorem dX6_count_41 : decode cX6_count 41 = .ok (.istore_n 2, 1) := by decide +kernel
theorem dX6_count_42 : decode cX6_count 42 = .ok (.iload_n 3, 1) := by decide +kernel
theorem dX6_count_43 : decode cX6_count 43 = .ok (.aload_n 0, 1) := by decide +kernel
theorem dX6_count_44 : decode cX6_count 44 = .ok (.getfield 57, 3) := by decide +kernel
theorem dX6_count_47 : decode cX6_count 47 = .ok (.iload 6, 2) := by decide +kernel
theorem dX6_count_49 : decode cX6_count 49 = .ok (.baload, 1) := by decide +kernel
theorem dX6_count_50 : decode cX6_count 50 = .ok (.ifCond .eq 7, 3) := by decide +kernel
theorem dX6_count_53 : decode cX6_count 53 = .ok (.iconst 1, 1) := by decide +kernel
theorem dX6_count_54 : decode cX6_count 54 = .ok (.goto 4, 3) := by decide +kernel
theorem dX6_count_57 : decode cX6_count 57 = .ok (.iconst 0, 1) := by decide +kernel
theorem dX6_count_58 : decode cX6_count 58 = .ok (.iadd, 1) := by decide +kernel
theorem dX6_count_59 : decode cX6_count 59 = .ok (.istore_n 3, 1) := by decide +kernel
theorem dX6_count_60 : decode cX6_count 60 = .ok (.iload 4, 2) := by decide +kernel
theorem dX6_count_62 : decode cX6_count 62 = .ok (.aload_n 0, 1) := by decide +kernel
theorem dX6_count_63 : decode cX6_count 63 = .ok (.getfield 54, 3) := by decide +kernel
theorem dX6_count_66 : decode cX6_count 66 = .ok (.iload 6, 2) := by decide +kernel
theorem dX6_count_68 : decode cX6_count 68 = .ok (.baload, 1) := by decide +kernel
theorem dX6_count_69 : decode cX6_count 69 = .ok (.ifCond .eq 7, 3) := by decide +kernel
theorem dX6_count_72 : decode cX6_count 72 = .ok (.iconst 1, 1) := by decide +kernel
theorem dX6_count_73 : decode cX6_count 73 = .ok (.goto 4, 3) := by decide +kernel
theorem dX6_count_76 : decode cX6_count 76 = .ok (.iconst 0, 1) := by decide +kernel
theorem dX6_count_77 : decode cX6_count 77 = .ok (.iadd, 1) := by decide +kernel
theorem dX6_count_78 : decode cX6_count 78 = .ok (.istore 4, 2) := by decide +kernel
theorem dX6_count_80 : decode cX6_count 80 = .ok (.iload 5, 2) := by decide +kernel
theorem dX6_count_82 : decode cX6_count 82 = .ok (.aload_n 0, 1) := by decide +kernel
theorem dX6_count_83 : decode cX6_count 83 = .ok (.getfield 48, 3) := by decide +kernel
theorem dX6_count_86 : decode cX6_count 86 = .ok (.iload 6, 2) := by decide +kernel
theorem dX6_count_88 : decode cX6_count 88 = .ok (.iaload, 1) := by decide +kernel
theorem dX6_count_89 : decode cX6_count 89 = .ok (.ifCond .lt 19, 3) := by decide +kernel
theorem dX6_count_92 : decode cX6_count 92 = .ok (.aload_n 0, 1) := by decide +kernel
theorem dX6_count_93 : decode cX6_count 93 = .ok (.getfield 48, 3) := by decide +kernel
theorem dX6_count_96 : decode cX6_count 96 = .ok (.iload 6, 2) := by decide +kernel
theorem dX6_count_98 : decode cX6_count 98 = .ok (.iaload, 1) := by decide +kernel
theorem dX6_count_99 : decode cX6_count 99 = .ok (.bipush 8, 2) := by decide +kernel
theorem dX6_count_101 : decode cX6_count 101 = .ok (.if_icmp .ge 7, 3) := by decide +kernel
theorem dX6_count_104 : decode cX6_count 104 = .ok (.iconst 1, 1) := by decide +kernel
theorem dX6_count_105 : decode cX6_count 105 = .ok (.goto 4, 3) := by decide +kernel
theorem dX6_count_108 : decode cX6_count 108 = .ok (.iconst 0, 1) := by decide +kernel
theorem dX6_count_109 : decode cX6_count 109 = .ok (.iadd, 1) := by decide +kernel
theorem dX6_count_110 : decode cX6_count 110 = .ok (.istore 5, 2) := by decide +kernel
theorem dX6_count_112 : decode cX6_count 112 = .ok (.iinc 6 1, 3) := by decide +kernel
theorem dX6_count_115 : decode cX6_count 115 = .ok (.goto (-102), 3) := by decide +kernel
theorem dX6_count_118 : decode cX6_count 118 = .ok (.iload_n 1, 1) := by decide +kernel
theorem dX6_count_119 : decode cX6_count 119 = .ok (.tableswitch 75 0 7 #[45, 50, 55, 60, 62, 64, 67, 70], 45) := by decide +kernel
theorem dX6_count_164 : decode cX6_count 164 = .ok (.aload_n 0, 1) := by decide +kernel
theorem dX6_count_165 : decode cX6_count 165 = .ok (.getfield 119, 3) := by decide +kernel
theorem dX6_count_168 : decode cX6_count 168 = .ok (.ireturn, 1) := by decide +kernel
theorem dX6_count_169 : decode cX6_count 169 = .ok (.aload_n 0, 1) := by decide +kernel
theorem dX6_count_170 : decode cX6_count 170 = .ok (.getfield 122, 3) := by decide +kernel
theorem dX6_count_173 : decode cX6_count 173 = .ok (.ireturn, 1) := by decide +kernel
theorem dX6_count_174 : decode cX6_count 174 = .ok (.aload_n 0, 1) := by decide +kernel
theorem dX6_count_175 : decode cX6_count 175 = .ok (.getfield 112, 3) := by decide +kernel
theorem dX6_count_178 : decode cX6_count 178 = .ok (.ireturn, 1) := by decide +kernel
theorem dX6_count_179 : decode cX6_count 179 = .ok (.iload_n 2, 1) := by decide +kernel
theorem dX6_count_180 : decode cX6_count 180 = .ok (.ireturn, 1) := by decide +kernel
theorem dX6_count_181 : decode cX6_count 181 = .ok (.iload_n 3, 1) := by decide +kernel
theorem dX6_count_182 : decode cX6_count 182 = .ok (.ireturn, 1) := by decide +kernel
theorem dX6_count_183 : decode cX6_count 183 = .ok (.iload 4, 2) := by decide +kernel
theorem dX6_count_185 : decode cX6_count 185 = .ok (.ireturn, 1) := by decide +kernel
theorem dX6_count_186 : decode cX6_count 186 = .ok (.iload 5, 2) := by decide +kernel
theorem dX6_count_188 : decode cX6_count 188 = .ok (.ireturn, 1) := by decide +kernel
theorem dX6_count_189 : decode cX6_count 189 = .ok (.aload_n 0, 1) := by decide +kernel
theorem dX6_count_190 : decode cX6_count 190 = .ok (.invokevirtual 171, 3) := by decide +kernel
theorem dX6_count_193 : decode cX6_count 193 = .ok (.ireturn, 1) := by decide +kernel
theorem dX6_count_194 : decode cX6_count 194 = .ok (.iconst (-1), 1) := by decide +kernel
theorem dX6_count_195 : decode cX6_count 195 = .ok (.ireturn, 1) := by decide +kernel
