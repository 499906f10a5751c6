theorem dX8_init_0 : decode cX8_init 0 = .ok (.aload_n 0, 1) := by decide +kernel
theorem dX8_init_1 : decode cX8_init 1 = .ok (.invokespecial 1, 3) := by decide +kernel
theorem dX8_init_4 : decode cX8_init 4 = .ok (.aload_n 0, 1) := by decide +kernel
theorem dX8_init_5 : decode cX8_init 5 = .ok (.bipush 10, 2) := by decide +kernel
theorem dX8_init_7 : decode cX8_init 7 = .ok (.newarray .int, 2) := by decide +kernel
theorem dX8_init_9 : decode cX8_init 9 = .ok (.putfield 7, 3) := by decide +kernel
theorem dX8_init_12 : decode cX8_init 12 = .ok (.aload_n 0, 1) := by decide +kernel
theorem dX8_init_13 : decode cX8_init 13 = .ok (.bipush 10, 2) := by decide +kernel
theorem dX8_init_15 : decode cX8_init 15 = .ok (.newarray .int, 2) := by decide +kernel
theorem dX8_init_17 : decode cX8_init 17 = .ok (.putfield 13, 3) := by decide +kernel
theorem dX8_init_20 : decode cX8_init 20 = .ok (.aload_n 0, 1) := by decide +kernel
theorem dX8_init_21 : decode cX8_init 21 = .ok (.bipush 10, 2) := by decide +kernel
theorem dX8_init_23 : decode cX8_init 23 = .ok (.newarray .int, 2) := by decide +kernel
theorem dX8_init_25 : decode cX8_init 25 = .ok (.putfield 16, 3) := by decide +kernel
theorem dX8_init_28 : decode cX8_init 28 = .ok (.aload_n 0, 1) := by decide +kernel
theorem dX8_init_29 : decode cX8_init 29 = .ok (.bipush 10, 2) := by decide +kernel
theorem dX8_init_31 : decode cX8_init 31 = .ok (.newarray .boolean, 2) := by decide +kernel
theorem dX8_init_33 : decode cX8_init 33 = .ok (.putfield 19, 3) := by decide +kernel
theorem dX8_init_36 : decode cX8_init 36 = .ok (.aload_n 0, 1) := by decide +kernel
theorem dX8_init_37 : decode cX8_init 37 = .ok (.bipush 24, 2) := by decide +kernel
theorem dX8_init_39 : decode cX8_init 39 = .ok (.newarray .int, 2) := by decide +kernel
theorem dX8_init_41 : decode cX8_init 41 = .ok (.putfield 23, 3) := by decide +kernel
theorem dX8_init_44 : decode cX8_init 44 = .ok (.aload_n 0, 1) := by decide +kernel
theorem dX8_init_45 : decode cX8_init 45 = .ok (.bipush 24, 2) := by decide +kernel
theorem dX8_init_47 : decode cX8_init 47 = .ok (.newarray .int, 2) := by decide +kernel
theorem dX8_init_49 : decode cX8_init 49 = .ok (.putfield 26, 3) := by decide +kernel
theorem dX8_init_52 : decode cX8_init 52 = .ok (.aload_n 0, 1) := by decide +kernel
theorem dX8_init_53 : decode cX8_init 53 = .ok (.bipush 24, 2) := by decide +kernel
theorem dX8_init_55 : decode cX8_init 55 = .ok (.newarray .boolean, 2) := by decide +kernel
theorem dX8_init_57 : decode cX8_init 57 = .ok (.putfield 29, 3) := by decide +kernel
theorem dX8_init_60 : decode cX8_init 60 = .ok (.aload_n 0, 1) := by decide +kernel
theorem dX8_init_61 : decode cX8_init 61 = .ok (.bipush 24, 2) := by decide +kernel
theorem dX8_init_63 : decode cX8_init 63 = .ok (.newarray .boolean, 2) := by decide +kernel
theorem dX8_init_65 : decode cX8_init 65 = .ok (.putfield 32, 3) := by decide +kernel
theorem dX8_init_68 : decode cX8_init 68 = .ok (.aload_n 0, 1) := by decide +kernel
theorem dX8_init_69 : decode cX8_init 69 = .ok (.bipush 24, 2) := by decide +kernel
theorem dX8_init_71 : decode cX8_init 71 = .ok (.newarray .int, 2) := by decide +kernel
theorem dX8_init_73 : decode cX8_init 73 = .ok (.putfield 35, 3) := by decide +kernel
theorem dX8_init_76 : decode cX8_init 76 = .ok (.aload_n 0, 1) := by decide +kernel
theorem dX8_init_77 : decode cX8_init 77 = .ok (.sipush 240, 3) := by decide +kernel
theorem dX8_init_80 : decode cX8_init 80 = .ok (.newarray .int, 2) := by decide +kernel
theorem dX8_init_82 : decode cX8_init 82 = .ok (.putfield 38, 3) := by decide +kernel
theorem dX8_init_85 : decode cX8_init 85 = .ok (.aload_n 0, 1) := by decide +kernel
theorem dX8_init_86 : decode cX8_init 86 = .ok (.sipush 240, 3) := by decide +kernel
theorem dX8_init_89 : decode cX8_init 89 = .ok (.newarray .int, 2) := by decide +kernel
theorem dX8_init_91 : decode cX8_init 91 = .ok (.putfield 41, 3) := by decide +kernel
theorem dX8_init_94 : decode cX8_init 94 = .ok (.aload_n 0, 1) := by decide +kernel
theorem dX8_init_95 : decode cX8_init 95 = .ok (.sipush 240, 3) := by decide +kernel
theorem dX8_init_98 : decode cX8_init 98 = .ok (.newarray .int, 2) := by decide +kernel
theorem dX8_init_100 : decode cX8_init 100 = .ok (.putfield 44, 3) := by decide +kernel
theorem dX8_init_103 : decode cX8_init 103 = .ok (.aload_n 0, 1) := by decide +kernel
theorem dX8_init_104 : decode cX8_init 104 = .ok (.sipush 240, 3) := by decide +kernel
theorem dX8_init_107 : decode cX8_init 107 = .ok (.newarray .boolean, 2) := by decide +kernel
theorem dX8_init_109 : decode cX8_init 109 = .ok (.putfield 47, 3) := by decide +kernel
theorem dX8_init_112 : decode cX8_init 112 = .ok (.aload_n 0, 1) := by decide +kernel
theorem dX8_init_113 : decode cX8_init 113 = .ok (.sipush 800, 3) := by decide +kernel
theorem dX8_init_116 : decode cX8_init 116 = .ok (.newarray .int, 2) := by decide +kernel
theorem dX8_init_118 : decode cX8_init 118 = .ok (.putfield 50, 3) := by decide +kernel
theorem dX8_init_121 : decode cX8_init 121 = .ok (.aload_n 0, 1) := by decide +kernel
theorem dX8_init_122 : decode cX8_init 122 = .ok (.bipush 6, 2) := by decide +kernel
theorem dX8_init_124 : decode cX8_init 124 = .ok (.newarray .int, 2) := by decide +kernel
theorem dX8_init_126 : decode cX8_init 126 = .ok (.putfield 53, 3) := by decide +kernel
theorem dX8_init_129 : decode cX8_init 129 = .ok (.aload_n 0, 1) := by decide +kernel
theorem dX8_init_130 : decode cX8_init 130 = .ok (.bipush 6, 2) := by decide +kernel
theorem dX8_init_132 : decode cX8_init 132 = .ok (.newarray .int, 2) := by decide +kernel
theorem dX8_init_134 : decode cX8_init 134 = .ok (.putfield 56, 3) := by decide +kernel
theorem dX8_init_137 : decode cX8_init 137 = .ok (.aload_n 0, 1) := by decide +kernel
theorem dX8_init_138 : decode cX8_init 138 = .ok (.bipush 6, 2) := by decide +kernel
theorem dX8_init_140 : decode cX8_init 140 = .ok (.newarray .int, 2) := by decide +kernel
theorem dX8_init_142 : decode cX8_init 142 = .ok (.putfield 59, 3) := by decide +kernel
theorem dX8_init_145 : decode cX8_init 145 = .ok (.aload_n 0, 1) := by decide +kernel
theorem dX8_init_146 : decode cX8_init 146 = .ok (.sipush 144, 3) := by decide +kernel
theorem dX8_init_149 : decode cX8_init 149 = .ok (.newarray .int, 2) := by decide +kernel
theorem dX8_init_151 : decode cX8_init 151 = .ok (.putfield 62, 3) := by decide +kernel
theorem dX8_init_154 : decode cX8_init 154 = .ok (.aload_n 0, 1) := by decide +kernel
theorem dX8_init_155 : decode cX8_init 155 = .ok (.bipush 8, 2) := by decide +kernel
theorem dX8_init_157 : decode cX8_init 157 = .ok (.newarray .int, 2) := by decide +kernel
theorem dX8_init_159 : decode cX8_init 159 = .ok (.putfield 65, 3) := by decide +kernel
theorem dX8_init_162 : decode cX8_init 162 = .ok (.aload_n 0, 1) := by decide +kernel
theorem dX8_init_163 : decode cX8_init 163 = .ok (.bipush 8, 2) := by decide +kernel
theorem dX8_init_165 : decode cX8_init 165 = .ok (.newarray .int, 2) := by decide +kernel
theorem dX8_init_167 : decode cX8_init 167 = .ok (.putfield 68, 3) := by decide +kernel
theorem dX8_init_170 : decode cX8_init 170 = .ok (.aload_n 0, 1) := by decide +kernel
theorem dX8_init_171 : decode cX8_init 171 = .ok (.bipush 8, 2) := by decide +kernel
theorem dX8_init_173 : decode cX8_init 173 = .ok (.newarray .int, 2) := by decide +kernel
theorem dX8_init_175 : decode cX8_init 175 = .ok (.putfield 71, 3) := by decide +kernel
theorem dX8_init_178 : decode cX8_init 178 = .ok (.aload_n 0, 1) := by decide +kernel
theorem dX8_init_179 : decode cX8_init 179 = .ok (.bipush 8, 2) := by decide +kernel
theorem dX8_init_181 : decode cX8_init 181 = .ok (.newarray .int, 2) := by decide +kernel
theorem dX8_init_183 : decode cX8_init 183 = .ok (.putfield 74, 3) := by decide +kernel
theorem dX8_init_186 : decode cX8_init 186 = .ok (.aload_n 0, 1) := by decide +kernel
theorem dX8_init_187 : decode cX8_init 187 = .ok (.bipush 8, 2) := by decide +kernel
theorem dX8_init_189 : decode cX8_init 189 = .ok (.newarray .int, 2) := by decide +kernel
theorem dX8_init_191 : decode cX8_init 191 = .ok (.putfield 77, 3) := by decide +kernel
theorem dX8_init_194 : decode cX8_init 194 = .ok (.aload_n 0, 1) := by decide +kernel
theorem dX8_init_195 : decode cX8_init 195 = .ok (.bipush 8, 2) := by decide +kernel
theorem dX8_init_197 : decode cX8_init 197 = .ok (.newarray .int, 2) := by decide +kernel
theorem dX8_init_199 : decode cX8_init 199 = .ok (.putfield 80, 3) := by decide +kernel
theorem dX8_init_202 : decode cX8_init 202 = .ok (.aload_n 0, 1) := by decide +kernel
theorem dX8_init_203 : decode cX8_init 203 = .ok (.bipush 8, 2) := by decide +kernel
theorem dX8_init_205 : decode cX8_init 205 = .ok (.newarray .int, 2) := by decide +kernel
theorem dX8_init_207 : decode cX8_init 207 = .ok (.putfield 83, 3) := by decide +kernel
theorem dX8_init_210 : decode cX8_init 210 = .ok (.aload_n 0, 1) := by decide +kernel
theorem dX8_init_211 : decode cX8_init 211 = .ok (.bipush 8, 2) := by decide +kernel
theorem dX8_init_213 : decode cX8_init 213 = .ok (.newarray .int, 2) := by decide +kernel
theorem dX8_init_215 : decode cX8_init 215 = .ok (.putfield 86, 3) := by decide +kernel
theorem dX8_init_218 : decode cX8_init 218 = .ok (.aload_n 0, 1) := by decide +kernel
theorem dX8_init_219 : decode cX8_init 219 = .ok (.bipush 10, 2) := by decide +kernel
theorem dX8_init_221 : decode cX8_init 221 = .ok (.newarray .boolean, 2) := by decide +kernel
theorem dX8_init_223 : decode cX8_init 223 = .ok (.putfield 89, 3) := by decide +kernel
theorem dX8_init_226 : decode cX8_init 226 = .ok (.aload_n 0, 1) := by decide +kernel
theorem dX8_init_227 : decode cX8_init 227 = .ok (.sipush 2400, 3) := by decide +kernel
theorem dX8_init_230 : decode cX8_init 230 = .ok (.newarray .boolean, 2) := by decide +kernel
theorem dX8_init_232 : decode cX8_init 232 = .ok (.putfield 92, 3) := by decide +kernel
theorem dX8_init_235 : decode cX8_init 235 = .ok (.aload_n 0, 1) := by decide +kernel
theorem dX8_init_236 : decode cX8_init 236 = .ok (.bipush 60, 2) := by decide +kernel
theorem dX8_init_238 : decode cX8_init 238 = .ok (.newarray .int, 2) := by decide +kernel
theorem dX8_init_240 : decode cX8_init 240 = .ok (.putfield 95, 3) := by decide +kernel
theorem dX8_init_243 : decode cX8_init 243 = .ok (.aload_n 0, 1) := by decide +kernel
theorem dX8_init_244 : decode cX8_init 244 = .ok (.bipush 60, 2) := by decide +kernel
theorem dX8_init_246 : decode cX8_init 246 = .ok (.newarray .int, 2) := by decide +kernel
theorem dX8_init_248 : decode cX8_init 248 = .ok (.putfield 98, 3) := by decide +kernel
theorem dX8_init_251 : decode cX8_init 251 = .ok (.aload_n 0, 1) := by decide +kernel
theorem dX8_init_252 : decode cX8_init 252 = .ok (.bipush 60, 2) := by decide +kernel
theorem dX8_init_254 : decode cX8_init 254 = .ok (.newarray .int, 2) := by decide +kernel
theorem dX8_init_256 : decode cX8_init 256 = .ok (.putfield 101, 3) := by decide +kernel
theorem dX8_init_259 : decode cX8_init 259 = .ok (.aload_n 0, 1) := by decide +kernel
theorem dX8_init_260 : decode cX8_init 260 = .ok (.bipush 60, 2) := by decide +kernel
theorem dX8_init_262 : decode cX8_init 262 = .ok (.newarray .int, 2) := by decide +kernel
theorem dX8_init_264 : decode cX8_init 264 = .ok (.putfield 104, 3) := by decide +kernel
theorem dX8_init_267 : decode cX8_init 267 = .ok (.aload_n 0, 1) := by decide +kernel
theorem dX8_init_268 : decode cX8_init 268 = .ok (.bipush 60, 2) := by decide +kernel
theorem dX8_init_270 : decode cX8_init 270 = .ok (.newarray .int, 2) := by decide +kernel
theorem dX8_init_272 : decode cX8_init 272 = .ok (.putfield 107, 3) := by decide +kernel
theorem dX8_init_275 : decode cX8_init 275 = .ok (.aload_n 0, 1) := by decide +kernel
theorem dX8_init_276 : decode cX8_init 276 = .ok (.sipush 600, 3) := by decide +kernel
theorem dX8_init_279 : decode cX8_init 279 = .ok (.newarray .int, 2) := by decide +kernel
theorem dX8_init_281 : decode cX8_init 281 = .ok (.putfield 110, 3) := by decide +kernel
theorem dX8_init_284 : decode cX8_init 284 = .ok (.aload_n 0, 1) := by decide +kernel
theorem dX8_init_285 : decode cX8_init 285 = .ok (.sipush 600, 3) := by decide +kernel
theorem dX8_init_288 : decode cX8_init 288 = .ok (.newarray .int, 2) := by decide +kernel
theorem dX8_init_290 : decode cX8_init 290 = .ok (.putfield 113, 3) := by decide +kernel
theorem dX8_init_293 : decode cX8_init 293 = .ok (.aload_n 0, 1) := by decide +kernel
theorem dX8_init_294 : decode cX8_init 294 = .ok (.bipush 60, 2) := by decide +kernel
theorem dX8_init_296 : decode cX8_init 296 = .ok (.newarray .int, 2) := by decide +kernel
theorem dX8_init_298 : decode cX8_init 298 = .ok (.putfield 116, 3) := by decide +kernel
theorem dX8_init_301 : decode cX8_init 301 = .ok (.aload_n 0, 1) := by decide +kernel
theorem dX8_init_302 : decode cX8_init 302 = .ok (.ldc 119, 2) := by decide +kernel
theorem dX8_init_304 : decode cX8_init 304 = .ok (.newarray .boolean, 2) := by decide +kernel
theorem dX8_init_306 : decode cX8_init 306 = .ok (.putfield 120, 3) := by decide +kernel
theorem dX8_init_309 : decode cX8_init 309 = .ok (.aload_n 0, 1) := by decide +kernel
theorem dX8_init_310 : decode cX8_init 310 = .ok (.bipush 60, 2) := by decide +kernel
theorem dX8_init_312 : decode cX8_init 312 = .ok (.newarray .boolean, 2) := by decide +kernel
theorem dX8_init_314 : decode cX8_init 314 = .ok (.putfield 123, 3) := by decide +kernel
theorem dX8_init_317 : decode cX8_init 317 = .ok (.aload_n 0, 1) := by decide +kernel
theorem dX8_init_318 : decode cX8_init 318 = .ok (.sipush 200, 3) := by decide +kernel
theorem dX8_init_321 : decode cX8_init 321 = .ok (.newarray .int, 2) := by decide +kernel
theorem dX8_init_323 : decode cX8_init 323 = .ok (.putfield 126, 3) := by decide +kernel
theorem dX8_init_326 : decode cX8_init 326 = .ok (.aload_n 0, 1) := by decide +kernel
theorem dX8_init_327 : decode cX8_init 327 = .ok (.sipush 200, 3) := by decide +kernel
theorem dX8_init_330 : decode cX8_init 330 = .ok (.newarray .int, 2) := by decide +kernel
theorem dX8_init_332 : decode cX8_init 332 = .ok (.putfield 129, 3) := by decide +kernel
theorem dX8_init_335 : decode cX8_init 335 = .ok (.aload_n 0, 1) := by decide +kernel
theorem dX8_init_336 : decode cX8_init 336 = .ok (.sipush 200, 3) := by decide +kernel
theorem dX8_init_339 : decode cX8_init 339 = .ok (.newarray .int, 2) := by decide +kernel
theorem dX8_init_341 : decode cX8_init 341 = .ok (.putfield 132, 3) := by decide +kernel
theorem dX8_init_344 : decode cX8_init 344 = .ok (.return_, 1) := by decide +kernel
theorem dX8_thrown_0 : decode cX8_thrown 0 = .ok (.aload_n 0, 1) := by decide +kernel
theorem dX8_thrown_1 : decode cX8_thrown 1 = .ok (.getfield 135, 3) := by decide +kernel
theorem dX8_thrown_4 : decode cX8_thrown 4 = .ok (.ireturn, 1) := by decide +kernel
theorem dX8_in_0 : decode cX8_in 0 = .ok (.iload_n 0, 1) := by decide +kernel
theorem dX8_in_1 : decode cX8_in 1 = .ok (.iload_n 1, 1) := by decide +kernel
theorem dX8_in_2 : decode cX8_in 2 = .ok (.if_icmp .lt 12, 3) := by decide +kernel
theorem dX8_in_5 : decode cX8_in 5 = .ok (.iload_n 0, 1) := by decide +kernel
theorem dX8_in_6 : decode cX8_in 6 = .ok (.iload_n 2, 1) := by decide +kernel
theorem dX8_in_7 : decode cX8_in 7 = .ok (.if_icmp .gt 7, 3) := by decide +kernel
theorem dX8_in_10 : decode cX8_in 10 = .ok (.iconst 1, 1) := by decide +kernel
theorem dX8_in_11 : decode cX8_in 11 = .ok (.goto 4, 3) := by decide +kernel
theorem dX8_in_14 : decode cX8_in 14 = .ok (.iconst 0, 1) := by decide +kernel
theorem dX8_in_15 : decode cX8_in 15 = .ok (.ireturn, 1) := by decide +kernel
theorem dX8_isFine_0 : decode cX8_isFine 0 = .ok (.aload_n 0, 1) := by decide +kernel
theorem dX8_isFine_1 : decode cX8_isFine 1 = .ok (.iload_n 1, 1) := by decide +kernel
theorem dX8_isFine_2 : decode cX8_isFine 2 = .ok (.putfield 135, 3) := by decide +kernel
theorem dX8_isFine_5 : decode cX8_isFine 5 = .ok (.iload_n 1, 1) := by decide +kernel
theorem dX8_isFine_6 : decode cX8_isFine 6 = .ok (.ifCond .ne 7, 3) := by decide +kernel
theorem dX8_isFine_9 : decode cX8_isFine 9 = .ok (.iconst 1, 1) := by decide +kernel
theorem dX8_isFine_10 : decode cX8_isFine 10 = .ok (.goto 4, 3) := by decide +kernel
theorem dX8_isFine_13 : decode cX8_isFine 13 = .ok (.iconst 0, 1) := by decide +kernel
theorem dX8_isFine_14 : decode cX8_isFine 14 = .ok (.ireturn, 1) := by decide +kernel
theorem dX8_isItem_0 : decode cX8_isItem 0 = .ok (.iload_n 1, 1) := by decide +kernel
theorem dX8_isItem_1 : decode cX8_isItem 1 = .ok (.iconst 0, 1) := by decide +kernel
theorem dX8_isItem_2 : decode cX8_isItem 2 = .ok (.aload_n 0, 1) := by decide +kernel
theorem dX8_isItem_3 : decode cX8_isItem 3 = .ok (.getfield 139, 3) := by decide +kernel
theorem dX8_isItem_6 : decode cX8_isItem 6 = .ok (.iconst 1, 1) := by decide +kernel
theorem dX8_isItem_7 : decode cX8_isItem 7 = .ok (.isub, 1) := by decide +kernel
theorem dX8_isItem_8 : decode cX8_isItem 8 = .ok (.invokestatic 142, 3) := by decide +kernel
theorem dX8_isItem_11 : decode cX8_isItem 11 = .ok (.ireturn, 1) := by decide +kernel
theorem dX8_isDownload_0 : decode cX8_isDownload 0 = .ok (.iload_n 1, 1) := by decide +kernel
theorem dX8_isDownload_1 : decode cX8_isDownload 1 = .ok (.iconst 0, 1) := by decide +kernel
theorem dX8_isDownload_2 : decode cX8_isDownload 2 = .ok (.aload_n 0, 1) := by decide +kernel
theorem dX8_isDownload_3 : decode cX8_isDownload 3 = .ok (.getfield 146, 3) := by decide +kernel
theorem dX8_isDownload_6 : decode cX8_isDownload 6 = .ok (.iconst 1, 1) := by decide +kernel
theorem dX8_isDownload_7 : decode cX8_isDownload 7 = .ok (.isub, 1) := by decide +kernel
theorem dX8_isDownload_8 : decode cX8_isDownload 8 = .ok (.invokestatic 142, 3) := by decide +kernel
theorem dX8_isDownload_11 : decode cX8_isDownload 11 = .ok (.ireturn, 1) := by decide +kernel
theorem dX8_drafts_0 : decode cX8_drafts 0 = .ok (.aload_n 0, 1) := by decide +kernel
theorem dX8_drafts_1 : decode cX8_drafts 1 = .ok (.getfield 7, 3) := by decide +kernel
theorem dX8_drafts_4 : decode cX8_drafts 4 = .ok (.aload_n 0, 1) := by decide +kernel
theorem dX8_drafts_5 : decode cX8_drafts 5 = .ok (.getfield 149, 3) := by decide +kernel
theorem dX8_drafts_8 : decode cX8_drafts 8 = .ok (.iload_n 1, 1) := by decide +kernel
theorem dX8_drafts_9 : decode cX8_drafts 9 = .ok (.iastore, 1) := by decide +kernel
theorem dX8_drafts_10 : decode cX8_drafts 10 = .ok (.aload_n 0, 1) := by decide +kernel
theorem dX8_drafts_11 : decode cX8_drafts 11 = .ok (.getfield 13, 3) := by decide +kernel
theorem dX8_drafts_14 : decode cX8_drafts 14 = .ok (.aload_n 0, 1) := by decide +kernel
theorem dX8_drafts_15 : decode cX8_drafts 15 = .ok (.getfield 149, 3) := by decide +kernel
theorem dX8_drafts_18 : decode cX8_drafts 18 = .ok (.iload_n 2, 1) := by decide +kernel
theorem dX8_drafts_19 : decode cX8_drafts 19 = .ok (.iastore, 1) := by decide +kernel
theorem dX8_drafts_20 : decode cX8_drafts 20 = .ok (.aload_n 0, 1) := by decide +kernel
theorem dX8_drafts_21 : decode cX8_drafts 21 = .ok (.getfield 16, 3) := by decide +kernel
theorem dX8_drafts_24 : decode cX8_drafts 24 = .ok (.aload_n 0, 1) := by decide +kernel
theorem dX8_drafts_25 : decode cX8_drafts 25 = .ok (.getfield 149, 3) := by decide +kernel
theorem dX8_drafts_28 : decode cX8_drafts 28 = .ok (.iload_n 3, 1) := by decide +kernel
theorem dX8_drafts_29 : decode cX8_drafts 29 = .ok (.iastore, 1) := by decide +kernel
theorem dX8_drafts_30 : decode cX8_drafts 30 = .ok (.aload_n 0, 1) := by decide +kernel
theorem dX8_drafts_31 : decode cX8_drafts 31 = .ok (.dup, 1) := by decide +kernel
theorem dX8_drafts_32 : decode cX8_drafts 32 = .ok (.getfield 149, 3) := by decide +kernel
theorem dX8_drafts_35 : decode cX8_drafts 35 = .ok (.iconst 1, 1) := by decide +kernel
theorem dX8_drafts_36 : decode cX8_drafts 36 = .ok (.iadd, 1) := by decide +kernel
theorem dX8_drafts_37 : decode cX8_drafts 37 = .ok (.putfield 149, 3) := by decide +kernel
theorem dX8_drafts_40 : decode cX8_drafts 40 = .ok (.aload_n 0, 1) := by decide +kernel
theorem dX8_drafts_41 : decode cX8_drafts 41 = .ok (.getfield 149, 3) := by decide +kernel
theorem dX8_drafts_44 : decode cX8_drafts 44 = .ok (.ireturn, 1) := by decide +kernel
theorem dX8_talk_0 : decode cX8_talk 0 = .ok (.aload_n 0, 1) := by decide +kernel
theorem dX8_talk_1 : decode cX8_talk 1 = .ok (.iload_n 1, 1) := by decide +kernel
theorem dX8_talk_2 : decode cX8_talk 2 = .ok (.iconst 1, 1) := by decide +kernel
theorem dX8_talk_3 : decode cX8_talk 3 = .ok (.sipush 999, 3) := by decide +kernel
theorem dX8_talk_6 : decode cX8_talk 6 = .ok (.invokestatic 142, 3) := by decide +kernel
theorem dX8_talk_9 : decode cX8_talk 9 = .ok (.ifCond .ne 7, 3) := by decide +kernel
theorem dX8_talk_12 : decode cX8_talk 12 = .ok (.iconst 1, 1) := by decide +kernel
theorem dX8_talk_13 : decode cX8_talk 13 = .ok (.goto 17, 3) := by decide +kernel
theorem dX8_talk_16 : decode cX8_talk 16 = .ok (.aload_n 0, 1) := by decide +kernel
theorem dX8_talk_17 : decode cX8_talk 17 = .ok (.getfield 149, 3) := by decide +kernel
theorem dX8_talk_20 : decode cX8_talk 20 = .ok (.bipush 10, 2) := by decide +kernel
theorem dX8_talk_22 : decode cX8_talk 22 = .ok (.if_icmp .ne 7, 3) := by decide +kernel
theorem dX8_talk_25 : decode cX8_talk 25 = .ok (.iconst 2, 1) := by decide +kernel
theorem dX8_talk_26 : decode cX8_talk 26 = .ok (.goto 4, 3) := by decide +kernel
theorem dX8_talk_29 : decode cX8_talk 29 = .ok (.iconst 0, 1) := by decide +kernel
theorem dX8_talk_30 : decode cX8_talk 30 = .ok (.invokevirtual 152, 3) := by decide +kernel
theorem dX8_talk_33 : decode cX8_talk 33 = .ok (.ifCond .eq 13, 3) := by decide +kernel
theorem dX8_talk_36 : decode cX8_talk 36 = .ok (.aload_n 0, 1) := by decide +kernel
theorem dX8_talk_37 : decode cX8_talk 37 = .ok (.iconst 0, 1) := by decide +kernel
theorem dX8_talk_38 : decode cX8_talk 38 = .ok (.iload_n 1, 1) := by decide +kernel
theorem dX8_talk_39 : decode cX8_talk 39 = .ok (.iconst (-1), 1) := by decide +kernel
theorem dX8_talk_40 : decode cX8_talk 40 = .ok (.invokevirtual 156, 3) := by decide +kernel
theorem dX8_talk_43 : decode cX8_talk 43 = .ok (.goto 4, 3) := by decide +kernel
theorem dX8_talk_46 : decode cX8_talk 46 = .ok (.iconst 0, 1) := by decide +kernel
theorem dX8_talk_47 : decode cX8_talk 47 = .ok (.ireturn, 1) := by decide +kernel
theorem dX8_music_0 : decode cX8_music 0 = .ok (.aload_n 0, 1) := by decide +kernel
theorem dX8_music_1 : decode cX8_music 1 = .ok (.iload_n 1, 1) := by decide +kernel
theorem dX8_music_2 : decode cX8_music 2 = .ok (.iconst 0, 1) := by decide +kernel
theorem dX8_music_3 : decode cX8_music 3 = .ok (.bipush 9, 2) := by decide +kernel
theorem dX8_music_5 : decode cX8_music 5 = .ok (.invokestatic 142, 3) := by decide +kernel
theorem dX8_music_8 : decode cX8_music 8 = .ok (.ifCond .ne 7, 3) := by decide +kernel
theorem dX8_music_11 : decode cX8_music 11 = .ok (.iconst 1, 1) := by decide +kernel
theorem dX8_music_12 : decode cX8_music 12 = .ok (.goto 41, 3) := by decide +kernel
theorem dX8_music_15 : decode cX8_music 15 = .ok (.iload_n 2, 1) := by decide +kernel
theorem dX8_music_16 : decode cX8_music 16 = .ok (.iconst 1, 1) := by decide +kernel
theorem dX8_music_17 : decode cX8_music 17 = .ok (.sipush 300, 3) := by decide +kernel
theorem dX8_music_20 : decode cX8_music 20 = .ok (.invokestatic 142, 3) := by decide +kernel
theorem dX8_music_23 : decode cX8_music 23 = .ok (.ifCond .ne 7, 3) := by decide +kernel
theorem dX8_music_26 : decode cX8_music 26 = .ok (.iconst 2, 1) := by decide +kernel
theorem dX8_music_27 : decode cX8_music 27 = .ok (.goto 26, 3) := by decide +kernel
theorem dX8_music_30 : decode cX8_music 30 = .ok (.aload_n 0, 1) := by decide +kernel
theorem dX8_music_31 : decode cX8_music 31 = .ok (.getfield 149, 3) := by decide +kernel
theorem dX8_music_34 : decode cX8_music 34 = .ok (.bipush 10, 2) := by decide +kernel
theorem dX8_music_36 : decode cX8_music 36 = .ok (.if_icmp .eq 12, 3) := by decide +kernel
theorem dX8_music_39 : decode cX8_music 39 = .ok (.aload_n 0, 1) := by decide +kernel
theorem dX8_music_40 : decode cX8_music 40 = .ok (.getfield 19, 3) := by decide +kernel
theorem dX8_music_43 : decode cX8_music 43 = .ok (.iload_n 1, 1) := by decide +kernel
theorem dX8_music_44 : decode cX8_music 44 = .ok (.baload, 1) := by decide +kernel
theorem dX8_music_45 : decode cX8_music 45 = .ok (.ifCond .eq 7, 3) := by decide +kernel
theorem dX8_music_48 : decode cX8_music 48 = .ok (.iconst 3, 1) := by decide +kernel
theorem dX8_music_49 : decode cX8_music 49 = .ok (.goto 4, 3) := by decide +kernel
theorem dX8_music_52 : decode cX8_music 52 = .ok (.iconst 0, 1) := by decide +kernel
theorem dX8_music_53 : decode cX8_music 53 = .ok (.invokevirtual 152, 3) := by decide +kernel
theorem dX8_music_56 : decode cX8_music 56 = .ok (.ifCond .ne 5, 3) := by decide +kernel
theorem dX8_music_59 : decode cX8_music 59 = .ok (.iconst 0, 1) := by decide +kernel
theorem dX8_music_60 : decode cX8_music 60 = .ok (.ireturn, 1) := by decide +kernel
theorem dX8_music_61 : decode cX8_music 61 = .ok (.aload_n 0, 1) := by decide +kernel
theorem dX8_music_62 : decode cX8_music 62 = .ok (.iconst 1, 1) := by decide +kernel
theorem dX8_music_63 : decode cX8_music 63 = .ok (.iload_n 2, 1) := by decide +kernel
theorem dX8_music_64 : decode cX8_music 64 = .ok (.iload_n 1, 1) := by decide +kernel
theorem dX8_music_65 : decode cX8_music 65 = .ok (.invokevirtual 156, 3) := by decide +kernel
theorem dX8_music_68 : decode cX8_music 68 = .ok (.ireturn, 1) := by decide +kernel
theorem dX8_slot_0 : decode cX8_slot 0 = .ok (.aload_n 0, 1) := by decide +kernel
theorem dX8_slot_1 : decode cX8_slot 1 = .ok (.iload_n 1, 1) := by decide +kernel
theorem dX8_slot_2 : decode cX8_slot 2 = .ok (.iconst 0, 1) := by decide +kernel
theorem dX8_slot_3 : decode cX8_slot 3 = .ok (.iconst 2, 1) := by decide +kernel
theorem dX8_slot_4 : decode cX8_slot 4 = .ok (.invokestatic 142, 3) := by decide +kernel
theorem dX8_slot_7 : decode cX8_slot 7 = .ok (.ifCond .ne 7, 3) := by decide +kernel
theorem dX8_slot_10 : decode cX8_slot 10 = .ok (.iconst 1, 1) := by decide +kernel
theorem dX8_slot_11 : decode cX8_slot 11 = .ok (.goto 17, 3) := by decide +kernel
theorem dX8_slot_14 : decode cX8_slot 14 = .ok (.aload_n 0, 1) := by decide +kernel
theorem dX8_slot_15 : decode cX8_slot 15 = .ok (.getfield 149, 3) := by decide +kernel
theorem dX8_slot_18 : decode cX8_slot 18 = .ok (.bipush 10, 2) := by decide +kernel
theorem dX8_slot_20 : decode cX8_slot 20 = .ok (.if_icmp .ne 7, 3) := by decide +kernel
theorem dX8_slot_23 : decode cX8_slot 23 = .ok (.iconst 2, 1) := by decide +kernel
theorem dX8_slot_24 : decode cX8_slot 24 = .ok (.goto 4, 3) := by decide +kernel
theorem dX8_slot_27 : decode cX8_slot 27 = .ok (.iconst 0, 1) := by decide +kernel
theorem dX8_slot_28 : decode cX8_slot 28 = .ok (.invokevirtual 152, 3) := by decide +kernel
theorem dX8_slot_31 : decode cX8_slot 31 = .ok (.ifCond .eq 13, 3) := by decide +kernel
theorem dX8_slot_34 : decode cX8_slot 34 = .ok (.aload_n 0, 1) := by decide +kernel
theorem dX8_slot_35 : decode cX8_slot 35 = .ok (.iconst 2, 1) := by decide +kernel
theorem dX8_slot_36 : decode cX8_slot 36 = .ok (.iconst 0, 1) := by decide +kernel
theorem dX8_slot_37 : decode cX8_slot 37 = .ok (.iload_n 1, 1) := by decide +kernel
theorem dX8_slot_38 : decode cX8_slot 38 = .ok (.invokevirtual 156, 3) := by decide +kernel
theorem dX8_slot_41 : decode cX8_slot 41 = .ok (.goto 4, 3) := by decide +kernel
theorem dX8_slot_44 : decode cX8_slot 44 = .ok (.iconst 0, 1) := by decide +kernel
theorem dX8_slot_45 : decode cX8_slot 45 = .ok (.ireturn, 1) := by decide +kernel
theorem dX8_isDraftOut_0 : decode cX8_isDraftOut 0 = .ok (.aload_n 0, 1) := by decide +kernel
theorem dX8_isDraftOut_1 : decode cX8_isDraftOut 1 = .ok (.getfield 7, 3) := by decide +kernel
theorem dX8_isDraftOut_4 : decode cX8_isDraftOut 4 = .ok (.iload_n 1, 1) := by decide +kernel
theorem dX8_isDraftOut_5 : decode cX8_isDraftOut 5 = .ok (.iaload, 1) := by decide +kernel
theorem dX8_isDraftOut_6 : decode cX8_isDraftOut 6 = .ok (.iconst 1, 1) := by decide +kernel
theorem dX8_isDraftOut_7 : decode cX8_isDraftOut 7 = .ok (.if_icmp .ne 21, 3) := by decide +kernel
theorem dX8_isDraftOut_10 : decode cX8_isDraftOut 10 = .ok (.aload_n 0, 1) := by decide +kernel
theorem dX8_isDraftOut_11 : decode cX8_isDraftOut 11 = .ok (.getfield 19, 3) := by decide +kernel
theorem dX8_isDraftOut_14 : decode cX8_isDraftOut 14 = .ok (.aload_n 0, 1) := by decide +kernel
theorem dX8_isDraftOut_15 : decode cX8_isDraftOut 15 = .ok (.getfield 16, 3) := by decide +kernel
theorem dX8_isDraftOut_18 : decode cX8_isDraftOut 18 = .ok (.iload_n 1, 1) := by decide +kernel
theorem dX8_isDraftOut_19 : decode cX8_isDraftOut 19 = .ok (.iaload, 1) := by decide +kernel
theorem dX8_isDraftOut_20 : decode cX8_isDraftOut 20 = .ok (.baload, 1) := by decide +kernel
theorem dX8_isDraftOut_21 : decode cX8_isDraftOut 21 = .ok (.ifCond .eq 7, 3) := by decide +kernel
theorem dX8_isDraftOut_24 : decode cX8_isDraftOut 24 = .ok (.iconst 1, 1) := by decide +kernel
theorem dX8_isDraftOut_25 : decode cX8_isDraftOut 25 = .ok (.goto 4, 3) := by decide +kernel
theorem dX8_isDraftOut_28 : decode cX8_isDraftOut 28 = .ok (.iconst 0, 1) := by decide +kernel
theorem dX8_isDraftOut_29 : decode cX8_isDraftOut 29 = .ok (.ireturn, 1) := by decide +kernel
theorem dX8_hasDraft_0 : decode cX8_hasDraft 0 = .ok (.iconst 0, 1) := by decide +kernel
theorem dX8_hasDraft_1 : decode cX8_hasDraft 1 = .ok (.istore_n 1, 1) := by decide +kernel
theorem dX8_hasDraft_2 : decode cX8_hasDraft 2 = .ok (.iconst 0, 1) := by decide +kernel
theorem dX8_hasDraft_3 : decode cX8_hasDraft 3 = .ok (.istore_n 2, 1) := by decide +kernel
theorem dX8_hasDraft_4 : decode cX8_hasDraft 4 = .ok (.iload_n 2, 1) := by decide +kernel
theorem dX8_hasDraft_5 : decode cX8_hasDraft 5 = .ok (.aload_n 0, 1) := by decide +kernel
theorem dX8_hasDraft_6 : decode cX8_hasDraft 6 = .ok (.getfield 149, 3) := by decide +kernel
theorem dX8_hasDraft_9 : decode cX8_hasDraft 9 = .ok (.if_icmp .ge 27, 3) := by decide +kernel
theorem dX8_hasDraft_12 : decode cX8_hasDraft 12 = .ok (.iload_n 1, 1) := by decide +kernel
theorem dX8_hasDraft_13 : decode cX8_hasDraft 13 = .ok (.ifCond .ne 11, 3) := by decide +kernel
theorem dX8_hasDraft_16 : decode cX8_hasDraft 16 = .ok (.aload_n 0, 1) := by decide +kernel
theorem dX8_hasDraft_17 : decode cX8_hasDraft 17 = .ok (.iload_n 2, 1) := by decide +kernel
theorem dX8_hasDraft_18 : decode cX8_hasDraft 18 = .ok (.invokevirtual 160, 3) := by decide +kernel
theorem dX8_hasDraft_21 : decode cX8_hasDraft 21 = .ok (.ifCond .ne 7, 3) := by decide +kernel
theorem dX8_hasDraft_24 : decode cX8_hasDraft 24 = .ok (.iconst 1, 1) := by decide +kernel
theorem dX8_hasDraft_25 : decode cX8_hasDraft 25 = .ok (.goto 4, 3) := by decide +kernel
theorem dX8_hasDraft_28 : decode cX8_hasDraft 28 = .ok (.iconst 0, 1) := by decide +kernel
theorem dX8_hasDraft_29 : decode cX8_hasDraft 29 = .ok (.istore_n 1, 1) := by decide +kernel
theorem dX8_hasDraft_30 : decode cX8_hasDraft 30 = .ok (.iinc 2 1, 3) := by decide +kernel
theorem dX8_hasDraft_33 : decode cX8_hasDraft 33 = .ok (.goto (-29), 3) := by decide +kernel
theorem dX8_hasDraft_36 : decode cX8_hasDraft 36 = .ok (.iload_n 1, 1) := by decide +kernel
theorem dX8_hasDraft_37 : decode cX8_hasDraft 37 = .ok (.ireturn, 1) := by decide +kernel
theorem dX8_change_0 : decode cX8_change 0 = .ok (.aload_n 0, 1) := by decide +kernel
theorem dX8_change_1 : decode cX8_change 1 = .ok (.getfield 29, 3) := by decide +kernel
theorem dX8_change_4 : decode cX8_change 4 = .ok (.iload_n 1, 1) := by decide +kernel
theorem dX8_change_5 : decode cX8_change 5 = .ok (.baload, 1) := by decide +kernel
theorem dX8_change_6 : decode cX8_change 6 = .ok (.ifCond .eq 23, 3) := by decide +kernel
theorem dX8_change_9 : decode cX8_change 9 = .ok (.aload_n 0, 1) := by decide +kernel
theorem dX8_change_10 : decode cX8_change 10 = .ok (.getfield 50, 3) := by decide +kernel
theorem dX8_change_13 : decode cX8_change 13 = .ok (.aload_n 0, 1) := by decide +kernel
theorem dX8_change_14 : decode cX8_change 14 = .ok (.getfield 163, 3) := by decide +kernel
theorem dX8_change_17 : decode cX8_change 17 = .ok (.iload_n 1, 1) := by decide +kernel
theorem dX8_change_18 : decode cX8_change 18 = .ok (.iastore, 1) := by decide +kernel
theorem dX8_change_19 : decode cX8_change 19 = .ok (.aload_n 0, 1) := by decide +kernel
theorem dX8_change_20 : decode cX8_change 20 = .ok (.dup, 1) := by decide +kernel
theorem dX8_change_21 : decode cX8_change 21 = .ok (.getfield 163, 3) := by decide +kernel
theorem dX8_change_24 : decode cX8_change 24 = .ok (.iconst 1, 1) := by decide +kernel
theorem dX8_change_25 : decode cX8_change 25 = .ok (.iadd, 1) := by decide +kernel
theorem dX8_change_26 : decode cX8_change 26 = .ok (.putfield 163, 3) := by decide +kernel
theorem dX8_change_29 : decode cX8_change 29 = .ok (.return_, 1) := by decide +kernel
theorem dX8_release_0 : decode cX8_release 0 = .ok (.aload_n 0, 1) := by decide +kernel
theorem dX8_release_1 : decode cX8_release 1 = .ok (.getfield 29, 3) := by decide +kernel
theorem dX8_release_4 : decode cX8_release 4 = .ok (.iload_n 1, 1) := by decide +kernel
theorem dX8_release_5 : decode cX8_release 5 = .ok (.iconst 1, 1) := by decide +kernel
theorem dX8_release_6 : decode cX8_release 6 = .ok (.bastore, 1) := by decide +kernel
theorem dX8_release_7 : decode cX8_release 7 = .ok (.aload_n 0, 1) := by decide +kernel
theorem dX8_release_8 : decode cX8_release 8 = .ok (.iload_n 1, 1) := by decide +kernel
theorem dX8_release_9 : decode cX8_release 9 = .ok (.invokevirtual 166, 3) := by decide +kernel
theorem dX8_release_12 : decode cX8_release 12 = .ok (.return_, 1) := by decide +kernel
theorem dX8_item_0 : decode cX8_item 0 = .ok (.aload_n 0, 1) := by decide +kernel
theorem dX8_item_1 : decode cX8_item 1 = .ok (.iload_n 1, 1) := by decide +kernel
theorem dX8_item_2 : decode cX8_item 2 = .ok (.iconst 0, 1) := by decide +kernel
theorem dX8_item_3 : decode cX8_item 3 = .ok (.iconst 3, 1) := by decide +kernel
theorem dX8_item_4 : decode cX8_item 4 = .ok (.invokestatic 142, 3) := by decide +kernel
theorem dX8_item_7 : decode cX8_item 7 = .ok (.ifCond .ne 7, 3) := by decide +kernel
theorem dX8_item_10 : decode cX8_item 10 = .ok (.iconst 1, 1) := by decide +kernel
theorem dX8_item_11 : decode cX8_item 11 = .ok (.goto 42, 3) := by decide +kernel
theorem dX8_item_14 : decode cX8_item 14 = .ok (.iload_n 2, 1) := by decide +kernel
theorem dX8_item_15 : decode cX8_item 15 = .ok (.aload_n 0, 1) := by decide +kernel
theorem dX8_item_16 : decode cX8_item 16 = .ok (.getfield 170, 3) := by decide +kernel
theorem dX8_item_19 : decode cX8_item 19 = .ok (.sipush 9999, 3) := by decide +kernel
theorem dX8_item_22 : decode cX8_item 22 = .ok (.invokestatic 142, 3) := by decide +kernel
theorem dX8_item_25 : decode cX8_item 25 = .ok (.ifCond .ne 7, 3) := by decide +kernel
theorem dX8_item_28 : decode cX8_item 28 = .ok (.iconst 2, 1) := by decide +kernel
theorem dX8_item_29 : decode cX8_item 29 = .ok (.goto 24, 3) := by decide +kernel
theorem dX8_item_32 : decode cX8_item 32 = .ok (.aload_n 0, 1) := by decide +kernel
theorem dX8_item_33 : decode cX8_item 33 = .ok (.invokevirtual 173, 3) := by decide +kernel
theorem dX8_item_36 : decode cX8_item 36 = .ok (.ifCond .eq 12, 3) := by decide +kernel
theorem dX8_item_39 : decode cX8_item 39 = .ok (.aload_n 0, 1) := by decide +kernel
theorem dX8_item_40 : decode cX8_item 40 = .ok (.getfield 139, 3) := by decide +kernel
theorem dX8_item_43 : decode cX8_item 43 = .ok (.bipush 24, 2) := by decide +kernel
theorem dX8_item_45 : decode cX8_item 45 = .ok (.if_icmp .ne 7, 3) := by decide +kernel
theorem dX8_item_48 : decode cX8_item 48 = .ok (.iconst 3, 1) := by decide +kernel
theorem dX8_item_49 : decode cX8_item 49 = .ok (.goto 4, 3) := by decide +kernel
theorem dX8_item_52 : decode cX8_item 52 = .ok (.iconst 0, 1) := by decide +kernel
theorem dX8_item_53 : decode cX8_item 53 = .ok (.invokevirtual 152, 3) := by decide +kernel
theorem dX8_item_56 : decode cX8_item 56 = .ok (.ifCond .ne 5, 3) := by decide +kernel
theorem dX8_item_59 : decode cX8_item 59 = .ok (.iconst 0, 1) := by decide +kernel
theorem dX8_item_60 : decode cX8_item 60 = .ok (.ireturn, 1) := by decide +kernel
theorem dX8_item_61 : decode cX8_item 61 = .ok (.iconst 0, 1) := by decide +kernel
theorem dX8_item_62 : decode cX8_item 62 = .ok (.istore_n 3, 1) := by decide +kernel
theorem dX8_item_63 : decode cX8_item 63 = .ok (.iload_n 3, 1) := by decide +kernel
theorem dX8_item_64 : decode cX8_item 64 = .ok (.aload_n 0, 1) := by decide +kernel
theorem dX8_item_65 : decode cX8_item 65 = .ok (.getfield 149, 3) := by decide +kernel
theorem dX8_item_68 : decode cX8_item 68 = .ok (.if_icmp .ge 88, 3) := by decide +kernel
theorem dX8_item_71 : decode cX8_item 71 = .ok (.aload_n 0, 1) := by decide +kernel
theorem dX8_item_72 : decode cX8_item 72 = .ok (.getfield 38, 3) := by decide +kernel
theorem dX8_item_75 : decode cX8_item 75 = .ok (.bipush 10, 2) := by decide +kernel
theorem dX8_item_77 : decode cX8_item 77 = .ok (.aload_n 0, 1) := by decide +kernel
theorem dX8_item_78 : decode cX8_item 78 = .ok (.getfield 139, 3) := by decide +kernel
theorem dX8_item_81 : decode cX8_item 81 = .ok (.imul, 1) := by decide +kernel
theorem dX8_item_82 : decode cX8_item 82 = .ok (.iload_n 3, 1) := by decide +kernel
theorem dX8_item_83 : decode cX8_item 83 = .ok (.iadd, 1) := by decide +kernel
theorem dX8_item_84 : decode cX8_item 84 = .ok (.aload_n 0, 1) := by decide +kernel
theorem dX8_item_85 : decode cX8_item 85 = .ok (.getfield 7, 3) := by decide +kernel
theorem dX8_item_88 : decode cX8_item 88 = .ok (.iload_n 3, 1) := by decide +kernel
theorem dX8_item_89 : decode cX8_item 89 = .ok (.iaload, 1) := by decide +kernel
theorem dX8_item_90 : decode cX8_item 90 = .ok (.iastore, 1) := by decide +kernel
theorem dX8_item_91 : decode cX8_item 91 = .ok (.aload_n 0, 1) := by decide +kernel
theorem dX8_item_92 : decode cX8_item 92 = .ok (.getfield 41, 3) := by decide +kernel
theorem dX8_item_95 : decode cX8_item 95 = .ok (.bipush 10, 2) := by decide +kernel
theorem dX8_item_97 : decode cX8_item 97 = .ok (.aload_n 0, 1) := by decide +kernel
theorem dX8_item_98 : decode cX8_item 98 = .ok (.getfield 139, 3) := by decide +kernel
theorem dX8_item_101 : decode cX8_item 101 = .ok (.imul, 1) := by decide +kernel
theorem dX8_item_102 : decode cX8_item 102 = .ok (.iload_n 3, 1) := by decide +kernel
theorem dX8_item_103 : decode cX8_item 103 = .ok (.iadd, 1) := by decide +kernel
theorem dX8_item_104 : decode cX8_item 104 = .ok (.aload_n 0, 1) := by decide +kernel
theorem dX8_item_105 : decode cX8_item 105 = .ok (.getfield 13, 3) := by decide +kernel
theorem dX8_item_108 : decode cX8_item 108 = .ok (.iload_n 3, 1) := by decide +kernel
theorem dX8_item_109 : decode cX8_item 109 = .ok (.iaload, 1) := by decide +kernel
theorem dX8_item_110 : decode cX8_item 110 = .ok (.iastore, 1) := by decide +kernel
theorem dX8_item_111 : decode cX8_item 111 = .ok (.aload_n 0, 1) := by decide +kernel
theorem dX8_item_112 : decode cX8_item 112 = .ok (.getfield 44, 3) := by decide +kernel
theorem dX8_item_115 : decode cX8_item 115 = .ok (.bipush 10, 2) := by decide +kernel
theorem dX8_item_117 : decode cX8_item 117 = .ok (.aload_n 0, 1) := by decide +kernel
theorem dX8_item_118 : decode cX8_item 118 = .ok (.getfield 139, 3) := by decide +kernel
theorem dX8_item_121 : decode cX8_item 121 = .ok (.imul, 1) := by decide +kernel
theorem dX8_item_122 : decode cX8_item 122 = .ok (.iload_n 3, 1) := by decide +kernel
theorem dX8_item_123 : decode cX8_item 123 = .ok (.iadd, 1) := by decide +kernel
theorem dX8_item_124 : decode cX8_item 124 = .ok (.aload_n 0, 1) := by decide +kernel
theorem dX8_item_125 : decode cX8_item 125 = .ok (.getfield 16, 3) := by decide +kernel
theorem dX8_item_128 : decode cX8_item 128 = .ok (.iload_n 3, 1) := by decide +kernel
theorem dX8_item_129 : decode cX8_item 129 = .ok (.iaload, 1) := by decide +kernel
theorem dX8_item_130 : decode cX8_item 130 = .ok (.iastore, 1) := by decide +kernel
theorem dX8_item_131 : decode cX8_item 131 = .ok (.aload_n 0, 1) := by decide +kernel
theorem dX8_item_132 : decode cX8_item 132 = .ok (.getfield 47, 3) := by decide +kernel
theorem dX8_item_135 : decode cX8_item 135 = .ok (.bipush 10, 2) := by decide +kernel
theorem dX8_item_137 : decode cX8_item 137 = .ok (.aload_n 0, 1) := by decide +kernel
theorem dX8_item_138 : decode cX8_item 138 = .ok (.getfield 139, 3) := by decide +kernel
theorem dX8_item_141 : decode cX8_item 141 = .ok (.imul, 1) := by decide +kernel
theorem dX8_item_142 : decode cX8_item 142 = .ok (.iload_n 3, 1) := by decide +kernel
theorem dX8_item_143 : decode cX8_item 143 = .ok (.iadd, 1) := by decide +kernel
theorem dX8_item_144 : decode cX8_item 144 = .ok (.aload_n 0, 1) := by decide +kernel
theorem dX8_item_145 : decode cX8_item 145 = .ok (.iload_n 3, 1) := by decide +kernel
theorem dX8_item_146 : decode cX8_item 146 = .ok (.invokevirtual 160, 3) := by decide +kernel
theorem dX8_item_149 : decode cX8_item 149 = .ok (.bastore, 1) := by decide +kernel
theorem dX8_item_150 : decode cX8_item 150 = .ok (.iinc 3 1, 3) := by decide +kernel
theorem dX8_item_153 : decode cX8_item 153 = .ok (.goto (-90), 3) := by decide +kernel
theorem dX8_item_156 : decode cX8_item 156 = .ok (.aload_n 0, 1) := by decide +kernel
theorem dX8_item_157 : decode cX8_item 157 = .ok (.getfield 35, 3) := by decide +kernel
theorem dX8_item_160 : decode cX8_item 160 = .ok (.aload_n 0, 1) := by decide +kernel
theorem dX8_item_161 : decode cX8_item 161 = .ok (.getfield 139, 3) := by decide +kernel
theorem dX8_item_164 : decode cX8_item 164 = .ok (.aload_n 0, 1) := by decide +kernel
theorem dX8_item_165 : decode cX8_item 165 = .ok (.getfield 149, 3) := by decide +kernel
theorem dX8_item_168 : decode cX8_item 168 = .ok (.iastore, 1) := by decide +kernel
theorem dX8_item_169 : decode cX8_item 169 = .ok (.aload_n 0, 1) := by decide +kernel
theorem dX8_item_170 : decode cX8_item 170 = .ok (.iconst 0, 1) := by decide +kernel
theorem dX8_item_171 : decode cX8_item 171 = .ok (.putfield 149, 3) := by decide +kernel
theorem dX8_item_174 : decode cX8_item 174 = .ok (.aload_n 0, 1) := by decide +kernel
theorem dX8_item_175 : decode cX8_item 175 = .ok (.getfield 23, 3) := by decide +kernel
theorem dX8_item_178 : decode cX8_item 178 = .ok (.aload_n 0, 1) := by decide +kernel
theorem dX8_item_179 : decode cX8_item 179 = .ok (.getfield 139, 3) := by decide +kernel
theorem dX8_item_182 : decode cX8_item 182 = .ok (.iload_n 1, 1) := by decide +kernel
theorem dX8_item_183 : decode cX8_item 183 = .ok (.iastore, 1) := by decide +kernel
theorem dX8_item_184 : decode cX8_item 184 = .ok (.aload_n 0, 1) := by decide +kernel
theorem dX8_item_185 : decode cX8_item 185 = .ok (.getfield 26, 3) := by decide +kernel
theorem dX8_item_188 : decode cX8_item 188 = .ok (.aload_n 0, 1) := by decide +kernel
theorem dX8_item_189 : decode cX8_item 189 = .ok (.getfield 139, 3) := by decide +kernel
theorem dX8_item_192 : decode cX8_item 192 = .ok (.iload_n 2, 1) := by decide +kernel
theorem dX8_item_193 : decode cX8_item 193 = .ok (.iastore, 1) := by decide +kernel
theorem dX8_item_194 : decode cX8_item 194 = .ok (.aload_n 0, 1) := by decide +kernel
theorem dX8_item_195 : decode cX8_item 195 = .ok (.dup, 1) := by decide +kernel
theorem dX8_item_196 : decode cX8_item 196 = .ok (.getfield 139, 3) := by decide +kernel
theorem dX8_item_199 : decode cX8_item 199 = .ok (.iconst 1, 1) := by decide +kernel
theorem dX8_item_200 : decode cX8_item 200 = .ok (.iadd, 1) := by decide +kernel
theorem dX8_item_201 : decode cX8_item 201 = .ok (.putfield 139, 3) := by decide +kernel
theorem dX8_item_204 : decode cX8_item 204 = .ok (.iload_n 2, 1) := by decide +kernel
theorem dX8_item_205 : decode cX8_item 205 = .ok (.aload_n 0, 1) := by decide +kernel
theorem dX8_item_206 : decode cX8_item 206 = .ok (.getfield 170, 3) := by decide +kernel
theorem dX8_item_209 : decode cX8_item 209 = .ok (.if_icmp .ne 13, 3) := by decide +kernel
theorem dX8_item_212 : decode cX8_item 212 = .ok (.aload_n 0, 1) := by decide +kernel
theorem dX8_item_213 : decode cX8_item 213 = .ok (.aload_n 0, 1) := by decide +kernel
theorem dX8_item_214 : decode cX8_item 214 = .ok (.getfield 139, 3) := by decide +kernel
theorem dX8_item_217 : decode cX8_item 217 = .ok (.iconst 1, 1) := by decide +kernel
theorem dX8_item_218 : decode cX8_item 218 = .ok (.isub, 1) := by decide +kernel
theorem dX8_item_219 : decode cX8_item 219 = .ok (.invokevirtual 177, 3) := by decide +kernel
theorem dX8_item_222 : decode cX8_item 222 = .ok (.aload_n 0, 1) := by decide +kernel
theorem dX8_item_223 : decode cX8_item 223 = .ok (.getfield 139, 3) := by decide +kernel
theorem dX8_item_226 : decode cX8_item 226 = .ok (.iconst 1, 1) := by decide +kernel
theorem dX8_item_227 : decode cX8_item 227 = .ok (.isub, 1) := by decide +kernel
theorem dX8_item_228 : decode cX8_item 228 = .ok (.ireturn, 1) := by decide +kernel
theorem dX8_living_0 : decode cX8_living 0 = .ok (.iconst 0, 1) := by decide +kernel
theorem dX8_living_1 : decode cX8_living 1 = .ok (.istore_n 2, 1) := by decide +kernel
theorem dX8_living_2 : decode cX8_living 2 = .ok (.iconst 0, 1) := by decide +kernel
theorem dX8_living_3 : decode cX8_living 3 = .ok (.istore_n 3, 1) := by decide +kernel
theorem dX8_living_4 : decode cX8_living 4 = .ok (.iload_n 3, 1) := by decide +kernel
theorem dX8_living_5 : decode cX8_living 5 = .ok (.aload_n 0, 1) := by decide +kernel
theorem dX8_living_6 : decode cX8_living 6 = .ok (.getfield 35, 3) := by decide +kernel
theorem dX8_living_9 : decode cX8_living 9 = .ok (.iload_n 1, 1) := by decide +kernel
theorem dX8_living_10 : decode cX8_living 10 = .ok (.iaload, 1) := by decide +kernel
theorem dX8_living_11 : decode cX8_living 11 = .ok (.if_icmp .ge 31, 3) := by decide +kernel
theorem dX8_living_14 : decode cX8_living 14 = .ok (.iload_n 2, 1) := by decide +kernel
theorem dX8_living_15 : decode cX8_living 15 = .ok (.aload_n 0, 1) := by decide +kernel
theorem dX8_living_16 : decode cX8_living 16 = .ok (.getfield 47, 3) := by decide +kernel
theorem dX8_living_19 : decode cX8_living 19 = .ok (.bipush 10, 2) := by decide +kernel
theorem dX8_living_21 : decode cX8_living 21 = .ok (.iload_n 1, 1) := by decide +kernel
theorem dX8_living_22 : decode cX8_living 22 = .ok (.imul, 1) := by decide +kernel
theorem dX8_living_23 : decode cX8_living 23 = .ok (.iload_n 3, 1) := by decide +kernel
theorem dX8_living_24 : decode cX8_living 24 = .ok (.iadd, 1) := by decide +kernel
theorem dX8_living_25 : decode cX8_living 25 = .ok (.baload, 1) := by decide +kernel
theorem dX8_living_26 : decode cX8_living 26 = .ok (.ifCond .eq 7, 3) := by decide +kernel
theorem dX8_living_29 : decode cX8_living 29 = .ok (.iconst 0, 1) := by decide +kernel
theorem dX8_living_30 : decode cX8_living 30 = .ok (.goto 4, 3) := by decide +kernel
theorem dX8_living_33 : decode cX8_living 33 = .ok (.iconst 1, 1) := by decide +kernel
theorem dX8_living_34 : decode cX8_living 34 = .ok (.iadd, 1) := by decide +kernel
theorem dX8_living_35 : decode cX8_living 35 = .ok (.istore_n 2, 1) := by decide +kernel
theorem dX8_living_36 : decode cX8_living 36 = .ok (.iinc 3 1, 3) := by decide +kernel
theorem dX8_living_39 : decode cX8_living 39 = .ok (.goto (-35), 3) := by decide +kernel
theorem dX8_living_42 : decode cX8_living 42 = .ok (.iload_n 2, 1) := by decide +kernel
theorem dX8_living_43 : decode cX8_living 43 = .ok (.ireturn, 1) := by decide +kernel
theorem dX8_cut_0 : decode cX8_cut 0 = .ok (.aload_n 0, 1) := by decide +kernel
theorem dX8_cut_1 : decode cX8_cut 1 = .ok (.iload_n 1, 1) := by decide +kernel
theorem dX8_cut_2 : decode cX8_cut 2 = .ok (.invokevirtual 180, 3) := by decide +kernel
theorem dX8_cut_5 : decode cX8_cut 5 = .ok (.ifCond .eq 23, 3) := by decide +kernel
theorem dX8_cut_8 : decode cX8_cut 8 = .ok (.iload_n 2, 1) := by decide +kernel
theorem dX8_cut_9 : decode cX8_cut 9 = .ok (.iconst 0, 1) := by decide +kernel
theorem dX8_cut_10 : decode cX8_cut 10 = .ok (.aload_n 0, 1) := by decide +kernel
theorem dX8_cut_11 : decode cX8_cut 11 = .ok (.getfield 35, 3) := by decide +kernel
theorem dX8_cut_14 : decode cX8_cut 14 = .ok (.iload_n 1, 1) := by decide +kernel
theorem dX8_cut_15 : decode cX8_cut 15 = .ok (.iaload, 1) := by decide +kernel
theorem dX8_cut_16 : decode cX8_cut 16 = .ok (.iconst 1, 1) := by decide +kernel
theorem dX8_cut_17 : decode cX8_cut 17 = .ok (.isub, 1) := by decide +kernel
theorem dX8_cut_18 : decode cX8_cut 18 = .ok (.invokestatic 142, 3) := by decide +kernel
theorem dX8_cut_21 : decode cX8_cut 21 = .ok (.ifCond .eq 7, 3) := by decide +kernel
theorem dX8_cut_24 : decode cX8_cut 24 = .ok (.iconst 1, 1) := by decide +kernel
theorem dX8_cut_25 : decode cX8_cut 25 = .ok (.goto 4, 3) := by decide +kernel
theorem dX8_cut_28 : decode cX8_cut 28 = .ok (.iconst 0, 1) := by decide +kernel
theorem dX8_cut_29 : decode cX8_cut 29 = .ok (.istore_n 3, 1) := by decide +kernel
theorem dX8_cut_30 : decode cX8_cut 30 = .ok (.iload_n 3, 1) := by decide +kernel
theorem dX8_cut_31 : decode cX8_cut 31 = .ok (.ifCond .eq 39, 3) := by decide +kernel
theorem dX8_cut_34 : decode cX8_cut 34 = .ok (.aload_n 0, 1) := by decide +kernel
theorem dX8_cut_35 : decode cX8_cut 35 = .ok (.getfield 47, 3) := by decide +kernel
theorem dX8_cut_38 : decode cX8_cut 38 = .ok (.bipush 10, 2) := by decide +kernel
theorem dX8_cut_40 : decode cX8_cut 40 = .ok (.iload_n 1, 1) := by decide +kernel
theorem dX8_cut_41 : decode cX8_cut 41 = .ok (.imul, 1) := by decide +kernel
theorem dX8_cut_42 : decode cX8_cut 42 = .ok (.iload_n 2, 1) := by decide +kernel
theorem dX8_cut_43 : decode cX8_cut 43 = .ok (.iadd, 1) := by decide +kernel
theorem dX8_cut_44 : decode cX8_cut 44 = .ok (.baload, 1) := by decide +kernel
theorem dX8_cut_45 : decode cX8_cut 45 = .ok (.ifCond .ne 25, 3) := by decide +kernel
theorem dX8_cut_48 : decode cX8_cut 48 = .ok (.aload_n 0, 1) := by decide +kernel
theorem dX8_cut_49 : decode cX8_cut 49 = .ok (.getfield 32, 3) := by decide +kernel
theorem dX8_cut_52 : decode cX8_cut 52 = .ok (.iload_n 1, 1) := by decide +kernel
theorem dX8_cut_53 : decode cX8_cut 53 = .ok (.baload, 1) := by decide +kernel
theorem dX8_cut_54 : decode cX8_cut 54 = .ok (.ifCond .ne 16, 3) := by decide +kernel
theorem dX8_cut_57 : decode cX8_cut 57 = .ok (.aload_n 0, 1) := by decide +kernel
theorem dX8_cut_58 : decode cX8_cut 58 = .ok (.iload_n 1, 1) := by decide +kernel
theorem dX8_cut_59 : decode cX8_cut 59 = .ok (.invokevirtual 183, 3) := by decide +kernel
theorem dX8_cut_62 : decode cX8_cut 62 = .ok (.iconst 1, 1) := by decide +kernel
theorem dX8_cut_63 : decode cX8_cut 63 = .ok (.if_icmp .le 7, 3) := by decide +kernel
theorem dX8_cut_66 : decode cX8_cut 66 = .ok (.iconst 1, 1) := by decide +kernel
theorem dX8_cut_67 : decode cX8_cut 67 = .ok (.goto 4, 3) := by decide +kernel
theorem dX8_cut_70 : decode cX8_cut 70 = .ok (.iconst 0, 1) := by decide +kernel
theorem dX8_cut_71 : decode cX8_cut 71 = .ok (.istore 4, 2) := by decide +kernel
theorem dX8_cut_73 : decode cX8_cut 73 = .ok (.aload_n 0, 1) := by decide +kernel
theorem dX8_cut_74 : decode cX8_cut 74 = .ok (.iload_n 3, 1) := by decide +kernel
theorem dX8_cut_75 : decode cX8_cut 75 = .ok (.ifCond .ne 7, 3) := by decide +kernel
theorem dX8_cut_78 : decode cX8_cut 78 = .ok (.iconst 1, 1) := by decide +kernel
theorem dX8_cut_79 : decode cX8_cut 79 = .ok (.goto 13, 3) := by decide +kernel
theorem dX8_cut_82 : decode cX8_cut 82 = .ok (.iload 4, 2) := by decide +kernel
theorem dX8_cut_84 : decode cX8_cut 84 = .ok (.ifCond .eq 7, 3) := by decide +kernel
theorem dX8_cut_87 : decode cX8_cut 87 = .ok (.iconst 0, 1) := by decide +kernel
theorem dX8_cut_88 : decode cX8_cut 88 = .ok (.goto 4, 3) := by decide +kernel
theorem dX8_cut_91 : decode cX8_cut 91 = .ok (.iconst 2, 1) := by decide +kernel
theorem dX8_cut_92 : decode cX8_cut 92 = .ok (.invokevirtual 152, 3) := by decide +kernel
theorem dX8_cut_95 : decode cX8_cut 95 = .ok (.ifCond .ne 5, 3) := by decide +kernel
theorem dX8_cut_98 : decode cX8_cut 98 = .ok (.iconst 0, 1) := by decide +kernel
theorem dX8_cut_99 : decode cX8_cut 99 = .ok (.ireturn, 1) := by decide +kernel
theorem dX8_cut_100 : decode cX8_cut 100 = .ok (.aload_n 0, 1) := by decide +kernel
theorem dX8_cut_101 : decode cX8_cut 101 = .ok (.getfield 47, 3) := by decide +kernel
theorem dX8_cut_104 : decode cX8_cut 104 = .ok (.bipush 10, 2) := by decide +kernel
theorem dX8_cut_106 : decode cX8_cut 106 = .ok (.iload_n 1, 1) := by decide +kernel
theorem dX8_cut_107 : decode cX8_cut 107 = .ok (.imul, 1) := by decide +kernel
theorem dX8_cut_108 : decode cX8_cut 108 = .ok (.iload_n 2, 1) := by decide +kernel
theorem dX8_cut_109 : decode cX8_cut 109 = .ok (.iadd, 1) := by decide +kernel
theorem dX8_cut_110 : decode cX8_cut 110 = .ok (.iconst 1, 1) := by decide +kernel
theorem dX8_cut_111 : decode cX8_cut 111 = .ok (.bastore, 1) := by decide +kernel
theorem dX8_cut_112 : decode cX8_cut 112 = .ok (.aload_n 0, 1) := by decide +kernel
theorem dX8_cut_113 : decode cX8_cut 113 = .ok (.iload_n 1, 1) := by decide +kernel
theorem dX8_cut_114 : decode cX8_cut 114 = .ok (.invokevirtual 166, 3) := by decide +kernel
theorem dX8_cut_117 : decode cX8_cut 117 = .ok (.aload_n 0, 1) := by decide +kernel
theorem dX8_cut_118 : decode cX8_cut 118 = .ok (.iload_n 1, 1) := by decide +kernel
theorem dX8_cut_119 : decode cX8_cut 119 = .ok (.invokevirtual 183, 3) := by decide +kernel
theorem dX8_cut_122 : decode cX8_cut 122 = .ok (.ireturn, 1) := by decide +kernel
theorem dX8_withdraw_0 : decode cX8_withdraw 0 = .ok (.aload_n 0, 1) := by decide +kernel
theorem dX8_withdraw_1 : decode cX8_withdraw 1 = .ok (.aload_n 0, 1) := by decide +kernel
theorem dX8_withdraw_2 : decode cX8_withdraw 2 = .ok (.iload_n 1, 1) := by decide +kernel
theorem dX8_withdraw_3 : decode cX8_withdraw 3 = .ok (.invokevirtual 180, 3) := by decide +kernel
theorem dX8_withdraw_6 : decode cX8_withdraw 6 = .ok (.ifCond .ne 7, 3) := by decide +kernel
theorem dX8_withdraw_9 : decode cX8_withdraw 9 = .ok (.iconst 1, 1) := by decide +kernel
theorem dX8_withdraw_10 : decode cX8_withdraw 10 = .ok (.goto 17, 3) := by decide +kernel
theorem dX8_withdraw_13 : decode cX8_withdraw 13 = .ok (.aload_n 0, 1) := by decide +kernel
theorem dX8_withdraw_14 : decode cX8_withdraw 14 = .ok (.getfield 32, 3) := by decide +kernel
theorem dX8_withdraw_17 : decode cX8_withdraw 17 = .ok (.iload_n 1, 1) := by decide +kernel
theorem dX8_withdraw_18 : decode cX8_withdraw 18 = .ok (.baload, 1) := by decide +kernel
theorem dX8_withdraw_19 : decode cX8_withdraw 19 = .ok (.ifCond .eq 7, 3) := by decide +kernel
theorem dX8_withdraw_22 : decode cX8_withdraw 22 = .ok (.iconst 2, 1) := by decide +kernel
theorem dX8_withdraw_23 : decode cX8_withdraw 23 = .ok (.goto 4, 3) := by decide +kernel
theorem dX8_withdraw_26 : decode cX8_withdraw 26 = .ok (.iconst 0, 1) := by decide +kernel
theorem dX8_withdraw_27 : decode cX8_withdraw 27 = .ok (.invokevirtual 152, 3) := by decide +kernel
theorem dX8_withdraw_30 : decode cX8_withdraw 30 = .ok (.ifCond .eq 15, 3) := by decide +kernel
theorem dX8_withdraw_33 : decode cX8_withdraw 33 = .ok (.aload_n 0, 1) := by decide +kernel
theorem dX8_withdraw_34 : decode cX8_withdraw 34 = .ok (.getfield 32, 3) := by decide +kernel
theorem dX8_withdraw_37 : decode cX8_withdraw 37 = .ok (.iload_n 1, 1) := by decide +kernel
theorem dX8_withdraw_38 : decode cX8_withdraw 38 = .ok (.iconst 1, 1) := by decide +kernel
theorem dX8_withdraw_39 : decode cX8_withdraw 39 = .ok (.bastore, 1) := by decide +kernel
theorem dX8_withdraw_40 : decode cX8_withdraw 40 = .ok (.aload_n 0, 1) := by decide +kernel
theorem dX8_withdraw_41 : decode cX8_withdraw 41 = .ok (.iload_n 1, 1) := by decide +kernel
theorem dX8_withdraw_42 : decode cX8_withdraw 42 = .ok (.invokevirtual 166, 3) := by decide +kernel
theorem dX8_withdraw_45 : decode cX8_withdraw 45 = .ok (.return_, 1) := by decide +kernel
theorem dX8_songOut_0 : decode cX8_songOut 0 = .ok (.aload_n 0, 1) := by decide +kernel
theorem dX8_songOut_1 : decode cX8_songOut 1 = .ok (.iload_n 1, 1) := by decide +kernel
theorem dX8_songOut_2 : decode cX8_songOut 2 = .ok (.iconst 0, 1) := by decide +kernel
theorem dX8_songOut_3 : decode cX8_songOut 3 = .ok (.bipush 9, 2) := by decide +kernel
theorem dX8_songOut_5 : decode cX8_songOut 5 = .ok (.invokestatic 142, 3) := by decide +kernel
theorem dX8_songOut_8 : decode cX8_songOut 8 = .ok (.ifCond .ne 7, 3) := by decide +kernel
theorem dX8_songOut_11 : decode cX8_songOut 11 = .ok (.iconst 1, 1) := by decide +kernel
theorem dX8_songOut_12 : decode cX8_songOut 12 = .ok (.goto 17, 3) := by decide +kernel
theorem dX8_songOut_15 : decode cX8_songOut 15 = .ok (.aload_n 0, 1) := by decide +kernel
theorem dX8_songOut_16 : decode cX8_songOut 16 = .ok (.getfield 19, 3) := by decide +kernel
theorem dX8_songOut_19 : decode cX8_songOut 19 = .ok (.iload_n 1, 1) := by decide +kernel
theorem dX8_songOut_20 : decode cX8_songOut 20 = .ok (.baload, 1) := by decide +kernel
theorem dX8_songOut_21 : decode cX8_songOut 21 = .ok (.ifCond .eq 7, 3) := by decide +kernel
theorem dX8_songOut_24 : decode cX8_songOut 24 = .ok (.iconst 2, 1) := by decide +kernel
theorem dX8_songOut_25 : decode cX8_songOut 25 = .ok (.goto 4, 3) := by decide +kernel
theorem dX8_songOut_28 : decode cX8_songOut 28 = .ok (.iconst 0, 1) := by decide +kernel
theorem dX8_songOut_29 : decode cX8_songOut 29 = .ok (.invokevirtual 152, 3) := by decide +kernel
theorem dX8_songOut_32 : decode cX8_songOut 32 = .ok (.ifCond .ne 5, 3) := by decide +kernel
theorem dX8_songOut_35 : decode cX8_songOut 35 = .ok (.iconst 0, 1) := by decide +kernel
theorem dX8_songOut_36 : decode cX8_songOut 36 = .ok (.ireturn, 1) := by decide +kernel
theorem dX8_songOut_37 : decode cX8_songOut 37 = .ok (.aload_n 0, 1) := by decide +kernel
theorem dX8_songOut_38 : decode cX8_songOut 38 = .ok (.getfield 19, 3) := by decide +kernel
theorem dX8_songOut_41 : decode cX8_songOut 41 = .ok (.iload_n 1, 1) := by decide +kernel
theorem dX8_songOut_42 : decode cX8_songOut 42 = .ok (.iconst 1, 1) := by decide +kernel
theorem dX8_songOut_43 : decode cX8_songOut 43 = .ok (.bastore, 1) := by decide +kernel
theorem dX8_songOut_44 : decode cX8_songOut 44 = .ok (.iconst 0, 1) := by decide +kernel
theorem dX8_songOut_45 : decode cX8_songOut 45 = .ok (.istore_n 2, 1) := by decide +kernel
theorem dX8_songOut_46 : decode cX8_songOut 46 = .ok (.iconst 0, 1) := by decide +kernel
theorem dX8_songOut_47 : decode cX8_songOut 47 = .ok (.istore_n 3, 1) := by decide +kernel
theorem dX8_songOut_48 : decode cX8_songOut 48 = .ok (.iload_n 3, 1) := by decide +kernel
theorem dX8_songOut_49 : decode cX8_songOut 49 = .ok (.aload_n 0, 1) := by decide +kernel
theorem dX8_songOut_50 : decode cX8_songOut 50 = .ok (.getfield 139, 3) := by decide +kernel
theorem dX8_songOut_53 : decode cX8_songOut 53 = .ok (.if_icmp .ge 164, 3) := by decide +kernel
theorem dX8_songOut_56 : decode cX8_songOut 56 = .ok (.iconst 0, 1) := by decide +kernel
theorem dX8_songOut_57 : decode cX8_songOut 57 = .ok (.istore 4, 2) := by decide +kernel
theorem dX8_songOut_59 : decode cX8_songOut 59 = .ok (.bipush 10, 2) := by decide +kernel
theorem dX8_songOut_61 : decode cX8_songOut 61 = .ok (.iload_n 3, 1) := by decide +kernel
theorem dX8_songOut_62 : decode cX8_songOut 62 = .ok (.imul, 1) := by decide +kernel
theorem dX8_songOut_63 : decode cX8_songOut 63 = .ok (.istore 5, 2) := by decide +kernel
theorem dX8_songOut_65 : decode cX8_songOut 65 = .ok (.iload 5, 2) := by decide +kernel
theorem dX8_songOut_67 : decode cX8_songOut 67 = .ok (.bipush 10, 2) := by decide +kernel
theorem dX8_songOut_69 : decode cX8_songOut 69 = .ok (.iload_n 3, 1) := by decide +kernel
theorem dX8_songOut_70 : decode cX8_songOut 70 = .ok (.imul, 1) := by decide +kernel
theorem dX8_songOut_71 : decode cX8_songOut 71 = .ok (.aload_n 0, 1) := by decide +kernel
theorem dX8_songOut_72 : decode cX8_songOut 72 = .ok (.getfield 35, 3) := by decide +kernel
theorem dX8_songOut_75 : decode cX8_songOut 75 = .ok (.iload_n 3, 1) := by decide +kernel
theorem dX8_songOut_76 : decode cX8_songOut 76 = .ok (.iaload, 1) := by decide +kernel
theorem dX8_songOut_77 : decode cX8_songOut 77 = .ok (.iadd, 1) := by decide +kernel
theorem dX8_songOut_78 : decode cX8_songOut 78 = .ok (.if_icmp .ge 90, 3) := by decide +kernel
theorem dX8_songOut_81 : decode cX8_songOut 81 = .ok (.aload_n 0, 1) := by decide +kernel
theorem dX8_songOut_82 : decode cX8_songOut 82 = .ok (.getfield 38, 3) := by decide +kernel
theorem dX8_songOut_85 : decode cX8_songOut 85 = .ok (.iload 5, 2) := by decide +kernel
theorem dX8_songOut_87 : decode cX8_songOut 87 = .ok (.iaload, 1) := by decide +kernel
theorem dX8_songOut_88 : decode cX8_songOut 88 = .ok (.iconst 1, 1) := by decide +kernel
theorem dX8_songOut_89 : decode cX8_songOut 89 = .ok (.if_icmp .ne 28, 3) := by decide +kernel
theorem dX8_songOut_92 : decode cX8_songOut 92 = .ok (.aload_n 0, 1) := by decide +kernel
theorem dX8_songOut_93 : decode cX8_songOut 93 = .ok (.getfield 44, 3) := by decide +kernel
theorem dX8_songOut_96 : decode cX8_songOut 96 = .ok (.iload 5, 2) := by decide +kernel
theorem dX8_songOut_98 : decode cX8_songOut 98 = .ok (.iaload, 1) := by decide +kernel
theorem dX8_songOut_99 : decode cX8_songOut 99 = .ok (.iload_n 1, 1) := by decide +kernel
theorem dX8_songOut_100 : decode cX8_songOut 100 = .ok (.if_icmp .ne 17, 3) := by decide +kernel
theorem dX8_songOut_103 : decode cX8_songOut 103 = .ok (.aload_n 0, 1) := by decide +kernel
theorem dX8_songOut_104 : decode cX8_songOut 104 = .ok (.getfield 47, 3) := by decide +kernel
theorem dX8_songOut_107 : decode cX8_songOut 107 = .ok (.iload 5, 2) := by decide +kernel
theorem dX8_songOut_109 : decode cX8_songOut 109 = .ok (.baload, 1) := by decide +kernel
theorem dX8_songOut_110 : decode cX8_songOut 110 = .ok (.ifCond .ne 7, 3) := by decide +kernel
theorem dX8_songOut_113 : decode cX8_songOut 113 = .ok (.iconst 1, 1) := by decide +kernel
theorem dX8_songOut_114 : decode cX8_songOut 114 = .ok (.goto 4, 3) := by decide +kernel
theorem dX8_songOut_117 : decode cX8_songOut 117 = .ok (.iconst 0, 1) := by decide +kernel
theorem dX8_songOut_118 : decode cX8_songOut 118 = .ok (.istore 6, 2) := by decide +kernel
theorem dX8_songOut_120 : decode cX8_songOut 120 = .ok (.aload_n 0, 1) := by decide +kernel
theorem dX8_songOut_121 : decode cX8_songOut 121 = .ok (.getfield 47, 3) := by decide +kernel
theorem dX8_songOut_124 : decode cX8_songOut 124 = .ok (.iload 5, 2) := by decide +kernel
theorem dX8_songOut_126 : decode cX8_songOut 126 = .ok (.aload_n 0, 1) := by decide +kernel
theorem dX8_songOut_127 : decode cX8_songOut 127 = .ok (.getfield 47, 3) := by decide +kernel
theorem dX8_songOut_130 : decode cX8_songOut 130 = .ok (.iload 5, 2) := by decide +kernel
theorem dX8_songOut_132 : decode cX8_songOut 132 = .ok (.baload, 1) := by decide +kernel
theorem dX8_songOut_133 : decode cX8_songOut 133 = .ok (.ifCond .ne 8, 3) := by decide +kernel
theorem dX8_songOut_136 : decode cX8_songOut 136 = .ok (.iload 6, 2) := by decide +kernel
theorem dX8_songOut_138 : decode cX8_songOut 138 = .ok (.ifCond .eq 7, 3) := by decide +kernel
theorem dX8_songOut_141 : decode cX8_songOut 141 = .ok (.iconst 1, 1) := by decide +kernel
theorem dX8_songOut_142 : decode cX8_songOut 142 = .ok (.goto 4, 3) := by decide +kernel
theorem dX8_songOut_145 : decode cX8_songOut 145 = .ok (.iconst 0, 1) := by decide +kernel
theorem dX8_songOut_146 : decode cX8_songOut 146 = .ok (.bastore, 1) := by decide +kernel
theorem dX8_songOut_147 : decode cX8_songOut 147 = .ok (.iload 4, 2) := by decide +kernel
theorem dX8_songOut_149 : decode cX8_songOut 149 = .ok (.iload 6, 2) := by decide +kernel
theorem dX8_songOut_151 : decode cX8_songOut 151 = .ok (.ifCond .eq 7, 3) := by decide +kernel
theorem dX8_songOut_154 : decode cX8_songOut 154 = .ok (.iconst 1, 1) := by decide +kernel
theorem dX8_songOut_155 : decode cX8_songOut 155 = .ok (.goto 4, 3) := by decide +kernel
theorem dX8_songOut_158 : decode cX8_songOut 158 = .ok (.iconst 0, 1) := by decide +kernel
theorem dX8_songOut_159 : decode cX8_songOut 159 = .ok (.iadd, 1) := by decide +kernel
theorem dX8_songOut_160 : decode cX8_songOut 160 = .ok (.istore 4, 2) := by decide +kernel
theorem dX8_songOut_162 : decode cX8_songOut 162 = .ok (.iinc 5 1, 3) := by decide +kernel
theorem dX8_songOut_165 : decode cX8_songOut 165 = .ok (.goto (-100), 3) := by decide +kernel
theorem dX8_songOut_168 : decode cX8_songOut 168 = .ok (.iload_n 2, 1) := by decide +kernel
theorem dX8_songOut_169 : decode cX8_songOut 169 = .ok (.iload 4, 2) := by decide +kernel
theorem dX8_songOut_171 : decode cX8_songOut 171 = .ok (.iadd, 1) := by decide +kernel
theorem dX8_songOut_172 : decode cX8_songOut 172 = .ok (.istore_n 2, 1) := by decide +kernel
theorem dX8_songOut_173 : decode cX8_songOut 173 = .ok (.iload 4, 2) := by decide +kernel
theorem dX8_songOut_175 : decode cX8_songOut 175 = .ok (.ifCond .le 36, 3) := by decide +kernel
theorem dX8_songOut_178 : decode cX8_songOut 178 = .ok (.aload_n 0, 1) := by decide +kernel
theorem dX8_songOut_179 : decode cX8_songOut 179 = .ok (.getfield 32, 3) := by decide +kernel
theorem dX8_songOut_182 : decode cX8_songOut 182 = .ok (.iload_n 3, 1) := by decide +kernel
theorem dX8_songOut_183 : decode cX8_songOut 183 = .ok (.aload_n 0, 1) := by decide +kernel
theorem dX8_songOut_184 : decode cX8_songOut 184 = .ok (.getfield 32, 3) := by decide +kernel
theorem dX8_songOut_187 : decode cX8_songOut 187 = .ok (.iload_n 3, 1) := by decide +kernel
theorem dX8_songOut_188 : decode cX8_songOut 188 = .ok (.baload, 1) := by decide +kernel
theorem dX8_songOut_189 : decode cX8_songOut 189 = .ok (.ifCond .ne 11, 3) := by decide +kernel
theorem dX8_songOut_192 : decode cX8_songOut 192 = .ok (.aload_n 0, 1) := by decide +kernel
theorem dX8_songOut_193 : decode cX8_songOut 193 = .ok (.iload_n 3, 1) := by decide +kernel
theorem dX8_songOut_194 : decode cX8_songOut 194 = .ok (.invokevirtual 183, 3) := by decide +kernel
theorem dX8_songOut_197 : decode cX8_songOut 197 = .ok (.ifCond .ne 7, 3) := by decide +kernel
theorem dX8_songOut_200 : decode cX8_songOut 200 = .ok (.iconst 1, 1) := by decide +kernel
theorem dX8_songOut_201 : decode cX8_songOut 201 = .ok (.goto 4, 3) := by decide +kernel
theorem dX8_songOut_204 : decode cX8_songOut 204 = .ok (.iconst 0, 1) := by decide +kernel
theorem dX8_songOut_205 : decode cX8_songOut 205 = .ok (.bastore, 1) := by decide +kernel
theorem dX8_songOut_206 : decode cX8_songOut 206 = .ok (.aload_n 0, 1) := by decide +kernel
theorem dX8_songOut_207 : decode cX8_songOut 207 = .ok (.iload_n 3, 1) := by decide +kernel
theorem dX8_songOut_208 : decode cX8_songOut 208 = .ok (.invokevirtual 166, 3) := by decide +kernel
theorem dX8_songOut_211 : decode cX8_songOut 211 = .ok (.iinc 3 1, 3) := by decide +kernel
theorem dX8_songOut_214 : decode cX8_songOut 214 = .ok (.goto (-166), 3) := by decide +kernel
theorem dX8_songOut_217 : decode cX8_songOut 217 = .ok (.iload_n 2, 1) := by decide +kernel
theorem dX8_songOut_218 : decode cX8_songOut 218 = .ok (.ireturn, 1) := by decide +kernel
theorem dX8_pass_0 : decode cX8_pass 0 = .ok (.aload_n 0, 1) := by decide +kernel
theorem dX8_pass_1 : decode cX8_pass 1 = .ok (.iload_n 1, 1) := by decide +kernel
theorem dX8_pass_2 : decode cX8_pass 2 = .ok (.iconst 1, 1) := by decide +kernel
theorem dX8_pass_3 : decode cX8_pass 3 = .ok (.sipush 999, 3) := by decide +kernel
theorem dX8_pass_6 : decode cX8_pass 6 = .ok (.invokestatic 142, 3) := by decide +kernel
theorem dX8_pass_9 : decode cX8_pass 9 = .ok (.ifCond .ne 7, 3) := by decide +kernel
theorem dX8_pass_12 : decode cX8_pass 12 = .ok (.iconst 1, 1) := by decide +kernel
theorem dX8_pass_13 : decode cX8_pass 13 = .ok (.goto 20, 3) := by decide +kernel
theorem dX8_pass_16 : decode cX8_pass 16 = .ok (.aload_n 0, 1) := by decide +kernel
theorem dX8_pass_17 : decode cX8_pass 17 = .ok (.getfield 170, 3) := by decide +kernel
theorem dX8_pass_20 : decode cX8_pass 20 = .ok (.iload_n 1, 1) := by decide +kernel
theorem dX8_pass_21 : decode cX8_pass 21 = .ok (.iadd, 1) := by decide +kernel
theorem dX8_pass_22 : decode cX8_pass 22 = .ok (.sipush 9999, 3) := by decide +kernel
theorem dX8_pass_25 : decode cX8_pass 25 = .ok (.if_icmp .le 7, 3) := by decide +kernel
theorem dX8_pass_28 : decode cX8_pass 28 = .ok (.iconst 2, 1) := by decide +kernel
theorem dX8_pass_29 : decode cX8_pass 29 = .ok (.goto 4, 3) := by decide +kernel
theorem dX8_pass_32 : decode cX8_pass 32 = .ok (.iconst 0, 1) := by decide +kernel
theorem dX8_pass_33 : decode cX8_pass 33 = .ok (.invokevirtual 152, 3) := by decide +kernel
theorem dX8_pass_36 : decode cX8_pass 36 = .ok (.ifCond .ne 5, 3) := by decide +kernel
theorem dX8_pass_39 : decode cX8_pass 39 = .ok (.iconst 0, 1) := by decide +kernel
theorem dX8_pass_40 : decode cX8_pass 40 = .ok (.ireturn, 1) := by decide +kernel
theorem dX8_pass_41 : decode cX8_pass 41 = .ok (.iconst 0, 1) := by decide +kernel
theorem dX8_pass_42 : decode cX8_pass 42 = .ok (.istore_n 2, 1) := by decide +kernel
theorem dX8_pass_43 : decode cX8_pass 43 = .ok (.iload_n 2, 1) := by decide +kernel
theorem dX8_pass_44 : decode cX8_pass 44 = .ok (.iload_n 1, 1) := by decide +kernel
theorem dX8_pass_45 : decode cX8_pass 45 = .ok (.if_icmp .ge 53, 3) := by decide +kernel
theorem dX8_pass_48 : decode cX8_pass 48 = .ok (.aload_n 0, 1) := by decide +kernel
theorem dX8_pass_49 : decode cX8_pass 49 = .ok (.dup, 1) := by decide +kernel
theorem dX8_pass_50 : decode cX8_pass 50 = .ok (.getfield 170, 3) := by decide +kernel
theorem dX8_pass_53 : decode cX8_pass 53 = .ok (.iconst 1, 1) := by decide +kernel
theorem dX8_pass_54 : decode cX8_pass 54 = .ok (.iadd, 1) := by decide +kernel
theorem dX8_pass_55 : decode cX8_pass 55 = .ok (.putfield 170, 3) := by decide +kernel
theorem dX8_pass_58 : decode cX8_pass 58 = .ok (.iconst 0, 1) := by decide +kernel
theorem dX8_pass_59 : decode cX8_pass 59 = .ok (.istore_n 3, 1) := by decide +kernel
theorem dX8_pass_60 : decode cX8_pass 60 = .ok (.iload_n 3, 1) := by decide +kernel
theorem dX8_pass_61 : decode cX8_pass 61 = .ok (.aload_n 0, 1) := by decide +kernel
theorem dX8_pass_62 : decode cX8_pass 62 = .ok (.getfield 139, 3) := by decide +kernel
theorem dX8_pass_65 : decode cX8_pass 65 = .ok (.if_icmp .ge 27, 3) := by decide +kernel
theorem dX8_pass_68 : decode cX8_pass 68 = .ok (.aload_n 0, 1) := by decide +kernel
theorem dX8_pass_69 : decode cX8_pass 69 = .ok (.getfield 26, 3) := by decide +kernel
theorem dX8_pass_72 : decode cX8_pass 72 = .ok (.iload_n 3, 1) := by decide +kernel
theorem dX8_pass_73 : decode cX8_pass 73 = .ok (.iaload, 1) := by decide +kernel
theorem dX8_pass_74 : decode cX8_pass 74 = .ok (.aload_n 0, 1) := by decide +kernel
theorem dX8_pass_75 : decode cX8_pass 75 = .ok (.getfield 170, 3) := by decide +kernel
theorem dX8_pass_78 : decode cX8_pass 78 = .ok (.if_icmp .ne 8, 3) := by decide +kernel
theorem dX8_pass_81 : decode cX8_pass 81 = .ok (.aload_n 0, 1) := by decide +kernel
theorem dX8_pass_82 : decode cX8_pass 82 = .ok (.iload_n 3, 1) := by decide +kernel
theorem dX8_pass_83 : decode cX8_pass 83 = .ok (.invokevirtual 177, 3) := by decide +kernel
theorem dX8_pass_86 : decode cX8_pass 86 = .ok (.iinc 3 1, 3) := by decide +kernel
theorem dX8_pass_89 : decode cX8_pass 89 = .ok (.goto (-29), 3) := by decide +kernel
theorem dX8_pass_92 : decode cX8_pass 92 = .ok (.iinc 2 1, 3) := by decide +kernel
theorem dX8_pass_95 : decode cX8_pass 95 = .ok (.goto (-52), 3) := by decide +kernel
theorem dX8_pass_98 : decode cX8_pass 98 = .ok (.aload_n 0, 1) := by decide +kernel
theorem dX8_pass_99 : decode cX8_pass 99 = .ok (.getfield 170, 3) := by decide +kernel
theorem dX8_pass_102 : decode cX8_pass 102 = .ok (.ireturn, 1) := by decide +kernel
theorem dX8_app_0 : decode cX8_app 0 = .ok (.aload_n 0, 1) := by decide +kernel
theorem dX8_app_1 : decode cX8_app 1 = .ok (.iload_n 1, 1) := by decide +kernel
theorem dX8_app_2 : decode cX8_app 2 = .ok (.iconst 0, 1) := by decide +kernel
theorem dX8_app_3 : decode cX8_app 3 = .ok (.iconst 3, 1) := by decide +kernel
theorem dX8_app_4 : decode cX8_app 4 = .ok (.invokestatic 142, 3) := by decide +kernel
theorem dX8_app_7 : decode cX8_app 7 = .ok (.ifCond .ne 7, 3) := by decide +kernel
theorem dX8_app_10 : decode cX8_app 10 = .ok (.iconst 1, 1) := by decide +kernel
theorem dX8_app_11 : decode cX8_app 11 = .ok (.goto 17, 3) := by decide +kernel
theorem dX8_app_14 : decode cX8_app 14 = .ok (.aload_n 0, 1) := by decide +kernel
theorem dX8_app_15 : decode cX8_app 15 = .ok (.getfield 187, 3) := by decide +kernel
theorem dX8_app_18 : decode cX8_app 18 = .ok (.bipush 6, 2) := by decide +kernel
theorem dX8_app_20 : decode cX8_app 20 = .ok (.if_icmp .ne 7, 3) := by decide +kernel
theorem dX8_app_23 : decode cX8_app 23 = .ok (.iconst 2, 1) := by decide +kernel
theorem dX8_app_24 : decode cX8_app 24 = .ok (.goto 4, 3) := by decide +kernel
theorem dX8_app_27 : decode cX8_app 27 = .ok (.iconst 0, 1) := by decide +kernel
theorem dX8_app_28 : decode cX8_app 28 = .ok (.invokevirtual 152, 3) := by decide +kernel
theorem dX8_app_31 : decode cX8_app 31 = .ok (.ifCond .ne 5, 3) := by decide +kernel
theorem dX8_app_34 : decode cX8_app 34 = .ok (.iconst 0, 1) := by decide +kernel
theorem dX8_app_35 : decode cX8_app 35 = .ok (.ireturn, 1) := by decide +kernel
theorem dX8_app_36 : decode cX8_app 36 = .ok (.aload_n 0, 1) := by decide +kernel
theorem dX8_app_37 : decode cX8_app 37 = .ok (.getfield 53, 3) := by decide +kernel
theorem dX8_app_40 : decode cX8_app 40 = .ok (.aload_n 0, 1) := by decide +kernel
theorem dX8_app_41 : decode cX8_app 41 = .ok (.getfield 187, 3) := by decide +kernel
theorem dX8_app_44 : decode cX8_app 44 = .ok (.iload_n 1, 1) := by decide +kernel
theorem dX8_app_45 : decode cX8_app 45 = .ok (.iastore, 1) := by decide +kernel
theorem dX8_app_46 : decode cX8_app 46 = .ok (.aload_n 0, 1) := by decide +kernel
theorem dX8_app_47 : decode cX8_app 47 = .ok (.dup, 1) := by decide +kernel
theorem dX8_app_48 : decode cX8_app 48 = .ok (.getfield 187, 3) := by decide +kernel
theorem dX8_app_51 : decode cX8_app 51 = .ok (.iconst 1, 1) := by decide +kernel
theorem dX8_app_52 : decode cX8_app 52 = .ok (.iadd, 1) := by decide +kernel
theorem dX8_app_53 : decode cX8_app 53 = .ok (.putfield 187, 3) := by decide +kernel
theorem dX8_app_56 : decode cX8_app 56 = .ok (.aload_n 0, 1) := by decide +kernel
theorem dX8_app_57 : decode cX8_app 57 = .ok (.getfield 187, 3) := by decide +kernel
theorem dX8_app_60 : decode cX8_app 60 = .ok (.iconst 1, 1) := by decide +kernel
theorem dX8_app_61 : decode cX8_app 61 = .ok (.isub, 1) := by decide +kernel
theorem dX8_app_62 : decode cX8_app 62 = .ok (.ireturn, 1) := by decide +kernel
theorem dX8_wasTold_0 : decode cX8_wasTold 0 = .ok (.iconst 0, 1) := by decide +kernel
theorem dX8_wasTold_1 : decode cX8_wasTold 1 = .ok (.istore_n 3, 1) := by decide +kernel
theorem dX8_wasTold_2 : decode cX8_wasTold 2 = .ok (.iconst 0, 1) := by decide +kernel
theorem dX8_wasTold_3 : decode cX8_wasTold 3 = .ok (.istore 4, 2) := by decide +kernel
theorem dX8_wasTold_5 : decode cX8_wasTold 5 = .ok (.iload 4, 2) := by decide +kernel
theorem dX8_wasTold_7 : decode cX8_wasTold 7 = .ok (.aload_n 0, 1) := by decide +kernel
theorem dX8_wasTold_8 : decode cX8_wasTold 8 = .ok (.getfield 59, 3) := by decide +kernel
theorem dX8_wasTold_11 : decode cX8_wasTold 11 = .ok (.iload_n 1, 1) := by decide +kernel
theorem dX8_wasTold_12 : decode cX8_wasTold 12 = .ok (.iaload, 1) := by decide +kernel
theorem dX8_wasTold_13 : decode cX8_wasTold 13 = .ok (.if_icmp .ge 35, 3) := by decide +kernel
theorem dX8_wasTold_16 : decode cX8_wasTold 16 = .ok (.iload_n 3, 1) := by decide +kernel
theorem dX8_wasTold_17 : decode cX8_wasTold 17 = .ok (.ifCond .ne 19, 3) := by decide +kernel
theorem dX8_wasTold_20 : decode cX8_wasTold 20 = .ok (.aload_n 0, 1) := by decide +kernel
theorem dX8_wasTold_21 : decode cX8_wasTold 21 = .ok (.getfield 62, 3) := by decide +kernel
theorem dX8_wasTold_24 : decode cX8_wasTold 24 = .ok (.bipush 24, 2) := by decide +kernel
theorem dX8_wasTold_26 : decode cX8_wasTold 26 = .ok (.iload_n 1, 1) := by decide +kernel
theorem dX8_wasTold_27 : decode cX8_wasTold 27 = .ok (.imul, 1) := by decide +kernel
theorem dX8_wasTold_28 : decode cX8_wasTold 28 = .ok (.iload 4, 2) := by decide +kernel
theorem dX8_wasTold_30 : decode cX8_wasTold 30 = .ok (.iadd, 1) := by decide +kernel
theorem dX8_wasTold_31 : decode cX8_wasTold 31 = .ok (.iaload, 1) := by decide +kernel
theorem dX8_wasTold_32 : decode cX8_wasTold 32 = .ok (.iload_n 2, 1) := by decide +kernel
theorem dX8_wasTold_33 : decode cX8_wasTold 33 = .ok (.if_icmp .ne 7, 3) := by decide +kernel
theorem dX8_wasTold_36 : decode cX8_wasTold 36 = .ok (.iconst 1, 1) := by decide +kernel
theorem dX8_wasTold_37 : decode cX8_wasTold 37 = .ok (.goto 4, 3) := by decide +kernel
theorem dX8_wasTold_40 : decode cX8_wasTold 40 = .ok (.iconst 0, 1) := by decide +kernel
theorem dX8_wasTold_41 : decode cX8_wasTold 41 = .ok (.istore_n 3, 1) := by decide +kernel
theorem dX8_wasTold_42 : decode cX8_wasTold 42 = .ok (.iinc 4 1, 3) := by decide +kernel
theorem dX8_wasTold_45 : decode cX8_wasTold 45 = .ok (.goto (-40), 3) := by decide +kernel
theorem dX8_wasTold_48 : decode cX8_wasTold 48 = .ok (.iload_n 3, 1) := by decide +kernel
theorem dX8_wasTold_49 : decode cX8_wasTold 49 = .ok (.ireturn, 1) := by decide +kernel
theorem dX8_poll_0 : decode cX8_poll 0 = .ok (.aload_n 0, 1) := by decide +kernel
theorem dX8_poll_1 : decode cX8_poll 1 = .ok (.iload_n 1, 1) := by decide +kernel
theorem dX8_poll_2 : decode cX8_poll 2 = .ok (.iconst 0, 1) := by decide +kernel
theorem dX8_poll_3 : decode cX8_poll 3 = .ok (.aload_n 0, 1) := by decide +kernel
theorem dX8_poll_4 : decode cX8_poll 4 = .ok (.getfield 187, 3) := by decide +kernel
theorem dX8_poll_7 : decode cX8_poll 7 = .ok (.iconst 1, 1) := by decide +kernel
theorem dX8_poll_8 : decode cX8_poll 8 = .ok (.isub, 1) := by decide +kernel
theorem dX8_poll_9 : decode cX8_poll 9 = .ok (.invokestatic 142, 3) := by decide +kernel
theorem dX8_poll_12 : decode cX8_poll 12 = .ok (.ifCond .eq 7, 3) := by decide +kernel
theorem dX8_poll_15 : decode cX8_poll 15 = .ok (.iconst 0, 1) := by decide +kernel
theorem dX8_poll_16 : decode cX8_poll 16 = .ok (.goto 4, 3) := by decide +kernel
theorem dX8_poll_19 : decode cX8_poll 19 = .ok (.iconst 1, 1) := by decide +kernel
theorem dX8_poll_20 : decode cX8_poll 20 = .ok (.invokevirtual 152, 3) := by decide +kernel
theorem dX8_poll_23 : decode cX8_poll 23 = .ok (.ifCond .ne 5, 3) := by decide +kernel
theorem dX8_poll_26 : decode cX8_poll 26 = .ok (.iconst 0, 1) := by decide +kernel
theorem dX8_poll_27 : decode cX8_poll 27 = .ok (.ireturn, 1) := by decide +kernel
theorem dX8_poll_28 : decode cX8_poll 28 = .ok (.aload_n 0, 1) := by decide +kernel
theorem dX8_poll_29 : decode cX8_poll 29 = .ok (.getfield 59, 3) := by decide +kernel
theorem dX8_poll_32 : decode cX8_poll 32 = .ok (.iload_n 1, 1) := by decide +kernel
theorem dX8_poll_33 : decode cX8_poll 33 = .ok (.iconst 0, 1) := by decide +kernel
theorem dX8_poll_34 : decode cX8_poll 34 = .ok (.iastore, 1) := by decide +kernel
theorem dX8_poll_35 : decode cX8_poll 35 = .ok (.aload_n 0, 1) := by decide +kernel
theorem dX8_poll_36 : decode cX8_poll 36 = .ok (.getfield 56, 3) := by decide +kernel
theorem dX8_poll_39 : decode cX8_poll 39 = .ok (.iload_n 1, 1) := by decide +kernel
theorem dX8_poll_40 : decode cX8_poll 40 = .ok (.iaload, 1) := by decide +kernel
theorem dX8_poll_41 : decode cX8_poll 41 = .ok (.istore_n 2, 1) := by decide +kernel
theorem dX8_poll_42 : decode cX8_poll 42 = .ok (.iload_n 2, 1) := by decide +kernel
theorem dX8_poll_43 : decode cX8_poll 43 = .ok (.aload_n 0, 1) := by decide +kernel
theorem dX8_poll_44 : decode cX8_poll 44 = .ok (.getfield 163, 3) := by decide +kernel
theorem dX8_poll_47 : decode cX8_poll 47 = .ok (.if_icmp .ge 75, 3) := by decide +kernel
theorem dX8_poll_50 : decode cX8_poll 50 = .ok (.aload_n 0, 1) := by decide +kernel
theorem dX8_poll_51 : decode cX8_poll 51 = .ok (.getfield 23, 3) := by decide +kernel
theorem dX8_poll_54 : decode cX8_poll 54 = .ok (.aload_n 0, 1) := by decide +kernel
theorem dX8_poll_55 : decode cX8_poll 55 = .ok (.getfield 50, 3) := by decide +kernel
theorem dX8_poll_58 : decode cX8_poll 58 = .ok (.iload_n 2, 1) := by decide +kernel
theorem dX8_poll_59 : decode cX8_poll 59 = .ok (.iaload, 1) := by decide +kernel
theorem dX8_poll_60 : decode cX8_poll 60 = .ok (.iaload, 1) := by decide +kernel
theorem dX8_poll_61 : decode cX8_poll 61 = .ok (.aload_n 0, 1) := by decide +kernel
theorem dX8_poll_62 : decode cX8_poll 62 = .ok (.getfield 53, 3) := by decide +kernel
theorem dX8_poll_65 : decode cX8_poll 65 = .ok (.iload_n 1, 1) := by decide +kernel
theorem dX8_poll_66 : decode cX8_poll 66 = .ok (.iaload, 1) := by decide +kernel
theorem dX8_poll_67 : decode cX8_poll 67 = .ok (.if_icmp .ne 49, 3) := by decide +kernel
theorem dX8_poll_70 : decode cX8_poll 70 = .ok (.aload_n 0, 1) := by decide +kernel
theorem dX8_poll_71 : decode cX8_poll 71 = .ok (.iload_n 1, 1) := by decide +kernel
theorem dX8_poll_72 : decode cX8_poll 72 = .ok (.aload_n 0, 1) := by decide +kernel
theorem dX8_poll_73 : decode cX8_poll 73 = .ok (.getfield 50, 3) := by decide +kernel
theorem dX8_poll_76 : decode cX8_poll 76 = .ok (.iload_n 2, 1) := by decide +kernel
theorem dX8_poll_77 : decode cX8_poll 77 = .ok (.iaload, 1) := by decide +kernel
theorem dX8_poll_78 : decode cX8_poll 78 = .ok (.invokevirtual 190, 3) := by decide +kernel
theorem dX8_poll_81 : decode cX8_poll 81 = .ok (.ifCond .ne 35, 3) := by decide +kernel
theorem dX8_poll_84 : decode cX8_poll 84 = .ok (.aload_n 0, 1) := by decide +kernel
theorem dX8_poll_85 : decode cX8_poll 85 = .ok (.getfield 62, 3) := by decide +kernel
theorem dX8_poll_88 : decode cX8_poll 88 = .ok (.bipush 24, 2) := by decide +kernel
theorem dX8_poll_90 : decode cX8_poll 90 = .ok (.iload_n 1, 1) := by decide +kernel
theorem dX8_poll_91 : decode cX8_poll 91 = .ok (.imul, 1) := by decide +kernel
theorem dX8_poll_92 : decode cX8_poll 92 = .ok (.aload_n 0, 1) := by decide +kernel
theorem dX8_poll_93 : decode cX8_poll 93 = .ok (.getfield 59, 3) := by decide +kernel
theorem dX8_poll_96 : decode cX8_poll 96 = .ok (.iload_n 1, 1) := by decide +kernel
theorem dX8_poll_97 : decode cX8_poll 97 = .ok (.iaload, 1) := by decide +kernel
theorem dX8_poll_98 : decode cX8_poll 98 = .ok (.iadd, 1) := by decide +kernel
theorem dX8_poll_99 : decode cX8_poll 99 = .ok (.aload_n 0, 1) := by decide +kernel
theorem dX8_poll_100 : decode cX8_poll 100 = .ok (.getfield 50, 3) := by decide +kernel
theorem dX8_poll_103 : decode cX8_poll 103 = .ok (.iload_n 2, 1) := by decide +kernel
theorem dX8_poll_104 : decode cX8_poll 104 = .ok (.iaload, 1) := by decide +kernel
theorem dX8_poll_105 : decode cX8_poll 105 = .ok (.iastore, 1) := by decide +kernel
theorem dX8_poll_106 : decode cX8_poll 106 = .ok (.aload_n 0, 1) := by decide +kernel
theorem dX8_poll_107 : decode cX8_poll 107 = .ok (.getfield 59, 3) := by decide +kernel
theorem dX8_poll_110 : decode cX8_poll 110 = .ok (.iload_n 1, 1) := by decide +kernel
theorem dX8_poll_111 : decode cX8_poll 111 = .ok (.dup2, 1) := by decide +kernel
theorem dX8_poll_112 : decode cX8_poll 112 = .ok (.iaload, 1) := by decide +kernel
theorem dX8_poll_113 : decode cX8_poll 113 = .ok (.iconst 1, 1) := by decide +kernel
theorem dX8_poll_114 : decode cX8_poll 114 = .ok (.iadd, 1) := by decide +kernel
theorem dX8_poll_115 : decode cX8_poll 115 = .ok (.iastore, 1) := by decide +kernel
theorem dX8_poll_116 : decode cX8_poll 116 = .ok (.iinc 2 1, 3) := by decide +kernel
theorem dX8_poll_119 : decode cX8_poll 119 = .ok (.goto (-77), 3) := by decide +kernel
theorem dX8_poll_122 : decode cX8_poll 122 = .ok (.aload_n 0, 1) := by decide +kernel
theorem dX8_poll_123 : decode cX8_poll 123 = .ok (.getfield 56, 3) := by decide +kernel
theorem dX8_poll_126 : decode cX8_poll 126 = .ok (.iload_n 1, 1) := by decide +kernel
theorem dX8_poll_127 : decode cX8_poll 127 = .ok (.aload_n 0, 1) := by decide +kernel
theorem dX8_poll_128 : decode cX8_poll 128 = .ok (.getfield 163, 3) := by decide +kernel
theorem dX8_poll_131 : decode cX8_poll 131 = .ok (.iastore, 1) := by decide +kernel
theorem dX8_poll_132 : decode cX8_poll 132 = .ok (.aload_n 0, 1) := by decide +kernel
theorem dX8_poll_133 : decode cX8_poll 133 = .ok (.getfield 59, 3) := by decide +kernel
theorem dX8_poll_136 : decode cX8_poll 136 = .ok (.iload_n 1, 1) := by decide +kernel
theorem dX8_poll_137 : decode cX8_poll 137 = .ok (.iaload, 1) := by decide +kernel
theorem dX8_poll_138 : decode cX8_poll 138 = .ok (.ireturn, 1) := by decide +kernel
theorem dX8_areRight_0 : decode cX8_areRight 0 = .ok (.iload_n 0, 1) := by decide +kernel
theorem dX8_areRight_1 : decode cX8_areRight 1 = .ok (.iconst 0, 1) := by decide +kernel
theorem dX8_areRight_2 : decode cX8_areRight 2 = .ok (.iconst 2, 1) := by decide +kernel
theorem dX8_areRight_3 : decode cX8_areRight 3 = .ok (.invokestatic 142, 3) := by decide +kernel
theorem dX8_areRight_6 : decode cX8_areRight 6 = .ok (.ifCond .eq 37, 3) := by decide +kernel
theorem dX8_areRight_9 : decode cX8_areRight 9 = .ok (.iload_n 1, 1) := by decide +kernel
theorem dX8_areRight_10 : decode cX8_areRight 10 = .ok (.iconst 0, 1) := by decide +kernel
theorem dX8_areRight_11 : decode cX8_areRight 11 = .ok (.iconst 4, 1) := by decide +kernel
theorem dX8_areRight_12 : decode cX8_areRight 12 = .ok (.invokestatic 142, 3) := by decide +kernel
theorem dX8_areRight_15 : decode cX8_areRight 15 = .ok (.ifCond .eq 28, 3) := by decide +kernel
theorem dX8_areRight_18 : decode cX8_areRight 18 = .ok (.iload_n 2, 1) := by decide +kernel
theorem dX8_areRight_19 : decode cX8_areRight 19 = .ok (.iconst 5, 1) := by decide +kernel
theorem dX8_areRight_20 : decode cX8_areRight 20 = .ok (.bipush 60, 2) := by decide +kernel
theorem dX8_areRight_22 : decode cX8_areRight 22 = .ok (.invokestatic 142, 3) := by decide +kernel
theorem dX8_areRight_25 : decode cX8_areRight 25 = .ok (.ifCond .eq 18, 3) := by decide +kernel
theorem dX8_areRight_28 : decode cX8_areRight 28 = .ok (.iload_n 3, 1) := by decide +kernel
theorem dX8_areRight_29 : decode cX8_areRight 29 = .ok (.iconst 0, 1) := by decide +kernel
theorem dX8_areRight_30 : decode cX8_areRight 30 = .ok (.sipush 9998, 3) := by decide +kernel
theorem dX8_areRight_33 : decode cX8_areRight 33 = .ok (.invokestatic 142, 3) := by decide +kernel
theorem dX8_areRight_36 : decode cX8_areRight 36 = .ok (.ifCond .eq 7, 3) := by decide +kernel
theorem dX8_areRight_39 : decode cX8_areRight 39 = .ok (.iconst 1, 1) := by decide +kernel
theorem dX8_areRight_40 : decode cX8_areRight 40 = .ok (.goto 4, 3) := by decide +kernel
theorem dX8_areRight_43 : decode cX8_areRight 43 = .ok (.iconst 0, 1) := by decide +kernel
theorem dX8_areRight_44 : decode cX8_areRight 44 = .ok (.istore 7, 2) := by decide +kernel
theorem dX8_areRight_46 : decode cX8_areRight 46 = .ok (.iload 7, 2) := by decide +kernel
theorem dX8_areRight_48 : decode cX8_areRight 48 = .ok (.ifCond .eq 42, 3) := by decide +kernel
theorem dX8_areRight_51 : decode cX8_areRight 51 = .ok (.iload 4, 2) := by decide +kernel
theorem dX8_areRight_53 : decode cX8_areRight 53 = .ok (.iload_n 3, 1) := by decide +kernel
theorem dX8_areRight_54 : decode cX8_areRight 54 = .ok (.iconst 1, 1) := by decide +kernel
theorem dX8_areRight_55 : decode cX8_areRight 55 = .ok (.iadd, 1) := by decide +kernel
theorem dX8_areRight_56 : decode cX8_areRight 56 = .ok (.sipush 9999, 3) := by decide +kernel
theorem dX8_areRight_59 : decode cX8_areRight 59 = .ok (.invokestatic 142, 3) := by decide +kernel
theorem dX8_areRight_62 : decode cX8_areRight 62 = .ok (.ifCond .eq 28, 3) := by decide +kernel
theorem dX8_areRight_65 : decode cX8_areRight 65 = .ok (.iload 5, 2) := by decide +kernel
theorem dX8_areRight_67 : decode cX8_areRight 67 = .ok (.iconst 1, 1) := by decide +kernel
theorem dX8_areRight_68 : decode cX8_areRight 68 = .ok (.bipush 99, 2) := by decide +kernel
theorem dX8_areRight_70 : decode cX8_areRight 70 = .ok (.invokestatic 142, 3) := by decide +kernel
theorem dX8_areRight_73 : decode cX8_areRight 73 = .ok (.ifCond .eq 17, 3) := by decide +kernel
theorem dX8_areRight_76 : decode cX8_areRight 76 = .ok (.iload 6, 2) := by decide +kernel
theorem dX8_areRight_78 : decode cX8_areRight 78 = .ok (.iconst 1, 1) := by decide +kernel
theorem dX8_areRight_79 : decode cX8_areRight 79 = .ok (.iconst 3, 1) := by decide +kernel
theorem dX8_areRight_80 : decode cX8_areRight 80 = .ok (.invokestatic 142, 3) := by decide +kernel
theorem dX8_areRight_83 : decode cX8_areRight 83 = .ok (.ifCond .eq 7, 3) := by decide +kernel
theorem dX8_areRight_86 : decode cX8_areRight 86 = .ok (.iconst 1, 1) := by decide +kernel
theorem dX8_areRight_87 : decode cX8_areRight 87 = .ok (.goto 4, 3) := by decide +kernel
theorem dX8_areRight_90 : decode cX8_areRight 90 = .ok (.iconst 0, 1) := by decide +kernel
theorem dX8_areRight_91 : decode cX8_areRight 91 = .ok (.ireturn, 1) := by decide +kernel
theorem dX8_campaign_0 : decode cX8_campaign 0 = .ok (.iload_n 1, 1) := by decide +kernel
theorem dX8_campaign_1 : decode cX8_campaign 1 = .ok (.iload_n 2, 1) := by decide +kernel
theorem dX8_campaign_2 : decode cX8_campaign 2 = .ok (.iload_n 3, 1) := by decide +kernel
theorem dX8_campaign_3 : decode cX8_campaign 3 = .ok (.iload 4, 2) := by decide +kernel
theorem dX8_campaign_5 : decode cX8_campaign 5 = .ok (.iload 5, 2) := by decide +kernel
theorem dX8_campaign_7 : decode cX8_campaign 7 = .ok (.iload 6, 2) := by decide +kernel
theorem dX8_campaign_9 : decode cX8_campaign 9 = .ok (.iload 7, 2) := by decide +kernel
theorem dX8_campaign_11 : decode cX8_campaign 11 = .ok (.invokestatic 194, 3) := by decide +kernel
theorem dX8_campaign_14 : decode cX8_campaign 14 = .ok (.istore 8, 2) := by decide +kernel
theorem dX8_campaign_16 : decode cX8_campaign 16 = .ok (.aload_n 0, 1) := by decide +kernel
theorem dX8_campaign_17 : decode cX8_campaign 17 = .ok (.iload 8, 2) := by decide +kernel
theorem dX8_campaign_19 : decode cX8_campaign 19 = .ok (.ifCond .ne 7, 3) := by decide +kernel
theorem dX8_campaign_22 : decode cX8_campaign 22 = .ok (.iconst 1, 1) := by decide +kernel
theorem dX8_campaign_23 : decode cX8_campaign 23 = .ok (.goto 17, 3) := by decide +kernel
theorem dX8_campaign_26 : decode cX8_campaign 26 = .ok (.aload_n 0, 1) := by decide +kernel
theorem dX8_campaign_27 : decode cX8_campaign 27 = .ok (.getfield 198, 3) := by decide +kernel
theorem dX8_campaign_30 : decode cX8_campaign 30 = .ok (.bipush 8, 2) := by decide +kernel
theorem dX8_campaign_32 : decode cX8_campaign 32 = .ok (.if_icmp .ne 7, 3) := by decide +kernel
theorem dX8_campaign_35 : decode cX8_campaign 35 = .ok (.iconst 2, 1) := by decide +kernel
theorem dX8_campaign_36 : decode cX8_campaign 36 = .ok (.goto 4, 3) := by decide +kernel
theorem dX8_campaign_39 : decode cX8_campaign 39 = .ok (.iconst 0, 1) := by decide +kernel
theorem dX8_campaign_40 : decode cX8_campaign 40 = .ok (.invokevirtual 152, 3) := by decide +kernel
theorem dX8_campaign_43 : decode cX8_campaign 43 = .ok (.ifCond .ne 5, 3) := by decide +kernel
theorem dX8_campaign_46 : decode cX8_campaign 46 = .ok (.iconst 0, 1) := by decide +kernel
theorem dX8_campaign_47 : decode cX8_campaign 47 = .ok (.ireturn, 1) := by decide +kernel
theorem dX8_campaign_48 : decode cX8_campaign 48 = .ok (.aload_n 0, 1) := by decide +kernel
theorem dX8_campaign_49 : decode cX8_campaign 49 = .ok (.getfield 65, 3) := by decide +kernel
theorem dX8_campaign_52 : decode cX8_campaign 52 = .ok (.aload_n 0, 1) := by decide +kernel
theorem dX8_campaign_53 : decode cX8_campaign 53 = .ok (.getfield 198, 3) := by decide +kernel
theorem dX8_campaign_56 : decode cX8_campaign 56 = .ok (.iload_n 1, 1) := by decide +kernel
theorem dX8_campaign_57 : decode cX8_campaign 57 = .ok (.iastore, 1) := by decide +kernel
theorem dX8_campaign_58 : decode cX8_campaign 58 = .ok (.aload_n 0, 1) := by decide +kernel
theorem dX8_campaign_59 : decode cX8_campaign 59 = .ok (.getfield 68, 3) := by decide +kernel
theorem dX8_campaign_62 : decode cX8_campaign 62 = .ok (.aload_n 0, 1) := by decide +kernel
theorem dX8_campaign_63 : decode cX8_campaign 63 = .ok (.getfield 198, 3) := by decide +kernel
theorem dX8_campaign_66 : decode cX8_campaign 66 = .ok (.iload_n 2, 1) := by decide +kernel
theorem dX8_campaign_67 : decode cX8_campaign 67 = .ok (.iastore, 1) := by decide +kernel
theorem dX8_campaign_68 : decode cX8_campaign 68 = .ok (.aload_n 0, 1) := by decide +kernel
theorem dX8_campaign_69 : decode cX8_campaign 69 = .ok (.getfield 71, 3) := by decide +kernel
theorem dX8_campaign_72 : decode cX8_campaign 72 = .ok (.aload_n 0, 1) := by decide +kernel
theorem dX8_campaign_73 : decode cX8_campaign 73 = .ok (.getfield 198, 3) := by decide +kernel
theorem dX8_campaign_76 : decode cX8_campaign 76 = .ok (.iload_n 3, 1) := by decide +kernel
theorem dX8_campaign_77 : decode cX8_campaign 77 = .ok (.iastore, 1) := by decide +kernel
theorem dX8_campaign_78 : decode cX8_campaign 78 = .ok (.aload_n 0, 1) := by decide +kernel
theorem dX8_campaign_79 : decode cX8_campaign 79 = .ok (.getfield 74, 3) := by decide +kernel
theorem dX8_campaign_82 : decode cX8_campaign 82 = .ok (.aload_n 0, 1) := by decide +kernel
theorem dX8_campaign_83 : decode cX8_campaign 83 = .ok (.getfield 198, 3) := by decide +kernel
theorem dX8_campaign_86 : decode cX8_campaign 86 = .ok (.iload 4, 2) := by decide +kernel
theorem dX8_campaign_88 : decode cX8_campaign 88 = .ok (.iastore, 1) := by decide +kernel
theorem dX8_campaign_89 : decode cX8_campaign 89 = .ok (.aload_n 0, 1) := by decide +kernel
theorem dX8_campaign_90 : decode cX8_campaign 90 = .ok (.getfield 77, 3) := by decide +kernel
theorem dX8_campaign_93 : decode cX8_campaign 93 = .ok (.aload_n 0, 1) := by decide +kernel
theorem dX8_campaign_94 : decode cX8_campaign 94 = .ok (.getfield 198, 3) := by decide +kernel
theorem dX8_campaign_97 : decode cX8_campaign 97 = .ok (.iload 5, 2) := by decide +kernel
theorem dX8_campaign_99 : decode cX8_campaign 99 = .ok (.iastore, 1) := by decide +kernel
theorem dX8_campaign_100 : decode cX8_campaign 100 = .ok (.aload_n 0, 1) := by decide +kernel
theorem dX8_campaign_101 : decode cX8_campaign 101 = .ok (.getfield 80, 3) := by decide +kernel
theorem dX8_campaign_104 : decode cX8_campaign 104 = .ok (.aload_n 0, 1) := by decide +kernel
theorem dX8_campaign_105 : decode cX8_campaign 105 = .ok (.getfield 198, 3) := by decide +kernel
theorem dX8_campaign_108 : decode cX8_campaign 108 = .ok (.iload 6, 2) := by decide +kernel
theorem dX8_campaign_110 : decode cX8_campaign 110 = .ok (.iastore, 1) := by decide +kernel
theorem dX8_campaign_111 : decode cX8_campaign 111 = .ok (.aload_n 0, 1) := by decide +kernel
theorem dX8_campaign_112 : decode cX8_campaign 112 = .ok (.getfield 83, 3) := by decide +kernel
theorem dX8_campaign_115 : decode cX8_campaign 115 = .ok (.aload_n 0, 1) := by decide +kernel
theorem dX8_campaign_116 : decode cX8_campaign 116 = .ok (.getfield 198, 3) := by decide +kernel
theorem dX8_campaign_119 : decode cX8_campaign 119 = .ok (.iload 7, 2) := by decide +kernel
theorem dX8_campaign_121 : decode cX8_campaign 121 = .ok (.iastore, 1) := by decide +kernel
theorem dX8_campaign_122 : decode cX8_campaign 122 = .ok (.aload_n 0, 1) := by decide +kernel
theorem dX8_campaign_123 : decode cX8_campaign 123 = .ok (.dup, 1) := by decide +kernel
theorem dX8_campaign_124 : decode cX8_campaign 124 = .ok (.getfield 198, 3) := by decide +kernel
theorem dX8_campaign_127 : decode cX8_campaign 127 = .ok (.iconst 1, 1) := by decide +kernel
theorem dX8_campaign_128 : decode cX8_campaign 128 = .ok (.iadd, 1) := by decide +kernel
theorem dX8_campaign_129 : decode cX8_campaign 129 = .ok (.putfield 198, 3) := by decide +kernel
theorem dX8_campaign_132 : decode cX8_campaign 132 = .ok (.aload_n 0, 1) := by decide +kernel
theorem dX8_campaign_133 : decode cX8_campaign 133 = .ok (.getfield 198, 3) := by decide +kernel
theorem dX8_campaign_136 : decode cX8_campaign 136 = .ok (.iconst 1, 1) := by decide +kernel
theorem dX8_campaign_137 : decode cX8_campaign 137 = .ok (.isub, 1) := by decide +kernel
theorem dX8_campaign_138 : decode cX8_campaign 138 = .ok (.ireturn, 1) := by decide +kernel
theorem dX8_due_0 : decode cX8_due 0 = .ok (.aload_n 0, 1) := by decide +kernel
theorem dX8_due_1 : decode cX8_due 1 = .ok (.getfield 170, 3) := by decide +kernel
theorem dX8_due_4 : decode cX8_due 4 = .ok (.aload_n 0, 1) := by decide +kernel
theorem dX8_due_5 : decode cX8_due 5 = .ok (.getfield 74, 3) := by decide +kernel
theorem dX8_due_8 : decode cX8_due 8 = .ok (.iload_n 1, 1) := by decide +kernel
theorem dX8_due_9 : decode cX8_due 9 = .ok (.iaload, 1) := by decide +kernel
theorem dX8_due_10 : decode cX8_due 10 = .ok (.aload_n 0, 1) := by decide +kernel
theorem dX8_due_11 : decode cX8_due 11 = .ok (.getfield 77, 3) := by decide +kernel
theorem dX8_due_14 : decode cX8_due 14 = .ok (.iload_n 1, 1) := by decide +kernel
theorem dX8_due_15 : decode cX8_due 15 = .ok (.iaload, 1) := by decide +kernel
theorem dX8_due_16 : decode cX8_due 16 = .ok (.iconst 1, 1) := by decide +kernel
theorem dX8_due_17 : decode cX8_due 17 = .ok (.isub, 1) := by decide +kernel
theorem dX8_due_18 : decode cX8_due 18 = .ok (.invokestatic 142, 3) := by decide +kernel
theorem dX8_due_21 : decode cX8_due 21 = .ok (.ifCond .eq 40, 3) := by decide +kernel
theorem dX8_due_24 : decode cX8_due 24 = .ok (.aload_n 0, 1) := by decide +kernel
theorem dX8_due_25 : decode cX8_due 25 = .ok (.getfield 80, 3) := by decide +kernel
theorem dX8_due_28 : decode cX8_due 28 = .ok (.iload_n 1, 1) := by decide +kernel
theorem dX8_due_29 : decode cX8_due 29 = .ok (.iaload, 1) := by decide +kernel
theorem dX8_due_30 : decode cX8_due 30 = .ok (.aload_n 0, 1) := by decide +kernel
theorem dX8_due_31 : decode cX8_due 31 = .ok (.getfield 170, 3) := by decide +kernel
theorem dX8_due_34 : decode cX8_due 34 = .ok (.aload_n 0, 1) := by decide +kernel
theorem dX8_due_35 : decode cX8_due 35 = .ok (.getfield 74, 3) := by decide +kernel
theorem dX8_due_38 : decode cX8_due 38 = .ok (.iload_n 1, 1) := by decide +kernel
theorem dX8_due_39 : decode cX8_due 39 = .ok (.iaload, 1) := by decide +kernel
theorem dX8_due_40 : decode cX8_due 40 = .ok (.isub, 1) := by decide +kernel
theorem dX8_due_41 : decode cX8_due 41 = .ok (.iconst 1, 1) := by decide +kernel
theorem dX8_due_42 : decode cX8_due 42 = .ok (.iadd, 1) := by decide +kernel
theorem dX8_due_43 : decode cX8_due 43 = .ok (.imul, 1) := by decide +kernel
theorem dX8_due_44 : decode cX8_due 44 = .ok (.aload_n 0, 1) := by decide +kernel
theorem dX8_due_45 : decode cX8_due 45 = .ok (.getfield 77, 3) := by decide +kernel
theorem dX8_due_48 : decode cX8_due 48 = .ok (.iload_n 1, 1) := by decide +kernel
theorem dX8_due_49 : decode cX8_due 49 = .ok (.iaload, 1) := by decide +kernel
theorem dX8_due_50 : decode cX8_due 50 = .ok (.aload_n 0, 1) := by decide +kernel
theorem dX8_due_51 : decode cX8_due 51 = .ok (.getfield 74, 3) := by decide +kernel
theorem dX8_due_54 : decode cX8_due 54 = .ok (.iload_n 1, 1) := by decide +kernel
theorem dX8_due_55 : decode cX8_due 55 = .ok (.iaload, 1) := by decide +kernel
theorem dX8_due_56 : decode cX8_due 56 = .ok (.isub, 1) := by decide +kernel
theorem dX8_due_57 : decode cX8_due 57 = .ok (.idiv, 1) := by decide +kernel
theorem dX8_due_58 : decode cX8_due 58 = .ok (.goto 4, 3) := by decide +kernel
theorem dX8_due_61 : decode cX8_due 61 = .ok (.iconst 0, 1) := by decide +kernel
theorem dX8_due_62 : decode cX8_due 62 = .ok (.ireturn, 1) := by decide +kernel
theorem dX8_gotToday_0 : decode cX8_gotToday 0 = .ok (.iconst 0, 1) := by decide +kernel
theorem dX8_gotToday_1 : decode cX8_gotToday 1 = .ok (.istore_n 3, 1) := by decide +kernel
theorem dX8_gotToday_2 : decode cX8_gotToday 2 = .ok (.iconst 0, 1) := by decide +kernel
theorem dX8_gotToday_3 : decode cX8_gotToday 3 = .ok (.istore 4, 2) := by decide +kernel
theorem dX8_gotToday_5 : decode cX8_gotToday 5 = .ok (.iload 4, 2) := by decide +kernel
theorem dX8_gotToday_7 : decode cX8_gotToday 7 = .ok (.aload_n 0, 1) := by decide +kernel
theorem dX8_gotToday_8 : decode cX8_gotToday 8 = .ok (.getfield 146, 3) := by decide +kernel
theorem dX8_gotToday_11 : decode cX8_gotToday 11 = .ok (.if_icmp .ge 90, 3) := by decide +kernel
theorem dX8_gotToday_14 : decode cX8_gotToday 14 = .ok (.bipush 10, 2) := by decide +kernel
theorem dX8_gotToday_16 : decode cX8_gotToday 16 = .ok (.iload 4, 2) := by decide +kernel
theorem dX8_gotToday_18 : decode cX8_gotToday 18 = .ok (.imul, 1) := by decide +kernel
theorem dX8_gotToday_19 : decode cX8_gotToday 19 = .ok (.istore 5, 2) := by decide +kernel
theorem dX8_gotToday_21 : decode cX8_gotToday 21 = .ok (.iload 5, 2) := by decide +kernel
theorem dX8_gotToday_23 : decode cX8_gotToday 23 = .ok (.bipush 10, 2) := by decide +kernel
theorem dX8_gotToday_25 : decode cX8_gotToday 25 = .ok (.iload 4, 2) := by decide +kernel
theorem dX8_gotToday_27 : decode cX8_gotToday 27 = .ok (.imul, 1) := by decide +kernel
theorem dX8_gotToday_28 : decode cX8_gotToday 28 = .ok (.aload_n 0, 1) := by decide +kernel
theorem dX8_gotToday_29 : decode cX8_gotToday 29 = .ok (.getfield 104, 3) := by decide +kernel
theorem dX8_gotToday_32 : decode cX8_gotToday 32 = .ok (.iload 4, 2) := by decide +kernel
theorem dX8_gotToday_34 : decode cX8_gotToday 34 = .ok (.iaload, 1) := by decide +kernel
theorem dX8_gotToday_35 : decode cX8_gotToday 35 = .ok (.iadd, 1) := by decide +kernel
theorem dX8_gotToday_36 : decode cX8_gotToday 36 = .ok (.if_icmp .ge 59, 3) := by decide +kernel
theorem dX8_gotToday_39 : decode cX8_gotToday 39 = .ok (.iload_n 3, 1) := by decide +kernel
theorem dX8_gotToday_40 : decode cX8_gotToday 40 = .ok (.aload_n 0, 1) := by decide +kernel
theorem dX8_gotToday_41 : decode cX8_gotToday 41 = .ok (.getfield 95, 3) := by decide +kernel
theorem dX8_gotToday_44 : decode cX8_gotToday 44 = .ok (.iload 4, 2) := by decide +kernel
theorem dX8_gotToday_46 : decode cX8_gotToday 46 = .ok (.iaload, 1) := by decide +kernel
theorem dX8_gotToday_47 : decode cX8_gotToday 47 = .ok (.iload_n 1, 1) := by decide +kernel
theorem dX8_gotToday_48 : decode cX8_gotToday 48 = .ok (.if_icmp .ne 38, 3) := by decide +kernel
theorem dX8_gotToday_51 : decode cX8_gotToday 51 = .ok (.aload_n 0, 1) := by decide +kernel
theorem dX8_gotToday_52 : decode cX8_gotToday 52 = .ok (.getfield 101, 3) := by decide +kernel
theorem dX8_gotToday_55 : decode cX8_gotToday 55 = .ok (.iload 4, 2) := by decide +kernel
theorem dX8_gotToday_57 : decode cX8_gotToday 57 = .ok (.iaload, 1) := by decide +kernel
theorem dX8_gotToday_58 : decode cX8_gotToday 58 = .ok (.bipush 24, 2) := by decide +kernel
theorem dX8_gotToday_60 : decode cX8_gotToday 60 = .ok (.idiv, 1) := by decide +kernel
theorem dX8_gotToday_61 : decode cX8_gotToday 61 = .ok (.aload_n 0, 1) := by decide +kernel
theorem dX8_gotToday_62 : decode cX8_gotToday 62 = .ok (.getfield 170, 3) := by decide +kernel
theorem dX8_gotToday_65 : decode cX8_gotToday 65 = .ok (.bipush 24, 2) := by decide +kernel
theorem dX8_gotToday_67 : decode cX8_gotToday 67 = .ok (.idiv, 1) := by decide +kernel
theorem dX8_gotToday_68 : decode cX8_gotToday 68 = .ok (.if_icmp .ne 18, 3) := by decide +kernel
theorem dX8_gotToday_71 : decode cX8_gotToday 71 = .ok (.aload_n 0, 1) := by decide +kernel
theorem dX8_gotToday_72 : decode cX8_gotToday 72 = .ok (.getfield 113, 3) := by decide +kernel
theorem dX8_gotToday_75 : decode cX8_gotToday 75 = .ok (.iload 5, 2) := by decide +kernel
theorem dX8_gotToday_77 : decode cX8_gotToday 77 = .ok (.iaload, 1) := by decide +kernel
theorem dX8_gotToday_78 : decode cX8_gotToday 78 = .ok (.iload_n 2, 1) := by decide +kernel
theorem dX8_gotToday_79 : decode cX8_gotToday 79 = .ok (.if_icmp .ne 7, 3) := by decide +kernel
theorem dX8_gotToday_82 : decode cX8_gotToday 82 = .ok (.iconst 1, 1) := by decide +kernel
theorem dX8_gotToday_83 : decode cX8_gotToday 83 = .ok (.goto 4, 3) := by decide +kernel
theorem dX8_gotToday_86 : decode cX8_gotToday 86 = .ok (.iconst 0, 1) := by decide +kernel
theorem dX8_gotToday_87 : decode cX8_gotToday 87 = .ok (.iadd, 1) := by decide +kernel
theorem dX8_gotToday_88 : decode cX8_gotToday 88 = .ok (.istore_n 3, 1) := by decide +kernel
theorem dX8_gotToday_89 : decode cX8_gotToday 89 = .ok (.iinc 5 1, 3) := by decide +kernel
theorem dX8_gotToday_92 : decode cX8_gotToday 92 = .ok (.goto (-71), 3) := by decide +kernel
theorem dX8_gotToday_95 : decode cX8_gotToday 95 = .ok (.iinc 4 1, 3) := by decide +kernel
theorem dX8_gotToday_98 : decode cX8_gotToday 98 = .ok (.goto (-93), 3) := by decide +kernel
theorem dX8_gotToday_101 : decode cX8_gotToday 101 = .ok (.iload_n 3, 1) := by decide +kernel
theorem dX8_gotToday_102 : decode cX8_gotToday 102 = .ok (.ireturn, 1) := by decide +kernel
theorem dX8_hasGroup_0 : decode cX8_hasGroup 0 = .ok (.iconst 0, 1) := by decide +kernel
theorem dX8_hasGroup_1 : decode cX8_hasGroup 1 = .ok (.istore_n 3, 1) := by decide +kernel
theorem dX8_hasGroup_2 : decode cX8_hasGroup 2 = .ok (.bipush 10, 2) := by decide +kernel
theorem dX8_hasGroup_4 : decode cX8_hasGroup 4 = .ok (.iload_n 1, 1) := by decide +kernel
theorem dX8_hasGroup_5 : decode cX8_hasGroup 5 = .ok (.imul, 1) := by decide +kernel
theorem dX8_hasGroup_6 : decode cX8_hasGroup 6 = .ok (.istore 4, 2) := by decide +kernel
theorem dX8_hasGroup_8 : decode cX8_hasGroup 8 = .ok (.iload 4, 2) := by decide +kernel
theorem dX8_hasGroup_10 : decode cX8_hasGroup 10 = .ok (.bipush 10, 2) := by decide +kernel
theorem dX8_hasGroup_12 : decode cX8_hasGroup 12 = .ok (.iload_n 1, 1) := by decide +kernel
theorem dX8_hasGroup_13 : decode cX8_hasGroup 13 = .ok (.imul, 1) := by decide +kernel
theorem dX8_hasGroup_14 : decode cX8_hasGroup 14 = .ok (.aload_n 0, 1) := by decide +kernel
theorem dX8_hasGroup_15 : decode cX8_hasGroup 15 = .ok (.getfield 104, 3) := by decide +kernel
theorem dX8_hasGroup_18 : decode cX8_hasGroup 18 = .ok (.iload_n 1, 1) := by decide +kernel
theorem dX8_hasGroup_19 : decode cX8_hasGroup 19 = .ok (.iaload, 1) := by decide +kernel
theorem dX8_hasGroup_20 : decode cX8_hasGroup 20 = .ok (.iadd, 1) := by decide +kernel
theorem dX8_hasGroup_21 : decode cX8_hasGroup 21 = .ok (.if_icmp .ge 46, 3) := by decide +kernel
theorem dX8_hasGroup_24 : decode cX8_hasGroup 24 = .ok (.iload_n 3, 1) := by decide +kernel
theorem dX8_hasGroup_25 : decode cX8_hasGroup 25 = .ok (.ifCond .ne 30, 3) := by decide +kernel
theorem dX8_hasGroup_28 : decode cX8_hasGroup 28 = .ok (.aload_n 0, 1) := by decide +kernel
theorem dX8_hasGroup_29 : decode cX8_hasGroup 29 = .ok (.getfield 113, 3) := by decide +kernel
theorem dX8_hasGroup_32 : decode cX8_hasGroup 32 = .ok (.iload 4, 2) := by decide +kernel
theorem dX8_hasGroup_34 : decode cX8_hasGroup 34 = .ok (.iaload, 1) := by decide +kernel
theorem dX8_hasGroup_35 : decode cX8_hasGroup 35 = .ok (.iconst (-1), 1) := by decide +kernel
theorem dX8_hasGroup_36 : decode cX8_hasGroup 36 = .ok (.if_icmp .eq 23, 3) := by decide +kernel
theorem dX8_hasGroup_39 : decode cX8_hasGroup 39 = .ok (.aload_n 0, 1) := by decide +kernel
theorem dX8_hasGroup_40 : decode cX8_hasGroup 40 = .ok (.getfield 68, 3) := by decide +kernel
theorem dX8_hasGroup_43 : decode cX8_hasGroup 43 = .ok (.aload_n 0, 1) := by decide +kernel
theorem dX8_hasGroup_44 : decode cX8_hasGroup 44 = .ok (.getfield 113, 3) := by decide +kernel
theorem dX8_hasGroup_47 : decode cX8_hasGroup 47 = .ok (.iload 4, 2) := by decide +kernel
theorem dX8_hasGroup_49 : decode cX8_hasGroup 49 = .ok (.iaload, 1) := by decide +kernel
theorem dX8_hasGroup_50 : decode cX8_hasGroup 50 = .ok (.iaload, 1) := by decide +kernel
theorem dX8_hasGroup_51 : decode cX8_hasGroup 51 = .ok (.iload_n 2, 1) := by decide +kernel
theorem dX8_hasGroup_52 : decode cX8_hasGroup 52 = .ok (.if_icmp .ne 7, 3) := by decide +kernel
theorem dX8_hasGroup_55 : decode cX8_hasGroup 55 = .ok (.iconst 1, 1) := by decide +kernel
theorem dX8_hasGroup_56 : decode cX8_hasGroup 56 = .ok (.goto 4, 3) := by decide +kernel
theorem dX8_hasGroup_59 : decode cX8_hasGroup 59 = .ok (.iconst 0, 1) := by decide +kernel
theorem dX8_hasGroup_60 : decode cX8_hasGroup 60 = .ok (.istore_n 3, 1) := by decide +kernel
theorem dX8_hasGroup_61 : decode cX8_hasGroup 61 = .ok (.iinc 4 1, 3) := by decide +kernel
theorem dX8_hasGroup_64 : decode cX8_hasGroup 64 = .ok (.goto (-56), 3) := by decide +kernel
theorem dX8_hasGroup_67 : decode cX8_hasGroup 67 = .ok (.iload_n 3, 1) := by decide +kernel
theorem dX8_hasGroup_68 : decode cX8_hasGroup 68 = .ok (.ireturn, 1) := by decide +kernel
theorem dX8_adFor_0 : decode cX8_adFor 0 = .ok (.aload_n 0, 1) := by decide +kernel
theorem dX8_adFor_1 : decode cX8_adFor 1 = .ok (.getfield 146, 3) := by decide +kernel
theorem dX8_adFor_4 : decode cX8_adFor 4 = .ok (.iconst 1, 1) := by decide +kernel
theorem dX8_adFor_5 : decode cX8_adFor 5 = .ok (.isub, 1) := by decide +kernel
theorem dX8_adFor_6 : decode cX8_adFor 6 = .ok (.istore_n 2, 1) := by decide +kernel
theorem dX8_adFor_7 : decode cX8_adFor 7 = .ok (.iconst (-1), 1) := by decide +kernel
theorem dX8_adFor_8 : decode cX8_adFor 8 = .ok (.istore_n 3, 1) := by decide +kernel
theorem dX8_adFor_9 : decode cX8_adFor 9 = .ok (.iconst 0, 1) := by decide +kernel
theorem dX8_adFor_10 : decode cX8_adFor 10 = .ok (.istore 4, 2) := by decide +kernel
theorem dX8_adFor_12 : decode cX8_adFor 12 = .ok (.iconst 0, 1) := by decide +kernel
theorem dX8_adFor_13 : decode cX8_adFor 13 = .ok (.istore 5, 2) := by decide +kernel
theorem dX8_adFor_15 : decode cX8_adFor 15 = .ok (.iload 5, 2) := by decide +kernel
theorem dX8_adFor_17 : decode cX8_adFor 17 = .ok (.aload_n 0, 1) := by decide +kernel
theorem dX8_adFor_18 : decode cX8_adFor 18 = .ok (.getfield 198, 3) := by decide +kernel
theorem dX8_adFor_21 : decode cX8_adFor 21 = .ok (.if_icmp .ge 133, 3) := by decide +kernel
theorem dX8_adFor_24 : decode cX8_adFor 24 = .ok (.aload_n 0, 1) := by decide +kernel
theorem dX8_adFor_25 : decode cX8_adFor 25 = .ok (.getfield 170, 3) := by decide +kernel
theorem dX8_adFor_28 : decode cX8_adFor 28 = .ok (.aload_n 0, 1) := by decide +kernel
theorem dX8_adFor_29 : decode cX8_adFor 29 = .ok (.getfield 74, 3) := by decide +kernel
theorem dX8_adFor_32 : decode cX8_adFor 32 = .ok (.iload 5, 2) := by decide +kernel
theorem dX8_adFor_34 : decode cX8_adFor 34 = .ok (.iaload, 1) := by decide +kernel
theorem dX8_adFor_35 : decode cX8_adFor 35 = .ok (.aload_n 0, 1) := by decide +kernel
theorem dX8_adFor_36 : decode cX8_adFor 36 = .ok (.getfield 77, 3) := by decide +kernel
theorem dX8_adFor_39 : decode cX8_adFor 39 = .ok (.iload 5, 2) := by decide +kernel
theorem dX8_adFor_41 : decode cX8_adFor 41 = .ok (.iaload, 1) := by decide +kernel
theorem dX8_adFor_42 : decode cX8_adFor 42 = .ok (.iconst 1, 1) := by decide +kernel
theorem dX8_adFor_43 : decode cX8_adFor 43 = .ok (.isub, 1) := by decide +kernel
theorem dX8_adFor_44 : decode cX8_adFor 44 = .ok (.invokestatic 142, 3) := by decide +kernel
theorem dX8_adFor_47 : decode cX8_adFor 47 = .ok (.ifCond .eq 33, 3) := by decide +kernel
theorem dX8_adFor_50 : decode cX8_adFor 50 = .ok (.aload_n 0, 1) := by decide +kernel
theorem dX8_adFor_51 : decode cX8_adFor 51 = .ok (.getfield 65, 3) := by decide +kernel
theorem dX8_adFor_54 : decode cX8_adFor 54 = .ok (.iload 5, 2) := by decide +kernel
theorem dX8_adFor_56 : decode cX8_adFor 56 = .ok (.iaload, 1) := by decide +kernel
theorem dX8_adFor_57 : decode cX8_adFor 57 = .ok (.iload_n 1, 1) := by decide +kernel
theorem dX8_adFor_58 : decode cX8_adFor 58 = .ok (.if_icmp .ne 22, 3) := by decide +kernel
theorem dX8_adFor_61 : decode cX8_adFor 61 = .ok (.aload_n 0, 1) := by decide +kernel
theorem dX8_adFor_62 : decode cX8_adFor 62 = .ok (.iload_n 2, 1) := by decide +kernel
theorem dX8_adFor_63 : decode cX8_adFor 63 = .ok (.aload_n 0, 1) := by decide +kernel
theorem dX8_adFor_64 : decode cX8_adFor 64 = .ok (.getfield 68, 3) := by decide +kernel
theorem dX8_adFor_67 : decode cX8_adFor 67 = .ok (.iload 5, 2) := by decide +kernel
theorem dX8_adFor_69 : decode cX8_adFor 69 = .ok (.iaload, 1) := by decide +kernel
theorem dX8_adFor_70 : decode cX8_adFor 70 = .ok (.invokevirtual 201, 3) := by decide +kernel
theorem dX8_adFor_73 : decode cX8_adFor 73 = .ok (.ifCond .ne 7, 3) := by decide +kernel
theorem dX8_adFor_76 : decode cX8_adFor 76 = .ok (.iconst 1, 1) := by decide +kernel
theorem dX8_adFor_77 : decode cX8_adFor 77 = .ok (.goto 4, 3) := by decide +kernel
theorem dX8_adFor_80 : decode cX8_adFor 80 = .ok (.iconst 0, 1) := by decide +kernel
theorem dX8_adFor_81 : decode cX8_adFor 81 = .ok (.istore 6, 2) := by decide +kernel
theorem dX8_adFor_83 : decode cX8_adFor 83 = .ok (.iload 6, 2) := by decide +kernel
theorem dX8_adFor_85 : decode cX8_adFor 85 = .ok (.ifCond .eq 63, 3) := by decide +kernel
theorem dX8_adFor_88 : decode cX8_adFor 88 = .ok (.aload_n 0, 1) := by decide +kernel
theorem dX8_adFor_89 : decode cX8_adFor 89 = .ok (.iload 5, 2) := by decide +kernel
theorem dX8_adFor_91 : decode cX8_adFor 91 = .ok (.invokevirtual 204, 3) := by decide +kernel
theorem dX8_adFor_94 : decode cX8_adFor 94 = .ok (.aload_n 0, 1) := by decide +kernel
theorem dX8_adFor_95 : decode cX8_adFor 95 = .ok (.getfield 86, 3) := by decide +kernel
theorem dX8_adFor_98 : decode cX8_adFor 98 = .ok (.iload 5, 2) := by decide +kernel
theorem dX8_adFor_100 : decode cX8_adFor 100 = .ok (.iaload, 1) := by decide +kernel
theorem dX8_adFor_101 : decode cX8_adFor 101 = .ok (.isub, 1) := by decide +kernel
theorem dX8_adFor_102 : decode cX8_adFor 102 = .ok (.iload 4, 2) := by decide +kernel
theorem dX8_adFor_104 : decode cX8_adFor 104 = .ok (.if_icmp .le 44, 3) := by decide +kernel
theorem dX8_adFor_107 : decode cX8_adFor 107 = .ok (.aload_n 0, 1) := by decide +kernel
theorem dX8_adFor_108 : decode cX8_adFor 108 = .ok (.aload_n 0, 1) := by decide +kernel
theorem dX8_adFor_109 : decode cX8_adFor 109 = .ok (.getfield 95, 3) := by decide +kernel
theorem dX8_adFor_112 : decode cX8_adFor 112 = .ok (.iload_n 2, 1) := by decide +kernel
theorem dX8_adFor_113 : decode cX8_adFor 113 = .ok (.iaload, 1) := by decide +kernel
theorem dX8_adFor_114 : decode cX8_adFor 114 = .ok (.iload 5, 2) := by decide +kernel
theorem dX8_adFor_116 : decode cX8_adFor 116 = .ok (.invokevirtual 207, 3) := by decide +kernel
theorem dX8_adFor_119 : decode cX8_adFor 119 = .ok (.aload_n 0, 1) := by decide +kernel
theorem dX8_adFor_120 : decode cX8_adFor 120 = .ok (.getfield 83, 3) := by decide +kernel
theorem dX8_adFor_123 : decode cX8_adFor 123 = .ok (.iload 5, 2) := by decide +kernel
theorem dX8_adFor_125 : decode cX8_adFor 125 = .ok (.iaload, 1) := by decide +kernel
theorem dX8_adFor_126 : decode cX8_adFor 126 = .ok (.if_icmp .ge 22, 3) := by decide +kernel
theorem dX8_adFor_129 : decode cX8_adFor 129 = .ok (.iload 5, 2) := by decide +kernel
theorem dX8_adFor_131 : decode cX8_adFor 131 = .ok (.istore_n 3, 1) := by decide +kernel
theorem dX8_adFor_132 : decode cX8_adFor 132 = .ok (.aload_n 0, 1) := by decide +kernel
theorem dX8_adFor_133 : decode cX8_adFor 133 = .ok (.iload 5, 2) := by decide +kernel
theorem dX8_adFor_135 : decode cX8_adFor 135 = .ok (.invokevirtual 204, 3) := by decide +kernel
theorem dX8_adFor_138 : decode cX8_adFor 138 = .ok (.aload_n 0, 1) := by decide +kernel
theorem dX8_adFor_139 : decode cX8_adFor 139 = .ok (.getfield 86, 3) := by decide +kernel
theorem dX8_adFor_142 : decode cX8_adFor 142 = .ok (.iload 5, 2) := by decide +kernel
theorem dX8_adFor_144 : decode cX8_adFor 144 = .ok (.iaload, 1) := by decide +kernel
theorem dX8_adFor_145 : decode cX8_adFor 145 = .ok (.isub, 1) := by decide +kernel
theorem dX8_adFor_146 : decode cX8_adFor 146 = .ok (.istore 4, 2) := by decide +kernel
theorem dX8_adFor_148 : decode cX8_adFor 148 = .ok (.iinc 5 1, 3) := by decide +kernel
theorem dX8_adFor_151 : decode cX8_adFor 151 = .ok (.goto (-136), 3) := by decide +kernel
theorem dX8_adFor_154 : decode cX8_adFor 154 = .ok (.iload_n 3, 1) := by decide +kernel
theorem dX8_adFor_155 : decode cX8_adFor 155 = .ok (.ireturn, 1) := by decide +kernel
theorem dX8_ask_0 : decode cX8_ask 0 = .ok (.iload_n 1, 1) := by decide +kernel
theorem dX8_ask_1 : decode cX8_ask 1 = .ok (.iconst 0, 1) := by decide +kernel
theorem dX8_ask_2 : decode cX8_ask 2 = .ok (.bipush 9, 2) := by decide +kernel
theorem dX8_ask_4 : decode cX8_ask 4 = .ok (.invokestatic 142, 3) := by decide +kernel
theorem dX8_ask_7 : decode cX8_ask 7 = .ok (.ifCond .eq 15, 3) := by decide +kernel
theorem dX8_ask_10 : decode cX8_ask 10 = .ok (.aload_n 0, 1) := by decide +kernel
theorem dX8_ask_11 : decode cX8_ask 11 = .ok (.iload_n 2, 1) := by decide +kernel
theorem dX8_ask_12 : decode cX8_ask 12 = .ok (.invokevirtual 180, 3) := by decide +kernel
theorem dX8_ask_15 : decode cX8_ask 15 = .ok (.ifCond .eq 7, 3) := by decide +kernel
theorem dX8_ask_18 : decode cX8_ask 18 = .ok (.iconst 1, 1) := by decide +kernel
theorem dX8_ask_19 : decode cX8_ask 19 = .ok (.goto 4, 3) := by decide +kernel
theorem dX8_ask_22 : decode cX8_ask 22 = .ok (.iconst 0, 1) := by decide +kernel
theorem dX8_ask_23 : decode cX8_ask 23 = .ok (.istore_n 3, 1) := by decide +kernel
theorem dX8_ask_24 : decode cX8_ask 24 = .ok (.iload_n 3, 1) := by decide +kernel
theorem dX8_ask_25 : decode cX8_ask 25 = .ok (.ifCond .eq 34, 3) := by decide +kernel
theorem dX8_ask_28 : decode cX8_ask 28 = .ok (.aload_n 0, 1) := by decide +kernel
theorem dX8_ask_29 : decode cX8_ask 29 = .ok (.getfield 29, 3) := by decide +kernel
theorem dX8_ask_32 : decode cX8_ask 32 = .ok (.iload_n 2, 1) := by decide +kernel
theorem dX8_ask_33 : decode cX8_ask 33 = .ok (.baload, 1) := by decide +kernel
theorem dX8_ask_34 : decode cX8_ask 34 = .ok (.ifCond .eq 25, 3) := by decide +kernel
theorem dX8_ask_37 : decode cX8_ask 37 = .ok (.aload_n 0, 1) := by decide +kernel
theorem dX8_ask_38 : decode cX8_ask 38 = .ok (.getfield 32, 3) := by decide +kernel
theorem dX8_ask_41 : decode cX8_ask 41 = .ok (.iload_n 2, 1) := by decide +kernel
theorem dX8_ask_42 : decode cX8_ask 42 = .ok (.baload, 1) := by decide +kernel
theorem dX8_ask_43 : decode cX8_ask 43 = .ok (.ifCond .ne 16, 3) := by decide +kernel
theorem dX8_ask_46 : decode cX8_ask 46 = .ok (.aload_n 0, 1) := by decide +kernel
theorem dX8_ask_47 : decode cX8_ask 47 = .ok (.getfield 146, 3) := by decide +kernel
theorem dX8_ask_50 : decode cX8_ask 50 = .ok (.bipush 60, 2) := by decide +kernel
theorem dX8_ask_52 : decode cX8_ask 52 = .ok (.if_icmp .ge 7, 3) := by decide +kernel
theorem dX8_ask_55 : decode cX8_ask 55 = .ok (.iconst 1, 1) := by decide +kernel
theorem dX8_ask_56 : decode cX8_ask 56 = .ok (.goto 4, 3) := by decide +kernel
theorem dX8_ask_59 : decode cX8_ask 59 = .ok (.iconst 0, 1) := by decide +kernel
theorem dX8_ask_60 : decode cX8_ask 60 = .ok (.istore 4, 2) := by decide +kernel
theorem dX8_ask_62 : decode cX8_ask 62 = .ok (.aload_n 0, 1) := by decide +kernel
theorem dX8_ask_63 : decode cX8_ask 63 = .ok (.iload_n 3, 1) := by decide +kernel
theorem dX8_ask_64 : decode cX8_ask 64 = .ok (.ifCond .ne 7, 3) := by decide +kernel
theorem dX8_ask_67 : decode cX8_ask 67 = .ok (.iconst 1, 1) := by decide +kernel
theorem dX8_ask_68 : decode cX8_ask 68 = .ok (.goto 13, 3) := by decide +kernel
theorem dX8_ask_71 : decode cX8_ask 71 = .ok (.iload 4, 2) := by decide +kernel
theorem dX8_ask_73 : decode cX8_ask 73 = .ok (.ifCond .eq 7, 3) := by decide +kernel
theorem dX8_ask_76 : decode cX8_ask 76 = .ok (.iconst 0, 1) := by decide +kernel
theorem dX8_ask_77 : decode cX8_ask 77 = .ok (.goto 4, 3) := by decide +kernel
theorem dX8_ask_80 : decode cX8_ask 80 = .ok (.iconst 2, 1) := by decide +kernel
theorem dX8_ask_81 : decode cX8_ask 81 = .ok (.invokevirtual 152, 3) := by decide +kernel
theorem dX8_ask_84 : decode cX8_ask 84 = .ok (.ifCond .ne 5, 3) := by decide +kernel
theorem dX8_ask_87 : decode cX8_ask 87 = .ok (.iconst 0, 1) := by decide +kernel
theorem dX8_ask_88 : decode cX8_ask 88 = .ok (.ireturn, 1) := by decide +kernel
theorem dX8_ask_89 : decode cX8_ask 89 = .ok (.aload_n 0, 1) := by decide +kernel
theorem dX8_ask_90 : decode cX8_ask 90 = .ok (.getfield 146, 3) := by decide +kernel
theorem dX8_ask_93 : decode cX8_ask 93 = .ok (.istore 5, 2) := by decide +kernel
theorem dX8_ask_95 : decode cX8_ask 95 = .ok (.aload_n 0, 1) := by decide +kernel
theorem dX8_ask_96 : decode cX8_ask 96 = .ok (.getfield 95, 3) := by decide +kernel
theorem dX8_ask_99 : decode cX8_ask 99 = .ok (.iload 5, 2) := by decide +kernel
theorem dX8_ask_101 : decode cX8_ask 101 = .ok (.iload_n 1, 1) := by decide +kernel
theorem dX8_ask_102 : decode cX8_ask 102 = .ok (.iastore, 1) := by decide +kernel
theorem dX8_ask_103 : decode cX8_ask 103 = .ok (.aload_n 0, 1) := by decide +kernel
theorem dX8_ask_104 : decode cX8_ask 104 = .ok (.getfield 98, 3) := by decide +kernel
theorem dX8_ask_107 : decode cX8_ask 107 = .ok (.iload 5, 2) := by decide +kernel
theorem dX8_ask_109 : decode cX8_ask 109 = .ok (.iload_n 2, 1) := by decide +kernel
theorem dX8_ask_110 : decode cX8_ask 110 = .ok (.iastore, 1) := by decide +kernel
theorem dX8_ask_111 : decode cX8_ask 111 = .ok (.aload_n 0, 1) := by decide +kernel
theorem dX8_ask_112 : decode cX8_ask 112 = .ok (.getfield 101, 3) := by decide +kernel
theorem dX8_ask_115 : decode cX8_ask 115 = .ok (.iload 5, 2) := by decide +kernel
theorem dX8_ask_117 : decode cX8_ask 117 = .ok (.aload_n 0, 1) := by decide +kernel
theorem dX8_ask_118 : decode cX8_ask 118 = .ok (.getfield 170, 3) := by decide +kernel
theorem dX8_ask_121 : decode cX8_ask 121 = .ok (.iastore, 1) := by decide +kernel
theorem dX8_ask_122 : decode cX8_ask 122 = .ok (.aload_n 0, 1) := by decide +kernel
theorem dX8_ask_123 : decode cX8_ask 123 = .ok (.dup, 1) := by decide +kernel
theorem dX8_ask_124 : decode cX8_ask 124 = .ok (.getfield 146, 3) := by decide +kernel
theorem dX8_ask_127 : decode cX8_ask 127 = .ok (.iconst 1, 1) := by decide +kernel
theorem dX8_ask_128 : decode cX8_ask 128 = .ok (.iadd, 1) := by decide +kernel
theorem dX8_ask_129 : decode cX8_ask 129 = .ok (.putfield 146, 3) := by decide +kernel
theorem dX8_ask_132 : decode cX8_ask 132 = .ok (.iconst 0, 1) := by decide +kernel
theorem dX8_ask_133 : decode cX8_ask 133 = .ok (.istore 6, 2) := by decide +kernel
theorem dX8_ask_135 : decode cX8_ask 135 = .ok (.iload 6, 2) := by decide +kernel
theorem dX8_ask_137 : decode cX8_ask 137 = .ok (.aload_n 0, 1) := by decide +kernel
theorem dX8_ask_138 : decode cX8_ask 138 = .ok (.getfield 35, 3) := by decide +kernel
theorem dX8_ask_141 : decode cX8_ask 141 = .ok (.iload_n 2, 1) := by decide +kernel
theorem dX8_ask_142 : decode cX8_ask 142 = .ok (.iaload, 1) := by decide +kernel
theorem dX8_ask_143 : decode cX8_ask 143 = .ok (.if_icmp .ge 168, 3) := by decide +kernel
theorem dX8_ask_146 : decode cX8_ask 146 = .ok (.aload_n 0, 1) := by decide +kernel
theorem dX8_ask_147 : decode cX8_ask 147 = .ok (.getfield 47, 3) := by decide +kernel
theorem dX8_ask_150 : decode cX8_ask 150 = .ok (.bipush 10, 2) := by decide +kernel
theorem dX8_ask_152 : decode cX8_ask 152 = .ok (.iload_n 2, 1) := by decide +kernel
theorem dX8_ask_153 : decode cX8_ask 153 = .ok (.imul, 1) := by decide +kernel
theorem dX8_ask_154 : decode cX8_ask 154 = .ok (.iload 6, 2) := by decide +kernel
theorem dX8_ask_156 : decode cX8_ask 156 = .ok (.iadd, 1) := by decide +kernel
theorem dX8_ask_157 : decode cX8_ask 157 = .ok (.baload, 1) := by decide +kernel
theorem dX8_ask_158 : decode cX8_ask 158 = .ok (.ifCond .ne 147, 3) := by decide +kernel
theorem dX8_ask_161 : decode cX8_ask 161 = .ok (.aload_n 0, 1) := by decide +kernel
theorem dX8_ask_162 : decode cX8_ask 162 = .ok (.getfield 38, 3) := by decide +kernel
theorem dX8_ask_165 : decode cX8_ask 165 = .ok (.bipush 10, 2) := by decide +kernel
theorem dX8_ask_167 : decode cX8_ask 167 = .ok (.iload_n 2, 1) := by decide +kernel
theorem dX8_ask_168 : decode cX8_ask 168 = .ok (.imul, 1) := by decide +kernel
theorem dX8_ask_169 : decode cX8_ask 169 = .ok (.iload 6, 2) := by decide +kernel
theorem dX8_ask_171 : decode cX8_ask 171 = .ok (.iadd, 1) := by decide +kernel
theorem dX8_ask_172 : decode cX8_ask 172 = .ok (.iaload, 1) := by decide +kernel
theorem dX8_ask_173 : decode cX8_ask 173 = .ok (.iconst 2, 1) := by decide +kernel
theorem dX8_ask_174 : decode cX8_ask 174 = .ok (.if_icmp .ne 22, 3) := by decide +kernel
theorem dX8_ask_177 : decode cX8_ask 177 = .ok (.aload_n 0, 1) := by decide +kernel
theorem dX8_ask_178 : decode cX8_ask 178 = .ok (.aload_n 0, 1) := by decide +kernel
theorem dX8_ask_179 : decode cX8_ask 179 = .ok (.getfield 44, 3) := by decide +kernel
theorem dX8_ask_182 : decode cX8_ask 182 = .ok (.bipush 10, 2) := by decide +kernel
theorem dX8_ask_184 : decode cX8_ask 184 = .ok (.iload_n 2, 1) := by decide +kernel
theorem dX8_ask_185 : decode cX8_ask 185 = .ok (.imul, 1) := by decide +kernel
theorem dX8_ask_186 : decode cX8_ask 186 = .ok (.iload 6, 2) := by decide +kernel
theorem dX8_ask_188 : decode cX8_ask 188 = .ok (.iadd, 1) := by decide +kernel
theorem dX8_ask_189 : decode cX8_ask 189 = .ok (.iaload, 1) := by decide +kernel
theorem dX8_ask_190 : decode cX8_ask 190 = .ok (.invokevirtual 211, 3) := by decide +kernel
theorem dX8_ask_193 : decode cX8_ask 193 = .ok (.goto 4, 3) := by decide +kernel
theorem dX8_ask_196 : decode cX8_ask 196 = .ok (.iconst (-1), 1) := by decide +kernel
theorem dX8_ask_197 : decode cX8_ask 197 = .ok (.istore 7, 2) := by decide +kernel
theorem dX8_ask_199 : decode cX8_ask 199 = .ok (.aload_n 0, 1) := by decide +kernel
theorem dX8_ask_200 : decode cX8_ask 200 = .ok (.getfield 110, 3) := by decide +kernel
theorem dX8_ask_203 : decode cX8_ask 203 = .ok (.bipush 10, 2) := by decide +kernel
theorem dX8_ask_205 : decode cX8_ask 205 = .ok (.iload 5, 2) := by decide +kernel
theorem dX8_ask_207 : decode cX8_ask 207 = .ok (.imul, 1) := by decide +kernel
theorem dX8_ask_208 : decode cX8_ask 208 = .ok (.aload_n 0, 1) := by decide +kernel
theorem dX8_ask_209 : decode cX8_ask 209 = .ok (.getfield 104, 3) := by decide +kernel
theorem dX8_ask_212 : decode cX8_ask 212 = .ok (.iload 5, 2) := by decide +kernel
theorem dX8_ask_214 : decode cX8_ask 214 = .ok (.iaload, 1) := by decide +kernel
theorem dX8_ask_215 : decode cX8_ask 215 = .ok (.iadd, 1) := by decide +kernel
theorem dX8_ask_216 : decode cX8_ask 216 = .ok (.iload 6, 2) := by decide +kernel
theorem dX8_ask_218 : decode cX8_ask 218 = .ok (.iastore, 1) := by decide +kernel
theorem dX8_ask_219 : decode cX8_ask 219 = .ok (.aload_n 0, 1) := by decide +kernel
theorem dX8_ask_220 : decode cX8_ask 220 = .ok (.getfield 113, 3) := by decide +kernel
theorem dX8_ask_223 : decode cX8_ask 223 = .ok (.bipush 10, 2) := by decide +kernel
theorem dX8_ask_225 : decode cX8_ask 225 = .ok (.iload 5, 2) := by decide +kernel
theorem dX8_ask_227 : decode cX8_ask 227 = .ok (.imul, 1) := by decide +kernel
theorem dX8_ask_228 : decode cX8_ask 228 = .ok (.aload_n 0, 1) := by decide +kernel
theorem dX8_ask_229 : decode cX8_ask 229 = .ok (.getfield 104, 3) := by decide +kernel
theorem dX8_ask_232 : decode cX8_ask 232 = .ok (.iload 5, 2) := by decide +kernel
theorem dX8_ask_234 : decode cX8_ask 234 = .ok (.iaload, 1) := by decide +kernel
theorem dX8_ask_235 : decode cX8_ask 235 = .ok (.iadd, 1) := by decide +kernel
theorem dX8_ask_236 : decode cX8_ask 236 = .ok (.iload 7, 2) := by decide +kernel
theorem dX8_ask_238 : decode cX8_ask 238 = .ok (.iastore, 1) := by decide +kernel
theorem dX8_ask_239 : decode cX8_ask 239 = .ok (.aload_n 0, 1) := by decide +kernel
theorem dX8_ask_240 : decode cX8_ask 240 = .ok (.getfield 107, 3) := by decide +kernel
theorem dX8_ask_243 : decode cX8_ask 243 = .ok (.iload 5, 2) := by decide +kernel
theorem dX8_ask_245 : decode cX8_ask 245 = .ok (.dup2, 1) := by decide +kernel
theorem dX8_ask_246 : decode cX8_ask 246 = .ok (.iaload, 1) := by decide +kernel
theorem dX8_ask_247 : decode cX8_ask 247 = .ok (.iload 7, 2) := by decide +kernel
theorem dX8_ask_249 : decode cX8_ask 249 = .ok (.iconst (-1), 1) := by decide +kernel
theorem dX8_ask_250 : decode cX8_ask 250 = .ok (.if_icmp .ne 18, 3) := by decide +kernel
theorem dX8_ask_253 : decode cX8_ask 253 = .ok (.aload_n 0, 1) := by decide +kernel
theorem dX8_ask_254 : decode cX8_ask 254 = .ok (.getfield 41, 3) := by decide +kernel
theorem dX8_ask_257 : decode cX8_ask 257 = .ok (.bipush 10, 2) := by decide +kernel
theorem dX8_ask_259 : decode cX8_ask 259 = .ok (.iload_n 2, 1) := by decide +kernel
theorem dX8_ask_260 : decode cX8_ask 260 = .ok (.imul, 1) := by decide +kernel
theorem dX8_ask_261 : decode cX8_ask 261 = .ok (.iload 6, 2) := by decide +kernel
theorem dX8_ask_263 : decode cX8_ask 263 = .ok (.iadd, 1) := by decide +kernel
theorem dX8_ask_264 : decode cX8_ask 264 = .ok (.iaload, 1) := by decide +kernel
theorem dX8_ask_265 : decode cX8_ask 265 = .ok (.goto 10, 3) := by decide +kernel
theorem dX8_ask_268 : decode cX8_ask 268 = .ok (.aload_n 0, 1) := by decide +kernel
theorem dX8_ask_269 : decode cX8_ask 269 = .ok (.getfield 71, 3) := by decide +kernel
theorem dX8_ask_272 : decode cX8_ask 272 = .ok (.iload 7, 2) := by decide +kernel
theorem dX8_ask_274 : decode cX8_ask 274 = .ok (.iaload, 1) := by decide +kernel
theorem dX8_ask_275 : decode cX8_ask 275 = .ok (.iadd, 1) := by decide +kernel
theorem dX8_ask_276 : decode cX8_ask 276 = .ok (.iastore, 1) := by decide +kernel
theorem dX8_ask_277 : decode cX8_ask 277 = .ok (.iload 7, 2) := by decide +kernel
theorem dX8_ask_279 : decode cX8_ask 279 = .ok (.iconst (-1), 1) := by decide +kernel
theorem dX8_ask_280 : decode cX8_ask 280 = .ok (.if_icmp .eq 14, 3) := by decide +kernel
theorem dX8_ask_283 : decode cX8_ask 283 = .ok (.aload_n 0, 1) := by decide +kernel
theorem dX8_ask_284 : decode cX8_ask 284 = .ok (.getfield 86, 3) := by decide +kernel
theorem dX8_ask_287 : decode cX8_ask 287 = .ok (.iload 7, 2) := by decide +kernel
theorem dX8_ask_289 : decode cX8_ask 289 = .ok (.dup2, 1) := by decide +kernel
theorem dX8_ask_290 : decode cX8_ask 290 = .ok (.iaload, 1) := by decide +kernel
theorem dX8_ask_291 : decode cX8_ask 291 = .ok (.iconst 1, 1) := by decide +kernel
theorem dX8_ask_292 : decode cX8_ask 292 = .ok (.iadd, 1) := by decide +kernel
theorem dX8_ask_293 : decode cX8_ask 293 = .ok (.iastore, 1) := by decide +kernel
theorem dX8_ask_294 : decode cX8_ask 294 = .ok (.aload_n 0, 1) := by decide +kernel
theorem dX8_ask_295 : decode cX8_ask 295 = .ok (.getfield 104, 3) := by decide +kernel
theorem dX8_ask_298 : decode cX8_ask 298 = .ok (.iload 5, 2) := by decide +kernel
theorem dX8_ask_300 : decode cX8_ask 300 = .ok (.dup2, 1) := by decide +kernel
theorem dX8_ask_301 : decode cX8_ask 301 = .ok (.iaload, 1) := by decide +kernel
theorem dX8_ask_302 : decode cX8_ask 302 = .ok (.iconst 1, 1) := by decide +kernel
theorem dX8_ask_303 : decode cX8_ask 303 = .ok (.iadd, 1) := by decide +kernel
theorem dX8_ask_304 : decode cX8_ask 304 = .ok (.iastore, 1) := by decide +kernel
theorem dX8_ask_305 : decode cX8_ask 305 = .ok (.iinc 6 1, 3) := by decide +kernel
theorem dX8_ask_308 : decode cX8_ask 308 = .ok (.goto (-173), 3) := by decide +kernel
theorem dX8_ask_311 : decode cX8_ask 311 = .ok (.iload 5, 2) := by decide +kernel
theorem dX8_ask_313 : decode cX8_ask 313 = .ok (.ireturn, 1) := by decide +kernel
theorem dX8_load_0 : decode cX8_load 0 = .ok (.aload_n 0, 1) := by decide +kernel
theorem dX8_load_1 : decode cX8_load 1 = .ok (.iload_n 1, 1) := by decide +kernel
theorem dX8_load_2 : decode cX8_load 2 = .ok (.invokevirtual 214, 3) := by decide +kernel
theorem dX8_load_5 : decode cX8_load 5 = .ok (.ifCond .eq 26, 3) := by decide +kernel
theorem dX8_load_8 : decode cX8_load 8 = .ok (.iload_n 2, 1) := by decide +kernel
theorem dX8_load_9 : decode cX8_load 9 = .ok (.ifCond .lt 22, 3) := by decide +kernel
theorem dX8_load_12 : decode cX8_load 12 = .ok (.iload_n 2, 1) := by decide +kernel
theorem dX8_load_13 : decode cX8_load 13 = .ok (.iload_n 3, 1) := by decide +kernel
theorem dX8_load_14 : decode cX8_load 14 = .ok (.if_icmp .ge 17, 3) := by decide +kernel
theorem dX8_load_17 : decode cX8_load 17 = .ok (.iload_n 3, 1) := by decide +kernel
theorem dX8_load_18 : decode cX8_load 18 = .ok (.aload_n 0, 1) := by decide +kernel
theorem dX8_load_19 : decode cX8_load 19 = .ok (.getfield 107, 3) := by decide +kernel
theorem dX8_load_22 : decode cX8_load 22 = .ok (.iload_n 1, 1) := by decide +kernel
theorem dX8_load_23 : decode cX8_load 23 = .ok (.iaload, 1) := by decide +kernel
theorem dX8_load_24 : decode cX8_load 24 = .ok (.if_icmp .gt 7, 3) := by decide +kernel
theorem dX8_load_27 : decode cX8_load 27 = .ok (.iconst 1, 1) := by decide +kernel
theorem dX8_load_28 : decode cX8_load 28 = .ok (.goto 4, 3) := by decide +kernel
theorem dX8_load_31 : decode cX8_load 31 = .ok (.iconst 0, 1) := by decide +kernel
theorem dX8_load_32 : decode cX8_load 32 = .ok (.istore 4, 2) := by decide +kernel
theorem dX8_load_34 : decode cX8_load 34 = .ok (.aload_n 0, 1) := by decide +kernel
theorem dX8_load_35 : decode cX8_load 35 = .ok (.aload_n 0, 1) := by decide +kernel
theorem dX8_load_36 : decode cX8_load 36 = .ok (.iload_n 1, 1) := by decide +kernel
theorem dX8_load_37 : decode cX8_load 37 = .ok (.invokevirtual 214, 3) := by decide +kernel
theorem dX8_load_40 : decode cX8_load 40 = .ok (.ifCond .ne 7, 3) := by decide +kernel
theorem dX8_load_43 : decode cX8_load 43 = .ok (.iconst 1, 1) := by decide +kernel
theorem dX8_load_44 : decode cX8_load 44 = .ok (.goto 27, 3) := by decide +kernel
theorem dX8_load_47 : decode cX8_load 47 = .ok (.iload 4, 2) := by decide +kernel
theorem dX8_load_49 : decode cX8_load 49 = .ok (.ifCond .ne 7, 3) := by decide +kernel
theorem dX8_load_52 : decode cX8_load 52 = .ok (.iconst 2, 1) := by decide +kernel
theorem dX8_load_53 : decode cX8_load 53 = .ok (.goto 18, 3) := by decide +kernel
theorem dX8_load_56 : decode cX8_load 56 = .ok (.aload_n 0, 1) := by decide +kernel
theorem dX8_load_57 : decode cX8_load 57 = .ok (.getfield 217, 3) := by decide +kernel
theorem dX8_load_60 : decode cX8_load 60 = .ok (.sipush 200, 3) := by decide +kernel
theorem dX8_load_63 : decode cX8_load 63 = .ok (.if_icmp .ne 7, 3) := by decide +kernel
theorem dX8_load_66 : decode cX8_load 66 = .ok (.iconst 3, 1) := by decide +kernel
theorem dX8_load_67 : decode cX8_load 67 = .ok (.goto 4, 3) := by decide +kernel
theorem dX8_load_70 : decode cX8_load 70 = .ok (.iconst 0, 1) := by decide +kernel
theorem dX8_load_71 : decode cX8_load 71 = .ok (.invokevirtual 152, 3) := by decide +kernel
theorem dX8_load_74 : decode cX8_load 74 = .ok (.ifCond .ne 5, 3) := by decide +kernel
theorem dX8_load_77 : decode cX8_load 77 = .ok (.iconst 0, 1) := by decide +kernel
theorem dX8_load_78 : decode cX8_load 78 = .ok (.ireturn, 1) := by decide +kernel
theorem dX8_load_79 : decode cX8_load 79 = .ok (.aload_n 0, 1) := by decide +kernel
theorem dX8_load_80 : decode cX8_load 80 = .ok (.getfield 126, 3) := by decide +kernel
theorem dX8_load_83 : decode cX8_load 83 = .ok (.aload_n 0, 1) := by decide +kernel
theorem dX8_load_84 : decode cX8_load 84 = .ok (.getfield 217, 3) := by decide +kernel
theorem dX8_load_87 : decode cX8_load 87 = .ok (.iload_n 1, 1) := by decide +kernel
theorem dX8_load_88 : decode cX8_load 88 = .ok (.iastore, 1) := by decide +kernel
theorem dX8_load_89 : decode cX8_load 89 = .ok (.aload_n 0, 1) := by decide +kernel
theorem dX8_load_90 : decode cX8_load 90 = .ok (.getfield 129, 3) := by decide +kernel
theorem dX8_load_93 : decode cX8_load 93 = .ok (.aload_n 0, 1) := by decide +kernel
theorem dX8_load_94 : decode cX8_load 94 = .ok (.getfield 217, 3) := by decide +kernel
theorem dX8_load_97 : decode cX8_load 97 = .ok (.iload_n 2, 1) := by decide +kernel
theorem dX8_load_98 : decode cX8_load 98 = .ok (.iastore, 1) := by decide +kernel
theorem dX8_load_99 : decode cX8_load 99 = .ok (.aload_n 0, 1) := by decide +kernel
theorem dX8_load_100 : decode cX8_load 100 = .ok (.getfield 132, 3) := by decide +kernel
theorem dX8_load_103 : decode cX8_load 103 = .ok (.aload_n 0, 1) := by decide +kernel
theorem dX8_load_104 : decode cX8_load 104 = .ok (.getfield 217, 3) := by decide +kernel
theorem dX8_load_107 : decode cX8_load 107 = .ok (.iload_n 3, 1) := by decide +kernel
theorem dX8_load_108 : decode cX8_load 108 = .ok (.iastore, 1) := by decide +kernel
theorem dX8_load_109 : decode cX8_load 109 = .ok (.aload_n 0, 1) := by decide +kernel
theorem dX8_load_110 : decode cX8_load 110 = .ok (.dup, 1) := by decide +kernel
theorem dX8_load_111 : decode cX8_load 111 = .ok (.getfield 217, 3) := by decide +kernel
theorem dX8_load_114 : decode cX8_load 114 = .ok (.iconst 1, 1) := by decide +kernel
theorem dX8_load_115 : decode cX8_load 115 = .ok (.iadd, 1) := by decide +kernel
theorem dX8_load_116 : decode cX8_load 116 = .ok (.putfield 217, 3) := by decide +kernel
theorem dX8_load_119 : decode cX8_load 119 = .ok (.iload_n 2, 1) := by decide +kernel
theorem dX8_load_120 : decode cX8_load 120 = .ok (.istore 5, 2) := by decide +kernel
theorem dX8_load_122 : decode cX8_load 122 = .ok (.iload 5, 2) := by decide +kernel
theorem dX8_load_124 : decode cX8_load 124 = .ok (.iload_n 3, 1) := by decide +kernel
theorem dX8_load_125 : decode cX8_load 125 = .ok (.if_icmp .ge 53, 3) := by decide +kernel
theorem dX8_load_128 : decode cX8_load 128 = .ok (.aload_n 0, 1) := by decide +kernel
theorem dX8_load_129 : decode cX8_load 129 = .ok (.getfield 116, 3) := by decide +kernel
theorem dX8_load_132 : decode cX8_load 132 = .ok (.iload_n 1, 1) := by decide +kernel
theorem dX8_load_133 : decode cX8_load 133 = .ok (.dup2, 1) := by decide +kernel
theorem dX8_load_134 : decode cX8_load 134 = .ok (.iaload, 1) := by decide +kernel
theorem dX8_load_135 : decode cX8_load 135 = .ok (.aload_n 0, 1) := by decide +kernel
theorem dX8_load_136 : decode cX8_load 136 = .ok (.getfield 120, 3) := by decide +kernel
theorem dX8_load_139 : decode cX8_load 139 = .ok (.sipush 10000, 3) := by decide +kernel
theorem dX8_load_142 : decode cX8_load 142 = .ok (.iload_n 1, 1) := by decide +kernel
theorem dX8_load_143 : decode cX8_load 143 = .ok (.imul, 1) := by decide +kernel
theorem dX8_load_144 : decode cX8_load 144 = .ok (.iload 5, 2) := by decide +kernel
theorem dX8_load_146 : decode cX8_load 146 = .ok (.iadd, 1) := by decide +kernel
theorem dX8_load_147 : decode cX8_load 147 = .ok (.baload, 1) := by decide +kernel
theorem dX8_load_148 : decode cX8_load 148 = .ok (.ifCond .eq 7, 3) := by decide +kernel
theorem dX8_load_151 : decode cX8_load 151 = .ok (.iconst 0, 1) := by decide +kernel
theorem dX8_load_152 : decode cX8_load 152 = .ok (.goto 4, 3) := by decide +kernel
theorem dX8_load_155 : decode cX8_load 155 = .ok (.iconst 1, 1) := by decide +kernel
theorem dX8_load_156 : decode cX8_load 156 = .ok (.iadd, 1) := by decide +kernel
theorem dX8_load_157 : decode cX8_load 157 = .ok (.iastore, 1) := by decide +kernel
theorem dX8_load_158 : decode cX8_load 158 = .ok (.aload_n 0, 1) := by decide +kernel
theorem dX8_load_159 : decode cX8_load 159 = .ok (.getfield 120, 3) := by decide +kernel
theorem dX8_load_162 : decode cX8_load 162 = .ok (.sipush 10000, 3) := by decide +kernel
theorem dX8_load_165 : decode cX8_load 165 = .ok (.iload_n 1, 1) := by decide +kernel
theorem dX8_load_166 : decode cX8_load 166 = .ok (.imul, 1) := by decide +kernel
theorem dX8_load_167 : decode cX8_load 167 = .ok (.iload 5, 2) := by decide +kernel
theorem dX8_load_169 : decode cX8_load 169 = .ok (.iadd, 1) := by decide +kernel
theorem dX8_load_170 : decode cX8_load 170 = .ok (.iconst 1, 1) := by decide +kernel
theorem dX8_load_171 : decode cX8_load 171 = .ok (.bastore, 1) := by decide +kernel
theorem dX8_load_172 : decode cX8_load 172 = .ok (.iinc 5 1, 3) := by decide +kernel
theorem dX8_load_175 : decode cX8_load 175 = .ok (.goto (-53), 3) := by decide +kernel
theorem dX8_load_178 : decode cX8_load 178 = .ok (.aload_n 0, 1) := by decide +kernel
theorem dX8_load_179 : decode cX8_load 179 = .ok (.getfield 116, 3) := by decide +kernel
theorem dX8_load_182 : decode cX8_load 182 = .ok (.iload_n 1, 1) := by decide +kernel
theorem dX8_load_183 : decode cX8_load 183 = .ok (.iaload, 1) := by decide +kernel
theorem dX8_load_184 : decode cX8_load 184 = .ok (.ireturn, 1) := by decide +kernel
theorem dX8_bot_0 : decode cX8_bot 0 = .ok (.aload_n 0, 1) := by decide +kernel
theorem dX8_bot_1 : decode cX8_bot 1 = .ok (.iload_n 1, 1) := by decide +kernel
theorem dX8_bot_2 : decode cX8_bot 2 = .ok (.iconst 0, 1) := by decide +kernel
theorem dX8_bot_3 : decode cX8_bot 3 = .ok (.bipush 9, 2) := by decide +kernel
theorem dX8_bot_5 : decode cX8_bot 5 = .ok (.invokestatic 142, 3) := by decide +kernel
theorem dX8_bot_8 : decode cX8_bot 8 = .ok (.ifCond .eq 7, 3) := by decide +kernel
theorem dX8_bot_11 : decode cX8_bot 11 = .ok (.iconst 0, 1) := by decide +kernel
theorem dX8_bot_12 : decode cX8_bot 12 = .ok (.goto 4, 3) := by decide +kernel
theorem dX8_bot_15 : decode cX8_bot 15 = .ok (.iconst 1, 1) := by decide +kernel
theorem dX8_bot_16 : decode cX8_bot 16 = .ok (.invokevirtual 152, 3) := by decide +kernel
theorem dX8_bot_19 : decode cX8_bot 19 = .ok (.ifCond .ne 5, 3) := by decide +kernel
theorem dX8_bot_22 : decode cX8_bot 22 = .ok (.iconst 0, 1) := by decide +kernel
theorem dX8_bot_23 : decode cX8_bot 23 = .ok (.ireturn, 1) := by decide +kernel
theorem dX8_bot_24 : decode cX8_bot 24 = .ok (.aload_n 0, 1) := by decide +kernel
theorem dX8_bot_25 : decode cX8_bot 25 = .ok (.getfield 89, 3) := by decide +kernel
theorem dX8_bot_28 : decode cX8_bot 28 = .ok (.iload_n 1, 1) := by decide +kernel
theorem dX8_bot_29 : decode cX8_bot 29 = .ok (.baload, 1) := by decide +kernel
theorem dX8_bot_30 : decode cX8_bot 30 = .ok (.istore_n 3, 1) := by decide +kernel
theorem dX8_bot_31 : decode cX8_bot 31 = .ok (.aload_n 0, 1) := by decide +kernel
theorem dX8_bot_32 : decode cX8_bot 32 = .ok (.getfield 89, 3) := by decide +kernel
theorem dX8_bot_35 : decode cX8_bot 35 = .ok (.iload_n 1, 1) := by decide +kernel
theorem dX8_bot_36 : decode cX8_bot 36 = .ok (.iload_n 2, 1) := by decide +kernel
theorem dX8_bot_37 : decode cX8_bot 37 = .ok (.bastore, 1) := by decide +kernel
theorem dX8_bot_38 : decode cX8_bot 38 = .ok (.iload_n 3, 1) := by decide +kernel
theorem dX8_bot_39 : decode cX8_bot 39 = .ok (.ireturn, 1) := by decide +kernel
theorem dX8_pieceSeconds_0 : decode cX8_pieceSeconds 0 = .ok (.aload_n 0, 1) := by decide +kernel
theorem dX8_pieceSeconds_1 : decode cX8_pieceSeconds 1 = .ok (.getfield 113, 3) := by decide +kernel
theorem dX8_pieceSeconds_4 : decode cX8_pieceSeconds 4 = .ok (.bipush 10, 2) := by decide +kernel
theorem dX8_pieceSeconds_6 : decode cX8_pieceSeconds 6 = .ok (.iload_n 1, 1) := by decide +kernel
theorem dX8_pieceSeconds_7 : decode cX8_pieceSeconds 7 = .ok (.imul, 1) := by decide +kernel
theorem dX8_pieceSeconds_8 : decode cX8_pieceSeconds 8 = .ok (.iload_n 2, 1) := by decide +kernel
theorem dX8_pieceSeconds_9 : decode cX8_pieceSeconds 9 = .ok (.iadd, 1) := by decide +kernel
theorem dX8_pieceSeconds_10 : decode cX8_pieceSeconds 10 = .ok (.iaload, 1) := by decide +kernel
theorem dX8_pieceSeconds_11 : decode cX8_pieceSeconds 11 = .ok (.istore_n 3, 1) := by decide +kernel
theorem dX8_pieceSeconds_12 : decode cX8_pieceSeconds 12 = .ok (.iload_n 3, 1) := by decide +kernel
theorem dX8_pieceSeconds_13 : decode cX8_pieceSeconds 13 = .ok (.iconst (-1), 1) := by decide +kernel
theorem dX8_pieceSeconds_14 : decode cX8_pieceSeconds 14 = .ok (.if_icmp .ne 32, 3) := by decide +kernel
theorem dX8_pieceSeconds_17 : decode cX8_pieceSeconds 17 = .ok (.aload_n 0, 1) := by decide +kernel
theorem dX8_pieceSeconds_18 : decode cX8_pieceSeconds 18 = .ok (.getfield 41, 3) := by decide +kernel
theorem dX8_pieceSeconds_21 : decode cX8_pieceSeconds 21 = .ok (.bipush 10, 2) := by decide +kernel
theorem dX8_pieceSeconds_23 : decode cX8_pieceSeconds 23 = .ok (.aload_n 0, 1) := by decide +kernel
theorem dX8_pieceSeconds_24 : decode cX8_pieceSeconds 24 = .ok (.getfield 98, 3) := by decide +kernel
theorem dX8_pieceSeconds_27 : decode cX8_pieceSeconds 27 = .ok (.iload_n 1, 1) := by decide +kernel
theorem dX8_pieceSeconds_28 : decode cX8_pieceSeconds 28 = .ok (.iaload, 1) := by decide +kernel
theorem dX8_pieceSeconds_29 : decode cX8_pieceSeconds 29 = .ok (.imul, 1) := by decide +kernel
theorem dX8_pieceSeconds_30 : decode cX8_pieceSeconds 30 = .ok (.aload_n 0, 1) := by decide +kernel
theorem dX8_pieceSeconds_31 : decode cX8_pieceSeconds 31 = .ok (.getfield 110, 3) := by decide +kernel
theorem dX8_pieceSeconds_34 : decode cX8_pieceSeconds 34 = .ok (.bipush 10, 2) := by decide +kernel
theorem dX8_pieceSeconds_36 : decode cX8_pieceSeconds 36 = .ok (.iload_n 1, 1) := by decide +kernel
theorem dX8_pieceSeconds_37 : decode cX8_pieceSeconds 37 = .ok (.imul, 1) := by decide +kernel
theorem dX8_pieceSeconds_38 : decode cX8_pieceSeconds 38 = .ok (.iload_n 2, 1) := by decide +kernel
theorem dX8_pieceSeconds_39 : decode cX8_pieceSeconds 39 = .ok (.iadd, 1) := by decide +kernel
theorem dX8_pieceSeconds_40 : decode cX8_pieceSeconds 40 = .ok (.iaload, 1) := by decide +kernel
theorem dX8_pieceSeconds_41 : decode cX8_pieceSeconds 41 = .ok (.iadd, 1) := by decide +kernel
theorem dX8_pieceSeconds_42 : decode cX8_pieceSeconds 42 = .ok (.iaload, 1) := by decide +kernel
theorem dX8_pieceSeconds_43 : decode cX8_pieceSeconds 43 = .ok (.goto 9, 3) := by decide +kernel
theorem dX8_pieceSeconds_46 : decode cX8_pieceSeconds 46 = .ok (.aload_n 0, 1) := by decide +kernel
theorem dX8_pieceSeconds_47 : decode cX8_pieceSeconds 47 = .ok (.getfield 71, 3) := by decide +kernel
theorem dX8_pieceSeconds_50 : decode cX8_pieceSeconds 50 = .ok (.iload_n 3, 1) := by decide +kernel
theorem dX8_pieceSeconds_51 : decode cX8_pieceSeconds 51 = .ok (.iaload, 1) := by decide +kernel
theorem dX8_pieceSeconds_52 : decode cX8_pieceSeconds 52 = .ok (.ireturn, 1) := by decide +kernel
theorem dX8_startOf_0 : decode cX8_startOf 0 = .ok (.iconst 0, 1) := by decide +kernel
theorem dX8_startOf_1 : decode cX8_startOf 1 = .ok (.istore_n 3, 1) := by decide +kernel
theorem dX8_startOf_2 : decode cX8_startOf 2 = .ok (.iconst 0, 1) := by decide +kernel
theorem dX8_startOf_3 : decode cX8_startOf 3 = .ok (.istore 4, 2) := by decide +kernel
theorem dX8_startOf_5 : decode cX8_startOf 5 = .ok (.iload 4, 2) := by decide +kernel
theorem dX8_startOf_7 : decode cX8_startOf 7 = .ok (.iload_n 2, 1) := by decide +kernel
theorem dX8_startOf_8 : decode cX8_startOf 8 = .ok (.if_icmp .ge 19, 3) := by decide +kernel
theorem dX8_startOf_11 : decode cX8_startOf 11 = .ok (.iload_n 3, 1) := by decide +kernel
theorem dX8_startOf_12 : decode cX8_startOf 12 = .ok (.aload_n 0, 1) := by decide +kernel
theorem dX8_startOf_13 : decode cX8_startOf 13 = .ok (.iload_n 1, 1) := by decide +kernel
theorem dX8_startOf_14 : decode cX8_startOf 14 = .ok (.iload 4, 2) := by decide +kernel
theorem dX8_startOf_16 : decode cX8_startOf 16 = .ok (.invokevirtual 220, 3) := by decide +kernel
theorem dX8_startOf_19 : decode cX8_startOf 19 = .ok (.iadd, 1) := by decide +kernel
theorem dX8_startOf_20 : decode cX8_startOf 20 = .ok (.istore_n 3, 1) := by decide +kernel
theorem dX8_startOf_21 : decode cX8_startOf 21 = .ok (.iinc 4 1, 3) := by decide +kernel
theorem dX8_startOf_24 : decode cX8_startOf 24 = .ok (.goto (-19), 3) := by decide +kernel
theorem dX8_startOf_27 : decode cX8_startOf 27 = .ok (.iload_n 3, 1) := by decide +kernel
theorem dX8_startOf_28 : decode cX8_startOf 28 = .ok (.ireturn, 1) := by decide +kernel
theorem dX8_isSound_0 : decode cX8_isSound 0 = .ok (.aload_n 0, 1) := by decide +kernel
theorem dX8_isSound_1 : decode cX8_isSound 1 = .ok (.getfield 38, 3) := by decide +kernel
theorem dX8_isSound_4 : decode cX8_isSound 4 = .ok (.bipush 10, 2) := by decide +kernel
theorem dX8_isSound_6 : decode cX8_isSound 6 = .ok (.aload_n 0, 1) := by decide +kernel
theorem dX8_isSound_7 : decode cX8_isSound 7 = .ok (.getfield 98, 3) := by decide +kernel
theorem dX8_isSound_10 : decode cX8_isSound 10 = .ok (.iload_n 1, 1) := by decide +kernel
theorem dX8_isSound_11 : decode cX8_isSound 11 = .ok (.iaload, 1) := by decide +kernel
theorem dX8_isSound_12 : decode cX8_isSound 12 = .ok (.imul, 1) := by decide +kernel
theorem dX8_isSound_13 : decode cX8_isSound 13 = .ok (.aload_n 0, 1) := by decide +kernel
theorem dX8_isSound_14 : decode cX8_isSound 14 = .ok (.getfield 110, 3) := by decide +kernel
theorem dX8_isSound_17 : decode cX8_isSound 17 = .ok (.bipush 10, 2) := by decide +kernel
theorem dX8_isSound_19 : decode cX8_isSound 19 = .ok (.iload_n 1, 1) := by decide +kernel
theorem dX8_isSound_20 : decode cX8_isSound 20 = .ok (.imul, 1) := by decide +kernel
theorem dX8_isSound_21 : decode cX8_isSound 21 = .ok (.iload_n 2, 1) := by decide +kernel
theorem dX8_isSound_22 : decode cX8_isSound 22 = .ok (.iadd, 1) := by decide +kernel
theorem dX8_isSound_23 : decode cX8_isSound 23 = .ok (.iaload, 1) := by decide +kernel
theorem dX8_isSound_24 : decode cX8_isSound 24 = .ok (.iadd, 1) := by decide +kernel
theorem dX8_isSound_25 : decode cX8_isSound 25 = .ok (.iaload, 1) := by decide +kernel
theorem dX8_isSound_26 : decode cX8_isSound 26 = .ok (.iconst 2, 1) := by decide +kernel
theorem dX8_isSound_27 : decode cX8_isSound 27 = .ok (.if_icmp .eq 7, 3) := by decide +kernel
theorem dX8_isSound_30 : decode cX8_isSound 30 = .ok (.iconst 1, 1) := by decide +kernel
theorem dX8_isSound_31 : decode cX8_isSound 31 = .ok (.goto 4, 3) := by decide +kernel
theorem dX8_isSound_34 : decode cX8_isSound 34 = .ok (.iconst 0, 1) := by decide +kernel
theorem dX8_isSound_35 : decode cX8_isSound 35 = .ok (.ireturn, 1) := by decide +kernel
theorem dX8_lastLoaded_0 : decode cX8_lastLoaded 0 = .ok (.sipush 10000, 3) := by decide +kernel
theorem dX8_lastLoaded_3 : decode cX8_lastLoaded 3 = .ok (.iload_n 1, 1) := by decide +kernel
theorem dX8_lastLoaded_4 : decode cX8_lastLoaded 4 = .ok (.imul, 1) := by decide +kernel
theorem dX8_lastLoaded_5 : decode cX8_lastLoaded 5 = .ok (.aload_n 0, 1) := by decide +kernel
theorem dX8_lastLoaded_6 : decode cX8_lastLoaded 6 = .ok (.iload_n 1, 1) := by decide +kernel
theorem dX8_lastLoaded_7 : decode cX8_lastLoaded 7 = .ok (.iload_n 2, 1) := by decide +kernel
theorem dX8_lastLoaded_8 : decode cX8_lastLoaded 8 = .ok (.invokevirtual 223, 3) := by decide +kernel
theorem dX8_lastLoaded_11 : decode cX8_lastLoaded 11 = .ok (.iadd, 1) := by decide +kernel
theorem dX8_lastLoaded_12 : decode cX8_lastLoaded 12 = .ok (.istore_n 3, 1) := by decide +kernel
theorem dX8_lastLoaded_13 : decode cX8_lastLoaded 13 = .ok (.iconst (-1), 1) := by decide +kernel
theorem dX8_lastLoaded_14 : decode cX8_lastLoaded 14 = .ok (.istore 4, 2) := by decide +kernel
theorem dX8_lastLoaded_16 : decode cX8_lastLoaded 16 = .ok (.iconst 0, 1) := by decide +kernel
theorem dX8_lastLoaded_17 : decode cX8_lastLoaded 17 = .ok (.istore 5, 2) := by decide +kernel
theorem dX8_lastLoaded_19 : decode cX8_lastLoaded 19 = .ok (.iload 5, 2) := by decide +kernel
theorem dX8_lastLoaded_21 : decode cX8_lastLoaded 21 = .ok (.aload_n 0, 1) := by decide +kernel
theorem dX8_lastLoaded_22 : decode cX8_lastLoaded 22 = .ok (.iload_n 1, 1) := by decide +kernel
theorem dX8_lastLoaded_23 : decode cX8_lastLoaded 23 = .ok (.iload_n 2, 1) := by decide +kernel
theorem dX8_lastLoaded_24 : decode cX8_lastLoaded 24 = .ok (.invokevirtual 220, 3) := by decide +kernel
theorem dX8_lastLoaded_27 : decode cX8_lastLoaded 27 = .ok (.if_icmp .ge 30, 3) := by decide +kernel
theorem dX8_lastLoaded_30 : decode cX8_lastLoaded 30 = .ok (.aload_n 0, 1) := by decide +kernel
theorem dX8_lastLoaded_31 : decode cX8_lastLoaded 31 = .ok (.getfield 120, 3) := by decide +kernel
theorem dX8_lastLoaded_34 : decode cX8_lastLoaded 34 = .ok (.iload_n 3, 1) := by decide +kernel
theorem dX8_lastLoaded_35 : decode cX8_lastLoaded 35 = .ok (.iload 5, 2) := by decide +kernel
theorem dX8_lastLoaded_37 : decode cX8_lastLoaded 37 = .ok (.iadd, 1) := by decide +kernel
theorem dX8_lastLoaded_38 : decode cX8_lastLoaded 38 = .ok (.baload, 1) := by decide +kernel
theorem dX8_lastLoaded_39 : decode cX8_lastLoaded 39 = .ok (.ifCond .eq 8, 3) := by decide +kernel
theorem dX8_lastLoaded_42 : decode cX8_lastLoaded 42 = .ok (.iload 5, 2) := by decide +kernel
theorem dX8_lastLoaded_44 : decode cX8_lastLoaded 44 = .ok (.goto 5, 3) := by decide +kernel
theorem dX8_lastLoaded_47 : decode cX8_lastLoaded 47 = .ok (.iload 4, 2) := by decide +kernel
theorem dX8_lastLoaded_49 : decode cX8_lastLoaded 49 = .ok (.istore 4, 2) := by decide +kernel
theorem dX8_lastLoaded_51 : decode cX8_lastLoaded 51 = .ok (.iinc 5 1, 3) := by decide +kernel
theorem dX8_lastLoaded_54 : decode cX8_lastLoaded 54 = .ok (.goto (-35), 3) := by decide +kernel
theorem dX8_lastLoaded_57 : decode cX8_lastLoaded 57 = .ok (.iload 4, 2) := by decide +kernel
theorem dX8_lastLoaded_59 : decode cX8_lastLoaded 59 = .ok (.ireturn, 1) := by decide +kernel
theorem dX8_isHeard_0 : decode cX8_isHeard 0 = .ok (.sipush 10000, 3) := by decide +kernel
theorem dX8_isHeard_3 : decode cX8_isHeard 3 = .ok (.iload_n 1, 1) := by decide +kernel
theorem dX8_isHeard_4 : decode cX8_isHeard 4 = .ok (.imul, 1) := by decide +kernel
theorem dX8_isHeard_5 : decode cX8_isHeard 5 = .ok (.aload_n 0, 1) := by decide +kernel
theorem dX8_isHeard_6 : decode cX8_isHeard 6 = .ok (.iload_n 1, 1) := by decide +kernel
theorem dX8_isHeard_7 : decode cX8_isHeard 7 = .ok (.iload_n 2, 1) := by decide +kernel
theorem dX8_isHeard_8 : decode cX8_isHeard 8 = .ok (.invokevirtual 223, 3) := by decide +kernel
theorem dX8_isHeard_11 : decode cX8_isHeard 11 = .ok (.iadd, 1) := by decide +kernel
theorem dX8_isHeard_12 : decode cX8_isHeard 12 = .ok (.istore_n 3, 1) := by decide +kernel
theorem dX8_isHeard_13 : decode cX8_isHeard 13 = .ok (.aload_n 0, 1) := by decide +kernel
theorem dX8_isHeard_14 : decode cX8_isHeard 14 = .ok (.getfield 113, 3) := by decide +kernel
theorem dX8_isHeard_17 : decode cX8_isHeard 17 = .ok (.bipush 10, 2) := by decide +kernel
theorem dX8_isHeard_19 : decode cX8_isHeard 19 = .ok (.iload_n 1, 1) := by decide +kernel
theorem dX8_isHeard_20 : decode cX8_isHeard 20 = .ok (.imul, 1) := by decide +kernel
theorem dX8_isHeard_21 : decode cX8_isHeard 21 = .ok (.iload_n 2, 1) := by decide +kernel
theorem dX8_isHeard_22 : decode cX8_isHeard 22 = .ok (.iadd, 1) := by decide +kernel
theorem dX8_isHeard_23 : decode cX8_isHeard 23 = .ok (.iaload, 1) := by decide +kernel
theorem dX8_isHeard_24 : decode cX8_isHeard 24 = .ok (.iconst (-1), 1) := by decide +kernel
theorem dX8_isHeard_25 : decode cX8_isHeard 25 = .ok (.if_icmp .eq 21, 3) := by decide +kernel
theorem dX8_isHeard_28 : decode cX8_isHeard 28 = .ok (.aload_n 0, 1) := by decide +kernel
theorem dX8_isHeard_29 : decode cX8_isHeard 29 = .ok (.getfield 89, 3) := by decide +kernel
theorem dX8_isHeard_32 : decode cX8_isHeard 32 = .ok (.aload_n 0, 1) := by decide +kernel
theorem dX8_isHeard_33 : decode cX8_isHeard 33 = .ok (.getfield 95, 3) := by decide +kernel
theorem dX8_isHeard_36 : decode cX8_isHeard 36 = .ok (.iload_n 1, 1) := by decide +kernel
theorem dX8_isHeard_37 : decode cX8_isHeard 37 = .ok (.iaload, 1) := by decide +kernel
theorem dX8_isHeard_38 : decode cX8_isHeard 38 = .ok (.baload, 1) := by decide +kernel
theorem dX8_isHeard_39 : decode cX8_isHeard 39 = .ok (.ifCond .ne 7, 3) := by decide +kernel
theorem dX8_isHeard_42 : decode cX8_isHeard 42 = .ok (.iconst 1, 1) := by decide +kernel
theorem dX8_isHeard_43 : decode cX8_isHeard 43 = .ok (.goto 4, 3) := by decide +kernel
theorem dX8_isHeard_46 : decode cX8_isHeard 46 = .ok (.iconst 0, 1) := by decide +kernel
theorem dX8_isHeard_47 : decode cX8_isHeard 47 = .ok (.istore 4, 2) := by decide +kernel
theorem dX8_isHeard_49 : decode cX8_isHeard 49 = .ok (.iconst 0, 1) := by decide +kernel
theorem dX8_isHeard_50 : decode cX8_isHeard 50 = .ok (.istore 5, 2) := by decide +kernel
theorem dX8_isHeard_52 : decode cX8_isHeard 52 = .ok (.iload 4, 2) := by decide +kernel
theorem dX8_isHeard_54 : decode cX8_isHeard 54 = .ok (.ifCond .eq 31, 3) := by decide +kernel
theorem dX8_isHeard_57 : decode cX8_isHeard 57 = .ok (.iload 5, 2) := by decide +kernel
theorem dX8_isHeard_59 : decode cX8_isHeard 59 = .ok (.aload_n 0, 1) := by decide +kernel
theorem dX8_isHeard_60 : decode cX8_isHeard 60 = .ok (.iload_n 1, 1) := by decide +kernel
theorem dX8_isHeard_61 : decode cX8_isHeard 61 = .ok (.iload_n 2, 1) := by decide +kernel
theorem dX8_isHeard_62 : decode cX8_isHeard 62 = .ok (.invokevirtual 220, 3) := by decide +kernel
theorem dX8_isHeard_65 : decode cX8_isHeard 65 = .ok (.if_icmp .ge 20, 3) := by decide +kernel
theorem dX8_isHeard_68 : decode cX8_isHeard 68 = .ok (.aload_n 0, 1) := by decide +kernel
theorem dX8_isHeard_69 : decode cX8_isHeard 69 = .ok (.getfield 120, 3) := by decide +kernel
theorem dX8_isHeard_72 : decode cX8_isHeard 72 = .ok (.iload_n 3, 1) := by decide +kernel
theorem dX8_isHeard_73 : decode cX8_isHeard 73 = .ok (.iload 5, 2) := by decide +kernel
theorem dX8_isHeard_75 : decode cX8_isHeard 75 = .ok (.iadd, 1) := by decide +kernel
theorem dX8_isHeard_76 : decode cX8_isHeard 76 = .ok (.baload, 1) := by decide +kernel
theorem dX8_isHeard_77 : decode cX8_isHeard 77 = .ok (.istore 4, 2) := by decide +kernel
theorem dX8_isHeard_79 : decode cX8_isHeard 79 = .ok (.iinc 5 1, 3) := by decide +kernel
theorem dX8_isHeard_82 : decode cX8_isHeard 82 = .ok (.goto (-30), 3) := by decide +kernel
theorem dX8_isHeard_85 : decode cX8_isHeard 85 = .ok (.iload 4, 2) := by decide +kernel
theorem dX8_isHeard_87 : decode cX8_isHeard 87 = .ok (.ireturn, 1) := by decide +kernel
theorem dX8_isOf_0 : decode cX8_isOf 0 = .ok (.aload_n 0, 1) := by decide +kernel
theorem dX8_isOf_1 : decode cX8_isOf 1 = .ok (.getfield 98, 3) := by decide +kernel
theorem dX8_isOf_4 : decode cX8_isOf 4 = .ok (.iload_n 1, 1) := by decide +kernel
theorem dX8_isOf_5 : decode cX8_isOf 5 = .ok (.iaload, 1) := by decide +kernel
theorem dX8_isOf_6 : decode cX8_isOf 6 = .ok (.iload_n 2, 1) := by decide +kernel
theorem dX8_isOf_7 : decode cX8_isOf 7 = .ok (.if_icmp .ne 17, 3) := by decide +kernel
theorem dX8_isOf_10 : decode cX8_isOf 10 = .ok (.aload_n 0, 1) := by decide +kernel
theorem dX8_isOf_11 : decode cX8_isOf 11 = .ok (.getfield 95, 3) := by decide +kernel
theorem dX8_isOf_14 : decode cX8_isOf 14 = .ok (.iload_n 1, 1) := by decide +kernel
theorem dX8_isOf_15 : decode cX8_isOf 15 = .ok (.iaload, 1) := by decide +kernel
theorem dX8_isOf_16 : decode cX8_isOf 16 = .ok (.iload_n 3, 1) := by decide +kernel
theorem dX8_isOf_17 : decode cX8_isOf 17 = .ok (.if_icmp .ne 7, 3) := by decide +kernel
theorem dX8_isOf_20 : decode cX8_isOf 20 = .ok (.iconst 1, 1) := by decide +kernel
theorem dX8_isOf_21 : decode cX8_isOf 21 = .ok (.goto 4, 3) := by decide +kernel
theorem dX8_isOf_24 : decode cX8_isOf 24 = .ok (.iconst 0, 1) := by decide +kernel
theorem dX8_isOf_25 : decode cX8_isOf 25 = .ok (.ireturn, 1) := by decide +kernel
theorem dX8_reach_0 : decode cX8_reach 0 = .ok (.iconst (-1), 1) := by decide +kernel
theorem dX8_reach_1 : decode cX8_reach 1 = .ok (.istore_n 3, 1) := by decide +kernel
theorem dX8_reach_2 : decode cX8_reach 2 = .ok (.iconst 0, 1) := by decide +kernel
theorem dX8_reach_3 : decode cX8_reach 3 = .ok (.istore 4, 2) := by decide +kernel
theorem dX8_reach_5 : decode cX8_reach 5 = .ok (.iload 4, 2) := by decide +kernel
theorem dX8_reach_7 : decode cX8_reach 7 = .ok (.aload_n 0, 1) := by decide +kernel
theorem dX8_reach_8 : decode cX8_reach 8 = .ok (.getfield 146, 3) := by decide +kernel
theorem dX8_reach_11 : decode cX8_reach 11 = .ok (.if_icmp .ge 107, 3) := by decide +kernel
theorem dX8_reach_14 : decode cX8_reach 14 = .ok (.iconst 0, 1) := by decide +kernel
theorem dX8_reach_15 : decode cX8_reach 15 = .ok (.istore 5, 2) := by decide +kernel
theorem dX8_reach_17 : decode cX8_reach 17 = .ok (.aload_n 0, 1) := by decide +kernel
theorem dX8_reach_18 : decode cX8_reach 18 = .ok (.iload 4, 2) := by decide +kernel
theorem dX8_reach_20 : decode cX8_reach 20 = .ok (.iload_n 1, 1) := by decide +kernel
theorem dX8_reach_21 : decode cX8_reach 21 = .ok (.iload_n 2, 1) := by decide +kernel
theorem dX8_reach_22 : decode cX8_reach 22 = .ok (.invokevirtual 226, 3) := by decide +kernel
theorem dX8_reach_25 : decode cX8_reach 25 = .ok (.ifCond .eq 87, 3) := by decide +kernel
theorem dX8_reach_28 : decode cX8_reach 28 = .ok (.iload 5, 2) := by decide +kernel
theorem dX8_reach_30 : decode cX8_reach 30 = .ok (.aload_n 0, 1) := by decide +kernel
theorem dX8_reach_31 : decode cX8_reach 31 = .ok (.getfield 104, 3) := by decide +kernel
theorem dX8_reach_34 : decode cX8_reach 34 = .ok (.iload 4, 2) := by decide +kernel
theorem dX8_reach_36 : decode cX8_reach 36 = .ok (.iaload, 1) := by decide +kernel
theorem dX8_reach_37 : decode cX8_reach 37 = .ok (.if_icmp .ge 75, 3) := by decide +kernel
theorem dX8_reach_40 : decode cX8_reach 40 = .ok (.aload_n 0, 1) := by decide +kernel
theorem dX8_reach_41 : decode cX8_reach 41 = .ok (.iload 4, 2) := by decide +kernel
theorem dX8_reach_43 : decode cX8_reach 43 = .ok (.iload 5, 2) := by decide +kernel
theorem dX8_reach_45 : decode cX8_reach 45 = .ok (.invokevirtual 229, 3) := by decide +kernel
theorem dX8_reach_48 : decode cX8_reach 48 = .ok (.ifCond .eq 14, 3) := by decide +kernel
theorem dX8_reach_51 : decode cX8_reach 51 = .ok (.aload_n 0, 1) := by decide +kernel
theorem dX8_reach_52 : decode cX8_reach 52 = .ok (.iload 4, 2) := by decide +kernel
theorem dX8_reach_54 : decode cX8_reach 54 = .ok (.iload 5, 2) := by decide +kernel
theorem dX8_reach_56 : decode cX8_reach 56 = .ok (.invokevirtual 232, 3) := by decide +kernel
theorem dX8_reach_59 : decode cX8_reach 59 = .ok (.goto 4, 3) := by decide +kernel
theorem dX8_reach_62 : decode cX8_reach 62 = .ok (.iconst (-1), 1) := by decide +kernel
theorem dX8_reach_63 : decode cX8_reach 63 = .ok (.istore 6, 2) := by decide +kernel
theorem dX8_reach_65 : decode cX8_reach 65 = .ok (.sipush 1000, 3) := by decide +kernel
theorem dX8_reach_68 : decode cX8_reach 68 = .ok (.aload_n 0, 1) := by decide +kernel
theorem dX8_reach_69 : decode cX8_reach 69 = .ok (.getfield 110, 3) := by decide +kernel
theorem dX8_reach_72 : decode cX8_reach 72 = .ok (.bipush 10, 2) := by decide +kernel
theorem dX8_reach_74 : decode cX8_reach 74 = .ok (.iload 4, 2) := by decide +kernel
theorem dX8_reach_76 : decode cX8_reach 76 = .ok (.imul, 1) := by decide +kernel
theorem dX8_reach_77 : decode cX8_reach 77 = .ok (.iload 5, 2) := by decide +kernel
theorem dX8_reach_79 : decode cX8_reach 79 = .ok (.iadd, 1) := by decide +kernel
theorem dX8_reach_80 : decode cX8_reach 80 = .ok (.iaload, 1) := by decide +kernel
theorem dX8_reach_81 : decode cX8_reach 81 = .ok (.imul, 1) := by decide +kernel
theorem dX8_reach_82 : decode cX8_reach 82 = .ok (.iload 6, 2) := by decide +kernel
theorem dX8_reach_84 : decode cX8_reach 84 = .ok (.iadd, 1) := by decide +kernel
theorem dX8_reach_85 : decode cX8_reach 85 = .ok (.istore 7, 2) := by decide +kernel
theorem dX8_reach_87 : decode cX8_reach 87 = .ok (.iload 6, 2) := by decide +kernel
theorem dX8_reach_89 : decode cX8_reach 89 = .ok (.iconst (-1), 1) := by decide +kernel
theorem dX8_reach_90 : decode cX8_reach 90 = .ok (.if_icmp .eq 14, 3) := by decide +kernel
theorem dX8_reach_93 : decode cX8_reach 93 = .ok (.iload 7, 2) := by decide +kernel
theorem dX8_reach_95 : decode cX8_reach 95 = .ok (.iload_n 3, 1) := by decide +kernel
theorem dX8_reach_96 : decode cX8_reach 96 = .ok (.if_icmp .le 8, 3) := by decide +kernel
theorem dX8_reach_99 : decode cX8_reach 99 = .ok (.iload 7, 2) := by decide +kernel
theorem dX8_reach_101 : decode cX8_reach 101 = .ok (.goto 4, 3) := by decide +kernel
theorem dX8_reach_104 : decode cX8_reach 104 = .ok (.iload_n 3, 1) := by decide +kernel
theorem dX8_reach_105 : decode cX8_reach 105 = .ok (.istore_n 3, 1) := by decide +kernel
theorem dX8_reach_106 : decode cX8_reach 106 = .ok (.iinc 5 1, 3) := by decide +kernel
theorem dX8_reach_109 : decode cX8_reach 109 = .ok (.goto (-92), 3) := by decide +kernel
theorem dX8_reach_112 : decode cX8_reach 112 = .ok (.iinc 4 1, 3) := by decide +kernel
theorem dX8_reach_115 : decode cX8_reach 115 = .ok (.goto (-110), 3) := by decide +kernel
theorem dX8_reach_118 : decode cX8_reach 118 = .ok (.iload_n 3, 1) := by decide +kernel
theorem dX8_reach_119 : decode cX8_reach 119 = .ok (.ireturn, 1) := by decide +kernel
theorem dX8_goesOn_0 : decode cX8_goesOn 0 = .ok (.aload_n 0, 1) := by decide +kernel
theorem dX8_goesOn_1 : decode cX8_goesOn 1 = .ok (.aload_n 0, 1) := by decide +kernel
theorem dX8_goesOn_2 : decode cX8_goesOn 2 = .ok (.getfield 98, 3) := by decide +kernel
theorem dX8_goesOn_5 : decode cX8_goesOn 5 = .ok (.iload_n 1, 1) := by decide +kernel
theorem dX8_goesOn_6 : decode cX8_goesOn 6 = .ok (.iaload, 1) := by decide +kernel
theorem dX8_goesOn_7 : decode cX8_goesOn 7 = .ok (.aload_n 0, 1) := by decide +kernel
theorem dX8_goesOn_8 : decode cX8_goesOn 8 = .ok (.getfield 95, 3) := by decide +kernel
theorem dX8_goesOn_11 : decode cX8_goesOn 11 = .ok (.iload_n 1, 1) := by decide +kernel
theorem dX8_goesOn_12 : decode cX8_goesOn 12 = .ok (.iaload, 1) := by decide +kernel
theorem dX8_goesOn_13 : decode cX8_goesOn 13 = .ok (.invokevirtual 235, 3) := by decide +kernel
theorem dX8_goesOn_16 : decode cX8_goesOn 16 = .ok (.istore_n 2, 1) := by decide +kernel
theorem dX8_goesOn_17 : decode cX8_goesOn 17 = .ok (.iconst 0, 1) := by decide +kernel
theorem dX8_goesOn_18 : decode cX8_goesOn 18 = .ok (.istore_n 3, 1) := by decide +kernel
theorem dX8_goesOn_19 : decode cX8_goesOn 19 = .ok (.iconst 0, 1) := by decide +kernel
theorem dX8_goesOn_20 : decode cX8_goesOn 20 = .ok (.istore 4, 2) := by decide +kernel
theorem dX8_goesOn_22 : decode cX8_goesOn 22 = .ok (.iload 4, 2) := by decide +kernel
theorem dX8_goesOn_24 : decode cX8_goesOn 24 = .ok (.aload_n 0, 1) := by decide +kernel
theorem dX8_goesOn_25 : decode cX8_goesOn 25 = .ok (.getfield 104, 3) := by decide +kernel
theorem dX8_goesOn_28 : decode cX8_goesOn 28 = .ok (.iload_n 1, 1) := by decide +kernel
theorem dX8_goesOn_29 : decode cX8_goesOn 29 = .ok (.iaload, 1) := by decide +kernel
theorem dX8_goesOn_30 : decode cX8_goesOn 30 = .ok (.if_icmp .ge 83, 3) := by decide +kernel
theorem dX8_goesOn_33 : decode cX8_goesOn 33 = .ok (.iload_n 2, 1) := by decide +kernel
theorem dX8_goesOn_34 : decode cX8_goesOn 34 = .ok (.sipush 1000, 3) := by decide +kernel
theorem dX8_goesOn_37 : decode cX8_goesOn 37 = .ok (.aload_n 0, 1) := by decide +kernel
theorem dX8_goesOn_38 : decode cX8_goesOn 38 = .ok (.getfield 110, 3) := by decide +kernel
theorem dX8_goesOn_41 : decode cX8_goesOn 41 = .ok (.bipush 10, 2) := by decide +kernel
theorem dX8_goesOn_43 : decode cX8_goesOn 43 = .ok (.iload_n 1, 1) := by decide +kernel
theorem dX8_goesOn_44 : decode cX8_goesOn 44 = .ok (.imul, 1) := by decide +kernel
theorem dX8_goesOn_45 : decode cX8_goesOn 45 = .ok (.iload 4, 2) := by decide +kernel
theorem dX8_goesOn_47 : decode cX8_goesOn 47 = .ok (.iadd, 1) := by decide +kernel
theorem dX8_goesOn_48 : decode cX8_goesOn 48 = .ok (.iaload, 1) := by decide +kernel
theorem dX8_goesOn_49 : decode cX8_goesOn 49 = .ok (.imul, 1) := by decide +kernel
theorem dX8_goesOn_50 : decode cX8_goesOn 50 = .ok (.isub, 1) := by decide +kernel
theorem dX8_goesOn_51 : decode cX8_goesOn 51 = .ok (.istore 5, 2) := by decide +kernel
theorem dX8_goesOn_53 : decode cX8_goesOn 53 = .ok (.aload_n 0, 1) := by decide +kernel
theorem dX8_goesOn_54 : decode cX8_goesOn 54 = .ok (.iload_n 1, 1) := by decide +kernel
theorem dX8_goesOn_55 : decode cX8_goesOn 55 = .ok (.iload 4, 2) := by decide +kernel
theorem dX8_goesOn_57 : decode cX8_goesOn 57 = .ok (.invokevirtual 229, 3) := by decide +kernel
theorem dX8_goesOn_60 : decode cX8_goesOn 60 = .ok (.ifCond .eq 47, 3) := by decide +kernel
theorem dX8_goesOn_63 : decode cX8_goesOn 63 = .ok (.iload_n 2, 1) := by decide +kernel
theorem dX8_goesOn_64 : decode cX8_goesOn 64 = .ok (.iconst (-1), 1) := by decide +kernel
theorem dX8_goesOn_65 : decode cX8_goesOn 65 = .ok (.if_icmp .eq 42, 3) := by decide +kernel
theorem dX8_goesOn_68 : decode cX8_goesOn 68 = .ok (.iload 5, 2) := by decide +kernel
theorem dX8_goesOn_70 : decode cX8_goesOn 70 = .ok (.ifCond .lt 37, 3) := by decide +kernel
theorem dX8_goesOn_73 : decode cX8_goesOn 73 = .ok (.aload_n 0, 1) := by decide +kernel
theorem dX8_goesOn_74 : decode cX8_goesOn 74 = .ok (.iload_n 1, 1) := by decide +kernel
theorem dX8_goesOn_75 : decode cX8_goesOn 75 = .ok (.iload 4, 2) := by decide +kernel
theorem dX8_goesOn_77 : decode cX8_goesOn 77 = .ok (.invokevirtual 220, 3) := by decide +kernel
theorem dX8_goesOn_80 : decode cX8_goesOn 80 = .ok (.istore 6, 2) := by decide +kernel
theorem dX8_goesOn_82 : decode cX8_goesOn 82 = .ok (.aload_n 0, 1) := by decide +kernel
theorem dX8_goesOn_83 : decode cX8_goesOn 83 = .ok (.iload_n 1, 1) := by decide +kernel
theorem dX8_goesOn_84 : decode cX8_goesOn 84 = .ok (.iload 4, 2) := by decide +kernel
theorem dX8_goesOn_86 : decode cX8_goesOn 86 = .ok (.invokevirtual 223, 3) := by decide +kernel
theorem dX8_goesOn_89 : decode cX8_goesOn 89 = .ok (.iload 5, 2) := by decide +kernel
theorem dX8_goesOn_91 : decode cX8_goesOn 91 = .ok (.iload 6, 2) := by decide +kernel
theorem dX8_goesOn_93 : decode cX8_goesOn 93 = .ok (.if_icmp .ge 10, 3) := by decide +kernel
theorem dX8_goesOn_96 : decode cX8_goesOn 96 = .ok (.iload 5, 2) := by decide +kernel
theorem dX8_goesOn_98 : decode cX8_goesOn 98 = .ok (.iconst 1, 1) := by decide +kernel
theorem dX8_goesOn_99 : decode cX8_goesOn 99 = .ok (.iadd, 1) := by decide +kernel
theorem dX8_goesOn_100 : decode cX8_goesOn 100 = .ok (.goto 5, 3) := by decide +kernel
theorem dX8_goesOn_103 : decode cX8_goesOn 103 = .ok (.iload 6, 2) := by decide +kernel
theorem dX8_goesOn_105 : decode cX8_goesOn 105 = .ok (.iadd, 1) := by decide +kernel
theorem dX8_goesOn_106 : decode cX8_goesOn 106 = .ok (.istore_n 3, 1) := by decide +kernel
theorem dX8_goesOn_107 : decode cX8_goesOn 107 = .ok (.iinc 4 1, 3) := by decide +kernel
theorem dX8_goesOn_110 : decode cX8_goesOn 110 = .ok (.goto (-88), 3) := by decide +kernel
theorem dX8_goesOn_113 : decode cX8_goesOn 113 = .ok (.iload_n 3, 1) := by decide +kernel
theorem dX8_goesOn_114 : decode cX8_goesOn 114 = .ok (.ireturn, 1) := by decide +kernel
theorem dX8_owes_0 : decode cX8_owes 0 = .ok (.iconst 0, 1) := by decide +kernel
theorem dX8_owes_1 : decode cX8_owes 1 = .ok (.istore_n 3, 1) := by decide +kernel
theorem dX8_owes_2 : decode cX8_owes 2 = .ok (.iconst 0, 1) := by decide +kernel
theorem dX8_owes_3 : decode cX8_owes 3 = .ok (.istore 4, 2) := by decide +kernel
theorem dX8_owes_5 : decode cX8_owes 5 = .ok (.iload 4, 2) := by decide +kernel
theorem dX8_owes_7 : decode cX8_owes 7 = .ok (.aload_n 0, 1) := by decide +kernel
theorem dX8_owes_8 : decode cX8_owes 8 = .ok (.getfield 146, 3) := by decide +kernel
theorem dX8_owes_11 : decode cX8_owes 11 = .ok (.if_icmp .ge 137, 3) := by decide +kernel
theorem dX8_owes_14 : decode cX8_owes 14 = .ok (.iconst 0, 1) := by decide +kernel
theorem dX8_owes_15 : decode cX8_owes 15 = .ok (.istore 5, 2) := by decide +kernel
theorem dX8_owes_17 : decode cX8_owes 17 = .ok (.aload_n 0, 1) := by decide +kernel
theorem dX8_owes_18 : decode cX8_owes 18 = .ok (.iload 4, 2) := by decide +kernel
theorem dX8_owes_20 : decode cX8_owes 20 = .ok (.iload_n 1, 1) := by decide +kernel
theorem dX8_owes_21 : decode cX8_owes 21 = .ok (.iload_n 2, 1) := by decide +kernel
theorem dX8_owes_22 : decode cX8_owes 22 = .ok (.invokevirtual 226, 3) := by decide +kernel
theorem dX8_owes_25 : decode cX8_owes 25 = .ok (.ifCond .eq 117, 3) := by decide +kernel
theorem dX8_owes_28 : decode cX8_owes 28 = .ok (.iload 5, 2) := by decide +kernel
theorem dX8_owes_30 : decode cX8_owes 30 = .ok (.aload_n 0, 1) := by decide +kernel
theorem dX8_owes_31 : decode cX8_owes 31 = .ok (.getfield 104, 3) := by decide +kernel
theorem dX8_owes_34 : decode cX8_owes 34 = .ok (.iload 4, 2) := by decide +kernel
theorem dX8_owes_36 : decode cX8_owes 36 = .ok (.iaload, 1) := by decide +kernel
theorem dX8_owes_37 : decode cX8_owes 37 = .ok (.if_icmp .ge 105, 3) := by decide +kernel
theorem dX8_owes_40 : decode cX8_owes 40 = .ok (.aload_n 0, 1) := by decide +kernel
theorem dX8_owes_41 : decode cX8_owes 41 = .ok (.getfield 110, 3) := by decide +kernel
theorem dX8_owes_44 : decode cX8_owes 44 = .ok (.bipush 10, 2) := by decide +kernel
theorem dX8_owes_46 : decode cX8_owes 46 = .ok (.iload 4, 2) := by decide +kernel
theorem dX8_owes_48 : decode cX8_owes 48 = .ok (.imul, 1) := by decide +kernel
theorem dX8_owes_49 : decode cX8_owes 49 = .ok (.iload 5, 2) := by decide +kernel
theorem dX8_owes_51 : decode cX8_owes 51 = .ok (.iadd, 1) := by decide +kernel
theorem dX8_owes_52 : decode cX8_owes 52 = .ok (.iaload, 1) := by decide +kernel
theorem dX8_owes_53 : decode cX8_owes 53 = .ok (.istore 6, 2) := by decide +kernel
theorem dX8_owes_55 : decode cX8_owes 55 = .ok (.aload_n 0, 1) := by decide +kernel
theorem dX8_owes_56 : decode cX8_owes 56 = .ok (.iload 4, 2) := by decide +kernel
theorem dX8_owes_58 : decode cX8_owes 58 = .ok (.iload 5, 2) := by decide +kernel
theorem dX8_owes_60 : decode cX8_owes 60 = .ok (.invokevirtual 229, 3) := by decide +kernel
theorem dX8_owes_63 : decode cX8_owes 63 = .ok (.ifCond .eq 43, 3) := by decide +kernel
theorem dX8_owes_66 : decode cX8_owes 66 = .ok (.aload_n 0, 1) := by decide +kernel
theorem dX8_owes_67 : decode cX8_owes 67 = .ok (.getfield 47, 3) := by decide +kernel
theorem dX8_owes_70 : decode cX8_owes 70 = .ok (.bipush 10, 2) := by decide +kernel
theorem dX8_owes_72 : decode cX8_owes 72 = .ok (.iload_n 1, 1) := by decide +kernel
theorem dX8_owes_73 : decode cX8_owes 73 = .ok (.imul, 1) := by decide +kernel
theorem dX8_owes_74 : decode cX8_owes 74 = .ok (.iload 6, 2) := by decide +kernel
theorem dX8_owes_76 : decode cX8_owes 76 = .ok (.iadd, 1) := by decide +kernel
theorem dX8_owes_77 : decode cX8_owes 77 = .ok (.baload, 1) := by decide +kernel
theorem dX8_owes_78 : decode cX8_owes 78 = .ok (.ifCond .eq 28, 3) := by decide +kernel
theorem dX8_owes_81 : decode cX8_owes 81 = .ok (.aload_n 0, 1) := by decide +kernel
theorem dX8_owes_82 : decode cX8_owes 82 = .ok (.getfield 92, 3) := by decide +kernel
theorem dX8_owes_85 : decode cX8_owes 85 = .ok (.sipush 240, 3) := by decide +kernel
theorem dX8_owes_88 : decode cX8_owes 88 = .ok (.iload_n 2, 1) := by decide +kernel
theorem dX8_owes_89 : decode cX8_owes 89 = .ok (.imul, 1) := by decide +kernel
theorem dX8_owes_90 : decode cX8_owes 90 = .ok (.bipush 10, 2) := by decide +kernel
theorem dX8_owes_92 : decode cX8_owes 92 = .ok (.iload_n 1, 1) := by decide +kernel
theorem dX8_owes_93 : decode cX8_owes 93 = .ok (.imul, 1) := by decide +kernel
theorem dX8_owes_94 : decode cX8_owes 94 = .ok (.iadd, 1) := by decide +kernel
theorem dX8_owes_95 : decode cX8_owes 95 = .ok (.iload 6, 2) := by decide +kernel
theorem dX8_owes_97 : decode cX8_owes 97 = .ok (.iadd, 1) := by decide +kernel
theorem dX8_owes_98 : decode cX8_owes 98 = .ok (.baload, 1) := by decide +kernel
theorem dX8_owes_99 : decode cX8_owes 99 = .ok (.ifCond .ne 7, 3) := by decide +kernel
theorem dX8_owes_102 : decode cX8_owes 102 = .ok (.iconst 1, 1) := by decide +kernel
theorem dX8_owes_103 : decode cX8_owes 103 = .ok (.goto 4, 3) := by decide +kernel
theorem dX8_owes_106 : decode cX8_owes 106 = .ok (.iconst 0, 1) := by decide +kernel
theorem dX8_owes_107 : decode cX8_owes 107 = .ok (.istore 7, 2) := by decide +kernel
theorem dX8_owes_109 : decode cX8_owes 109 = .ok (.iload_n 3, 1) := by decide +kernel
theorem dX8_owes_110 : decode cX8_owes 110 = .ok (.ifCond .ne 20, 3) := by decide +kernel
theorem dX8_owes_113 : decode cX8_owes 113 = .ok (.iload 7, 2) := by decide +kernel
theorem dX8_owes_115 : decode cX8_owes 115 = .ok (.ifCond .eq 19, 3) := by decide +kernel
theorem dX8_owes_118 : decode cX8_owes 118 = .ok (.aload_n 0, 1) := by decide +kernel
theorem dX8_owes_119 : decode cX8_owes 119 = .ok (.iload 4, 2) := by decide +kernel
theorem dX8_owes_121 : decode cX8_owes 121 = .ok (.iload 5, 2) := by decide +kernel
theorem dX8_owes_123 : decode cX8_owes 123 = .ok (.invokevirtual 232, 3) := by decide +kernel
theorem dX8_owes_126 : decode cX8_owes 126 = .ok (.iconst (-1), 1) := by decide +kernel
theorem dX8_owes_127 : decode cX8_owes 127 = .ok (.if_icmp .eq 7, 3) := by decide +kernel
theorem dX8_owes_130 : decode cX8_owes 130 = .ok (.iconst 1, 1) := by decide +kernel
theorem dX8_owes_131 : decode cX8_owes 131 = .ok (.goto 4, 3) := by decide +kernel
theorem dX8_owes_134 : decode cX8_owes 134 = .ok (.iconst 0, 1) := by decide +kernel
theorem dX8_owes_135 : decode cX8_owes 135 = .ok (.istore_n 3, 1) := by decide +kernel
theorem dX8_owes_136 : decode cX8_owes 136 = .ok (.iinc 5 1, 3) := by decide +kernel
theorem dX8_owes_139 : decode cX8_owes 139 = .ok (.goto (-122), 3) := by decide +kernel
theorem dX8_owes_142 : decode cX8_owes 142 = .ok (.iinc 4 1, 3) := by decide +kernel
theorem dX8_owes_145 : decode cX8_owes 145 = .ok (.goto (-140), 3) := by decide +kernel
theorem dX8_owes_148 : decode cX8_owes 148 = .ok (.iload_n 3, 1) := by decide +kernel
theorem dX8_owes_149 : decode cX8_owes 149 = .ok (.ireturn, 1) := by decide +kernel
theorem dX8_tell_0 : decode cX8_tell 0 = .ok (.aload_n 0, 1) := by decide +kernel
theorem dX8_tell_1 : decode cX8_tell 1 = .ok (.aload_n 0, 1) := by decide +kernel
theorem dX8_tell_2 : decode cX8_tell 2 = .ok (.iload_n 1, 1) := by decide +kernel
theorem dX8_tell_3 : decode cX8_tell 3 = .ok (.invokevirtual 180, 3) := by decide +kernel
theorem dX8_tell_6 : decode cX8_tell 6 = .ok (.ifCond .eq 17, 3) := by decide +kernel
theorem dX8_tell_9 : decode cX8_tell 9 = .ok (.iload_n 2, 1) := by decide +kernel
theorem dX8_tell_10 : decode cX8_tell 10 = .ok (.iconst 0, 1) := by decide +kernel
theorem dX8_tell_11 : decode cX8_tell 11 = .ok (.bipush 9, 2) := by decide +kernel
theorem dX8_tell_13 : decode cX8_tell 13 = .ok (.invokestatic 142, 3) := by decide +kernel
theorem dX8_tell_16 : decode cX8_tell 16 = .ok (.ifCond .eq 7, 3) := by decide +kernel
theorem dX8_tell_19 : decode cX8_tell 19 = .ok (.iconst 0, 1) := by decide +kernel
theorem dX8_tell_20 : decode cX8_tell 20 = .ok (.goto 4, 3) := by decide +kernel
theorem dX8_tell_23 : decode cX8_tell 23 = .ok (.iconst 1, 1) := by decide +kernel
theorem dX8_tell_24 : decode cX8_tell 24 = .ok (.invokevirtual 152, 3) := by decide +kernel
theorem dX8_tell_27 : decode cX8_tell 27 = .ok (.ifCond .ne 5, 3) := by decide +kernel
theorem dX8_tell_30 : decode cX8_tell 30 = .ok (.iconst 0, 1) := by decide +kernel
theorem dX8_tell_31 : decode cX8_tell 31 = .ok (.ireturn, 1) := by decide +kernel
theorem dX8_tell_32 : decode cX8_tell 32 = .ok (.aload_n 0, 1) := by decide +kernel
theorem dX8_tell_33 : decode cX8_tell 33 = .ok (.iload_n 1, 1) := by decide +kernel
theorem dX8_tell_34 : decode cX8_tell 34 = .ok (.iload_n 2, 1) := by decide +kernel
theorem dX8_tell_35 : decode cX8_tell 35 = .ok (.invokevirtual 238, 3) := by decide +kernel
theorem dX8_tell_38 : decode cX8_tell 38 = .ok (.istore_n 3, 1) := by decide +kernel
theorem dX8_tell_39 : decode cX8_tell 39 = .ok (.iconst 0, 1) := by decide +kernel
theorem dX8_tell_40 : decode cX8_tell 40 = .ok (.istore 4, 2) := by decide +kernel
theorem dX8_tell_42 : decode cX8_tell 42 = .ok (.iload 4, 2) := by decide +kernel
theorem dX8_tell_44 : decode cX8_tell 44 = .ok (.aload_n 0, 1) := by decide +kernel
theorem dX8_tell_45 : decode cX8_tell 45 = .ok (.getfield 35, 3) := by decide +kernel
theorem dX8_tell_48 : decode cX8_tell 48 = .ok (.iload_n 1, 1) := by decide +kernel
theorem dX8_tell_49 : decode cX8_tell 49 = .ok (.iaload, 1) := by decide +kernel
theorem dX8_tell_50 : decode cX8_tell 50 = .ok (.if_icmp .ge 68, 3) := by decide +kernel
theorem dX8_tell_53 : decode cX8_tell 53 = .ok (.aload_n 0, 1) := by decide +kernel
theorem dX8_tell_54 : decode cX8_tell 54 = .ok (.getfield 92, 3) := by decide +kernel
theorem dX8_tell_57 : decode cX8_tell 57 = .ok (.sipush 240, 3) := by decide +kernel
theorem dX8_tell_60 : decode cX8_tell 60 = .ok (.iload_n 2, 1) := by decide +kernel
theorem dX8_tell_61 : decode cX8_tell 61 = .ok (.imul, 1) := by decide +kernel
theorem dX8_tell_62 : decode cX8_tell 62 = .ok (.bipush 10, 2) := by decide +kernel
theorem dX8_tell_64 : decode cX8_tell 64 = .ok (.iload_n 1, 1) := by decide +kernel
theorem dX8_tell_65 : decode cX8_tell 65 = .ok (.imul, 1) := by decide +kernel
theorem dX8_tell_66 : decode cX8_tell 66 = .ok (.iadd, 1) := by decide +kernel
theorem dX8_tell_67 : decode cX8_tell 67 = .ok (.iload 4, 2) := by decide +kernel
theorem dX8_tell_69 : decode cX8_tell 69 = .ok (.iadd, 1) := by decide +kernel
theorem dX8_tell_70 : decode cX8_tell 70 = .ok (.aload_n 0, 1) := by decide +kernel
theorem dX8_tell_71 : decode cX8_tell 71 = .ok (.getfield 92, 3) := by decide +kernel
theorem dX8_tell_74 : decode cX8_tell 74 = .ok (.sipush 240, 3) := by decide +kernel
theorem dX8_tell_77 : decode cX8_tell 77 = .ok (.iload_n 2, 1) := by decide +kernel
theorem dX8_tell_78 : decode cX8_tell 78 = .ok (.imul, 1) := by decide +kernel
theorem dX8_tell_79 : decode cX8_tell 79 = .ok (.bipush 10, 2) := by decide +kernel
theorem dX8_tell_81 : decode cX8_tell 81 = .ok (.iload_n 1, 1) := by decide +kernel
theorem dX8_tell_82 : decode cX8_tell 82 = .ok (.imul, 1) := by decide +kernel
theorem dX8_tell_83 : decode cX8_tell 83 = .ok (.iadd, 1) := by decide +kernel
theorem dX8_tell_84 : decode cX8_tell 84 = .ok (.iload 4, 2) := by decide +kernel
theorem dX8_tell_86 : decode cX8_tell 86 = .ok (.iadd, 1) := by decide +kernel
theorem dX8_tell_87 : decode cX8_tell 87 = .ok (.baload, 1) := by decide +kernel
theorem dX8_tell_88 : decode cX8_tell 88 = .ok (.ifCond .ne 18, 3) := by decide +kernel
theorem dX8_tell_91 : decode cX8_tell 91 = .ok (.aload_n 0, 1) := by decide +kernel
theorem dX8_tell_92 : decode cX8_tell 92 = .ok (.getfield 47, 3) := by decide +kernel
theorem dX8_tell_95 : decode cX8_tell 95 = .ok (.bipush 10, 2) := by decide +kernel
theorem dX8_tell_97 : decode cX8_tell 97 = .ok (.iload_n 1, 1) := by decide +kernel
theorem dX8_tell_98 : decode cX8_tell 98 = .ok (.imul, 1) := by decide +kernel
theorem dX8_tell_99 : decode cX8_tell 99 = .ok (.iload 4, 2) := by decide +kernel
theorem dX8_tell_101 : decode cX8_tell 101 = .ok (.iadd, 1) := by decide +kernel
theorem dX8_tell_102 : decode cX8_tell 102 = .ok (.baload, 1) := by decide +kernel
theorem dX8_tell_103 : decode cX8_tell 103 = .ok (.ifCond .eq 7, 3) := by decide +kernel
theorem dX8_tell_106 : decode cX8_tell 106 = .ok (.iconst 1, 1) := by decide +kernel
theorem dX8_tell_107 : decode cX8_tell 107 = .ok (.goto 4, 3) := by decide +kernel
theorem dX8_tell_110 : decode cX8_tell 110 = .ok (.iconst 0, 1) := by decide +kernel
theorem dX8_tell_111 : decode cX8_tell 111 = .ok (.bastore, 1) := by decide +kernel
theorem dX8_tell_112 : decode cX8_tell 112 = .ok (.iinc 4 1, 3) := by decide +kernel
theorem dX8_tell_115 : decode cX8_tell 115 = .ok (.goto (-73), 3) := by decide +kernel
theorem dX8_tell_118 : decode cX8_tell 118 = .ok (.iload_n 3, 1) := by decide +kernel
theorem dX8_tell_119 : decode cX8_tell 119 = .ok (.ireturn, 1) := by decide +kernel
theorem dX8_hour_0 : decode cX8_hour 0 = .ok (.aload_n 0, 1) := by decide +kernel
theorem dX8_hour_1 : decode cX8_hour 1 = .ok (.iconst 0, 1) := by decide +kernel
theorem dX8_hour_2 : decode cX8_hour 2 = .ok (.invokevirtual 152, 3) := by decide +kernel
theorem dX8_hour_5 : decode cX8_hour 5 = .ok (.pop, 1) := by decide +kernel
theorem dX8_hour_6 : decode cX8_hour 6 = .ok (.aload_n 0, 1) := by decide +kernel
theorem dX8_hour_7 : decode cX8_hour 7 = .ok (.getfield 170, 3) := by decide +kernel
theorem dX8_hour_10 : decode cX8_hour 10 = .ok (.ireturn, 1) := by decide +kernel
theorem dX8_soundSeconds_0 : decode cX8_soundSeconds 0 = .ok (.iconst 0, 1) := by decide +kernel
theorem dX8_soundSeconds_1 : decode cX8_soundSeconds 1 = .ok (.istore_n 2, 1) := by decide +kernel
theorem dX8_soundSeconds_2 : decode cX8_soundSeconds 2 = .ok (.bipush 10, 2) := by decide +kernel
theorem dX8_soundSeconds_4 : decode cX8_soundSeconds 4 = .ok (.iload_n 1, 1) := by decide +kernel
theorem dX8_soundSeconds_5 : decode cX8_soundSeconds 5 = .ok (.imul, 1) := by decide +kernel
theorem dX8_soundSeconds_6 : decode cX8_soundSeconds 6 = .ok (.istore_n 3, 1) := by decide +kernel
theorem dX8_soundSeconds_7 : decode cX8_soundSeconds 7 = .ok (.iload_n 3, 1) := by decide +kernel
theorem dX8_soundSeconds_8 : decode cX8_soundSeconds 8 = .ok (.bipush 10, 2) := by decide +kernel
theorem dX8_soundSeconds_10 : decode cX8_soundSeconds 10 = .ok (.iload_n 1, 1) := by decide +kernel
theorem dX8_soundSeconds_11 : decode cX8_soundSeconds 11 = .ok (.imul, 1) := by decide +kernel
theorem dX8_soundSeconds_12 : decode cX8_soundSeconds 12 = .ok (.aload_n 0, 1) := by decide +kernel
theorem dX8_soundSeconds_13 : decode cX8_soundSeconds 13 = .ok (.getfield 35, 3) := by decide +kernel
theorem dX8_soundSeconds_16 : decode cX8_soundSeconds 16 = .ok (.iload_n 1, 1) := by decide +kernel
theorem dX8_soundSeconds_17 : decode cX8_soundSeconds 17 = .ok (.iaload, 1) := by decide +kernel
theorem dX8_soundSeconds_18 : decode cX8_soundSeconds 18 = .ok (.iadd, 1) := by decide +kernel
theorem dX8_soundSeconds_19 : decode cX8_soundSeconds 19 = .ok (.if_icmp .ge 31, 3) := by decide +kernel
theorem dX8_soundSeconds_22 : decode cX8_soundSeconds 22 = .ok (.iload_n 2, 1) := by decide +kernel
theorem dX8_soundSeconds_23 : decode cX8_soundSeconds 23 = .ok (.aload_n 0, 1) := by decide +kernel
theorem dX8_soundSeconds_24 : decode cX8_soundSeconds 24 = .ok (.getfield 47, 3) := by decide +kernel
theorem dX8_soundSeconds_27 : decode cX8_soundSeconds 27 = .ok (.iload_n 3, 1) := by decide +kernel
theorem dX8_soundSeconds_28 : decode cX8_soundSeconds 28 = .ok (.baload, 1) := by decide +kernel
theorem dX8_soundSeconds_29 : decode cX8_soundSeconds 29 = .ok (.ifCond .eq 7, 3) := by decide +kernel
theorem dX8_soundSeconds_32 : decode cX8_soundSeconds 32 = .ok (.iconst 0, 1) := by decide +kernel
theorem dX8_soundSeconds_33 : decode cX8_soundSeconds 33 = .ok (.goto 9, 3) := by decide +kernel
theorem dX8_soundSeconds_36 : decode cX8_soundSeconds 36 = .ok (.aload_n 0, 1) := by decide +kernel
theorem dX8_soundSeconds_37 : decode cX8_soundSeconds 37 = .ok (.getfield 41, 3) := by decide +kernel
theorem dX8_soundSeconds_40 : decode cX8_soundSeconds 40 = .ok (.iload_n 3, 1) := by decide +kernel
theorem dX8_soundSeconds_41 : decode cX8_soundSeconds 41 = .ok (.iaload, 1) := by decide +kernel
theorem dX8_soundSeconds_42 : decode cX8_soundSeconds 42 = .ok (.iadd, 1) := by decide +kernel
theorem dX8_soundSeconds_43 : decode cX8_soundSeconds 43 = .ok (.istore_n 2, 1) := by decide +kernel
theorem dX8_soundSeconds_44 : decode cX8_soundSeconds 44 = .ok (.iinc 3 1, 3) := by decide +kernel
theorem dX8_soundSeconds_47 : decode cX8_soundSeconds 47 = .ok (.goto (-40), 3) := by decide +kernel
theorem dX8_soundSeconds_50 : decode cX8_soundSeconds 50 = .ok (.iload_n 2, 1) := by decide +kernel
theorem dX8_soundSeconds_51 : decode cX8_soundSeconds 51 = .ok (.ireturn, 1) := by decide +kernel
theorem dX8_askedFor_0 : decode cX8_askedFor 0 = .ok (.iconst 0, 1) := by decide +kernel
theorem dX8_askedFor_1 : decode cX8_askedFor 1 = .ok (.istore_n 2, 1) := by decide +kernel
theorem dX8_askedFor_2 : decode cX8_askedFor 2 = .ok (.iconst 0, 1) := by decide +kernel
theorem dX8_askedFor_3 : decode cX8_askedFor 3 = .ok (.istore_n 3, 1) := by decide +kernel
theorem dX8_askedFor_4 : decode cX8_askedFor 4 = .ok (.iload_n 3, 1) := by decide +kernel
theorem dX8_askedFor_5 : decode cX8_askedFor 5 = .ok (.aload_n 0, 1) := by decide +kernel
theorem dX8_askedFor_6 : decode cX8_askedFor 6 = .ok (.getfield 146, 3) := by decide +kernel
theorem dX8_askedFor_9 : decode cX8_askedFor 9 = .ok (.if_icmp .ge 27, 3) := by decide +kernel
theorem dX8_askedFor_12 : decode cX8_askedFor 12 = .ok (.iload_n 2, 1) := by decide +kernel
theorem dX8_askedFor_13 : decode cX8_askedFor 13 = .ok (.aload_n 0, 1) := by decide +kernel
theorem dX8_askedFor_14 : decode cX8_askedFor 14 = .ok (.getfield 98, 3) := by decide +kernel
theorem dX8_askedFor_17 : decode cX8_askedFor 17 = .ok (.iload_n 3, 1) := by decide +kernel
theorem dX8_askedFor_18 : decode cX8_askedFor 18 = .ok (.iaload, 1) := by decide +kernel
theorem dX8_askedFor_19 : decode cX8_askedFor 19 = .ok (.iload_n 1, 1) := by decide +kernel
theorem dX8_askedFor_20 : decode cX8_askedFor 20 = .ok (.if_icmp .ne 7, 3) := by decide +kernel
theorem dX8_askedFor_23 : decode cX8_askedFor 23 = .ok (.iconst 1, 1) := by decide +kernel
theorem dX8_askedFor_24 : decode cX8_askedFor 24 = .ok (.goto 4, 3) := by decide +kernel
theorem dX8_askedFor_27 : decode cX8_askedFor 27 = .ok (.iconst 0, 1) := by decide +kernel
theorem dX8_askedFor_28 : decode cX8_askedFor 28 = .ok (.iadd, 1) := by decide +kernel
theorem dX8_askedFor_29 : decode cX8_askedFor 29 = .ok (.istore_n 2, 1) := by decide +kernel
theorem dX8_askedFor_30 : decode cX8_askedFor 30 = .ok (.iinc 3 1, 3) := by decide +kernel
theorem dX8_askedFor_33 : decode cX8_askedFor 33 = .ok (.goto (-29), 3) := by decide +kernel
theorem dX8_askedFor_36 : decode cX8_askedFor 36 = .ok (.iload_n 2, 1) := by decide +kernel
theorem dX8_askedFor_37 : decode cX8_askedFor 37 = .ok (.ireturn, 1) := by decide +kernel
theorem dX8_ofItem_0 : decode cX8_ofItem 0 = .ok (.aload_n 0, 1) := by decide +kernel
theorem dX8_ofItem_1 : decode cX8_ofItem 1 = .ok (.aload_n 0, 1) := by decide +kernel
theorem dX8_ofItem_2 : decode cX8_ofItem 2 = .ok (.iload_n 1, 1) := by decide +kernel
theorem dX8_ofItem_3 : decode cX8_ofItem 3 = .ok (.invokevirtual 180, 3) := by decide +kernel
theorem dX8_ofItem_6 : decode cX8_ofItem 6 = .ok (.ifCond .ne 7, 3) := by decide +kernel
theorem dX8_ofItem_9 : decode cX8_ofItem 9 = .ok (.iconst 1, 1) := by decide +kernel
theorem dX8_ofItem_10 : decode cX8_ofItem 10 = .ok (.goto 18, 3) := by decide +kernel
theorem dX8_ofItem_13 : decode cX8_ofItem 13 = .ok (.iload_n 2, 1) := by decide +kernel
theorem dX8_ofItem_14 : decode cX8_ofItem 14 = .ok (.iconst 0, 1) := by decide +kernel
theorem dX8_ofItem_15 : decode cX8_ofItem 15 = .ok (.bipush 7, 2) := by decide +kernel
theorem dX8_ofItem_17 : decode cX8_ofItem 17 = .ok (.invokestatic 142, 3) := by decide +kernel
theorem dX8_ofItem_20 : decode cX8_ofItem 20 = .ok (.ifCond .eq 7, 3) := by decide +kernel
theorem dX8_ofItem_23 : decode cX8_ofItem 23 = .ok (.iconst 0, 1) := by decide +kernel
theorem dX8_ofItem_24 : decode cX8_ofItem 24 = .ok (.goto 4, 3) := by decide +kernel
theorem dX8_ofItem_27 : decode cX8_ofItem 27 = .ok (.iconst 2, 1) := by decide +kernel
theorem dX8_ofItem_28 : decode cX8_ofItem 28 = .ok (.invokevirtual 152, 3) := by decide +kernel
theorem dX8_ofItem_31 : decode cX8_ofItem 31 = .ok (.ifCond .ne 5, 3) := by decide +kernel
theorem dX8_ofItem_34 : decode cX8_ofItem 34 = .ok (.iconst 0, 1) := by decide +kernel
theorem dX8_ofItem_35 : decode cX8_ofItem 35 = .ok (.ireturn, 1) := by decide +kernel
theorem dX8_ofItem_36 : decode cX8_ofItem 36 = .ok (.iload_n 2, 1) := by decide +kernel
theorem dX8_ofItem_37 : decode cX8_ofItem 37 = .ok (.tableswitch 106 0 6 #[43, 50, 57, 72, 87, 94, 100], 43) := by decide +kernel
theorem dX8_ofItem_80 : decode cX8_ofItem 80 = .ok (.aload_n 0, 1) := by decide +kernel
theorem dX8_ofItem_81 : decode cX8_ofItem 81 = .ok (.getfield 23, 3) := by decide +kernel
theorem dX8_ofItem_84 : decode cX8_ofItem 84 = .ok (.iload_n 1, 1) := by decide +kernel
theorem dX8_ofItem_85 : decode cX8_ofItem 85 = .ok (.iaload, 1) := by decide +kernel
theorem dX8_ofItem_86 : decode cX8_ofItem 86 = .ok (.ireturn, 1) := by decide +kernel
theorem dX8_ofItem_87 : decode cX8_ofItem 87 = .ok (.aload_n 0, 1) := by decide +kernel
theorem dX8_ofItem_88 : decode cX8_ofItem 88 = .ok (.getfield 26, 3) := by decide +kernel
theorem dX8_ofItem_91 : decode cX8_ofItem 91 = .ok (.iload_n 1, 1) := by decide +kernel
theorem dX8_ofItem_92 : decode cX8_ofItem 92 = .ok (.iaload, 1) := by decide +kernel
theorem dX8_ofItem_93 : decode cX8_ofItem 93 = .ok (.ireturn, 1) := by decide +kernel
theorem dX8_ofItem_94 : decode cX8_ofItem 94 = .ok (.aload_n 0, 1) := by decide +kernel
theorem dX8_ofItem_95 : decode cX8_ofItem 95 = .ok (.getfield 29, 3) := by decide +kernel
theorem dX8_ofItem_98 : decode cX8_ofItem 98 = .ok (.iload_n 1, 1) := by decide +kernel
theorem dX8_ofItem_99 : decode cX8_ofItem 99 = .ok (.baload, 1) := by decide +kernel
theorem dX8_ofItem_100 : decode cX8_ofItem 100 = .ok (.ifCond .eq 7, 3) := by decide +kernel
theorem dX8_ofItem_103 : decode cX8_ofItem 103 = .ok (.iconst 1, 1) := by decide +kernel
theorem dX8_ofItem_104 : decode cX8_ofItem 104 = .ok (.goto 4, 3) := by decide +kernel
theorem dX8_ofItem_107 : decode cX8_ofItem 107 = .ok (.iconst 0, 1) := by decide +kernel
theorem dX8_ofItem_108 : decode cX8_ofItem 108 = .ok (.ireturn, 1) := by decide +kernel
theorem dX8_ofItem_109 : decode cX8_ofItem 109 = .ok (.aload_n 0, 1) := by decide +kernel
theorem dX8_ofItem_110 : decode cX8_ofItem 110 = .ok (.getfield 32, 3) := by decide +kernel
theorem dX8_ofItem_113 : decode cX8_ofItem 113 = .ok (.iload_n 1, 1) := by decide +kernel
theorem dX8_ofItem_114 : decode cX8_ofItem 114 = .ok (.baload, 1) := by decide +kernel
theorem dX8_ofItem_115 : decode cX8_ofItem 115 = .ok (.ifCond .eq 7, 3) := by decide +kernel
theorem dX8_ofItem_118 : decode cX8_ofItem 118 = .ok (.iconst 1, 1) := by decide +kernel
theorem dX8_ofItem_119 : decode cX8_ofItem 119 = .ok (.goto 4, 3) := by decide +kernel
theorem dX8_ofItem_122 : decode cX8_ofItem 122 = .ok (.iconst 0, 1) := by decide +kernel
theorem dX8_ofItem_123 : decode cX8_ofItem 123 = .ok (.ireturn, 1) := by decide +kernel
theorem dX8_ofItem_124 : decode cX8_ofItem 124 = .ok (.aload_n 0, 1) := by decide +kernel
theorem dX8_ofItem_125 : decode cX8_ofItem 125 = .ok (.getfield 35, 3) := by decide +kernel
theorem dX8_ofItem_128 : decode cX8_ofItem 128 = .ok (.iload_n 1, 1) := by decide +kernel
theorem dX8_ofItem_129 : decode cX8_ofItem 129 = .ok (.iaload, 1) := by decide +kernel
theorem dX8_ofItem_130 : decode cX8_ofItem 130 = .ok (.ireturn, 1) := by decide +kernel
theorem dX8_ofItem_131 : decode cX8_ofItem 131 = .ok (.aload_n 0, 1) := by decide +kernel
theorem dX8_ofItem_132 : decode cX8_ofItem 132 = .ok (.iload_n 1, 1) := by decide +kernel
theorem dX8_ofItem_133 : decode cX8_ofItem 133 = .ok (.invokevirtual 183, 3) := by decide +kernel
theorem dX8_ofItem_136 : decode cX8_ofItem 136 = .ok (.ireturn, 1) := by decide +kernel
theorem dX8_ofItem_137 : decode cX8_ofItem 137 = .ok (.aload_n 0, 1) := by decide +kernel
theorem dX8_ofItem_138 : decode cX8_ofItem 138 = .ok (.iload_n 1, 1) := by decide +kernel
theorem dX8_ofItem_139 : decode cX8_ofItem 139 = .ok (.invokevirtual 241, 3) := by decide +kernel
theorem dX8_ofItem_142 : decode cX8_ofItem 142 = .ok (.ireturn, 1) := by decide +kernel
theorem dX8_ofItem_143 : decode cX8_ofItem 143 = .ok (.aload_n 0, 1) := by decide +kernel
theorem dX8_ofItem_144 : decode cX8_ofItem 144 = .ok (.iload_n 1, 1) := by decide +kernel
theorem dX8_ofItem_145 : decode cX8_ofItem 145 = .ok (.invokevirtual 244, 3) := by decide +kernel
theorem dX8_ofItem_148 : decode cX8_ofItem 148 = .ok (.ireturn, 1) := by decide +kernel
theorem dX8_ofPart_0 : decode cX8_ofPart 0 = .ok (.aload_n 0, 1) := by decide +kernel
theorem dX8_ofPart_1 : decode cX8_ofPart 1 = .ok (.iload_n 1, 1) := by decide +kernel
theorem dX8_ofPart_2 : decode cX8_ofPart 2 = .ok (.invokevirtual 180, 3) := by decide +kernel
theorem dX8_ofPart_5 : decode cX8_ofPart 5 = .ok (.ifCond .eq 23, 3) := by decide +kernel
theorem dX8_ofPart_8 : decode cX8_ofPart 8 = .ok (.iload_n 2, 1) := by decide +kernel
theorem dX8_ofPart_9 : decode cX8_ofPart 9 = .ok (.iconst 0, 1) := by decide +kernel
theorem dX8_ofPart_10 : decode cX8_ofPart 10 = .ok (.aload_n 0, 1) := by decide +kernel
theorem dX8_ofPart_11 : decode cX8_ofPart 11 = .ok (.getfield 35, 3) := by decide +kernel
theorem dX8_ofPart_14 : decode cX8_ofPart 14 = .ok (.iload_n 1, 1) := by decide +kernel
theorem dX8_ofPart_15 : decode cX8_ofPart 15 = .ok (.iaload, 1) := by decide +kernel
theorem dX8_ofPart_16 : decode cX8_ofPart 16 = .ok (.iconst 1, 1) := by decide +kernel
theorem dX8_ofPart_17 : decode cX8_ofPart 17 = .ok (.isub, 1) := by decide +kernel
theorem dX8_ofPart_18 : decode cX8_ofPart 18 = .ok (.invokestatic 142, 3) := by decide +kernel
theorem dX8_ofPart_21 : decode cX8_ofPart 21 = .ok (.ifCond .eq 7, 3) := by decide +kernel
theorem dX8_ofPart_24 : decode cX8_ofPart 24 = .ok (.iconst 1, 1) := by decide +kernel
theorem dX8_ofPart_25 : decode cX8_ofPart 25 = .ok (.goto 4, 3) := by decide +kernel
theorem dX8_ofPart_28 : decode cX8_ofPart 28 = .ok (.iconst 0, 1) := by decide +kernel
theorem dX8_ofPart_29 : decode cX8_ofPart 29 = .ok (.istore 4, 2) := by decide +kernel
theorem dX8_ofPart_31 : decode cX8_ofPart 31 = .ok (.aload_n 0, 1) := by decide +kernel
theorem dX8_ofPart_32 : decode cX8_ofPart 32 = .ok (.iload 4, 2) := by decide +kernel
theorem dX8_ofPart_34 : decode cX8_ofPart 34 = .ok (.ifCond .ne 7, 3) := by decide +kernel
theorem dX8_ofPart_37 : decode cX8_ofPart 37 = .ok (.iconst 1, 1) := by decide +kernel
theorem dX8_ofPart_38 : decode cX8_ofPart 38 = .ok (.goto 17, 3) := by decide +kernel
theorem dX8_ofPart_41 : decode cX8_ofPart 41 = .ok (.iload_n 3, 1) := by decide +kernel
theorem dX8_ofPart_42 : decode cX8_ofPart 42 = .ok (.iconst 0, 1) := by decide +kernel
theorem dX8_ofPart_43 : decode cX8_ofPart 43 = .ok (.iconst 3, 1) := by decide +kernel
theorem dX8_ofPart_44 : decode cX8_ofPart 44 = .ok (.invokestatic 142, 3) := by decide +kernel
theorem dX8_ofPart_47 : decode cX8_ofPart 47 = .ok (.ifCond .eq 7, 3) := by decide +kernel
theorem dX8_ofPart_50 : decode cX8_ofPart 50 = .ok (.iconst 0, 1) := by decide +kernel
theorem dX8_ofPart_51 : decode cX8_ofPart 51 = .ok (.goto 4, 3) := by decide +kernel
theorem dX8_ofPart_54 : decode cX8_ofPart 54 = .ok (.iconst 2, 1) := by decide +kernel
theorem dX8_ofPart_55 : decode cX8_ofPart 55 = .ok (.invokevirtual 152, 3) := by decide +kernel
theorem dX8_ofPart_58 : decode cX8_ofPart 58 = .ok (.ifCond .ne 5, 3) := by decide +kernel
theorem dX8_ofPart_61 : decode cX8_ofPart 61 = .ok (.iconst 0, 1) := by decide +kernel
theorem dX8_ofPart_62 : decode cX8_ofPart 62 = .ok (.ireturn, 1) := by decide +kernel
theorem dX8_ofPart_63 : decode cX8_ofPart 63 = .ok (.bipush 10, 2) := by decide +kernel
theorem dX8_ofPart_65 : decode cX8_ofPart 65 = .ok (.iload_n 1, 1) := by decide +kernel
theorem dX8_ofPart_66 : decode cX8_ofPart 66 = .ok (.imul, 1) := by decide +kernel
theorem dX8_ofPart_67 : decode cX8_ofPart 67 = .ok (.iload_n 2, 1) := by decide +kernel
theorem dX8_ofPart_68 : decode cX8_ofPart 68 = .ok (.iadd, 1) := by decide +kernel
theorem dX8_ofPart_69 : decode cX8_ofPart 69 = .ok (.istore 5, 2) := by decide +kernel
theorem dX8_ofPart_71 : decode cX8_ofPart 71 = .ok (.iload_n 3, 1) := by decide +kernel
theorem dX8_ofPart_72 : decode cX8_ofPart 72 = .ok (.ifCond .ne 13, 3) := by decide +kernel
theorem dX8_ofPart_75 : decode cX8_ofPart 75 = .ok (.aload_n 0, 1) := by decide +kernel
theorem dX8_ofPart_76 : decode cX8_ofPart 76 = .ok (.getfield 38, 3) := by decide +kernel
theorem dX8_ofPart_79 : decode cX8_ofPart 79 = .ok (.iload 5, 2) := by decide +kernel
theorem dX8_ofPart_81 : decode cX8_ofPart 81 = .ok (.iaload, 1) := by decide +kernel
theorem dX8_ofPart_82 : decode cX8_ofPart 82 = .ok (.goto 48, 3) := by decide +kernel
theorem dX8_ofPart_85 : decode cX8_ofPart 85 = .ok (.iload_n 3, 1) := by decide +kernel
theorem dX8_ofPart_86 : decode cX8_ofPart 86 = .ok (.iconst 1, 1) := by decide +kernel
theorem dX8_ofPart_87 : decode cX8_ofPart 87 = .ok (.if_icmp .ne 13, 3) := by decide +kernel
theorem dX8_ofPart_90 : decode cX8_ofPart 90 = .ok (.aload_n 0, 1) := by decide +kernel
theorem dX8_ofPart_91 : decode cX8_ofPart 91 = .ok (.getfield 41, 3) := by decide +kernel
theorem dX8_ofPart_94 : decode cX8_ofPart 94 = .ok (.iload 5, 2) := by decide +kernel
theorem dX8_ofPart_96 : decode cX8_ofPart 96 = .ok (.iaload, 1) := by decide +kernel
theorem dX8_ofPart_97 : decode cX8_ofPart 97 = .ok (.goto 33, 3) := by decide +kernel
theorem dX8_ofPart_100 : decode cX8_ofPart 100 = .ok (.iload_n 3, 1) := by decide +kernel
theorem dX8_ofPart_101 : decode cX8_ofPart 101 = .ok (.iconst 2, 1) := by decide +kernel
theorem dX8_ofPart_102 : decode cX8_ofPart 102 = .ok (.if_icmp .ne 13, 3) := by decide +kernel
theorem dX8_ofPart_105 : decode cX8_ofPart 105 = .ok (.aload_n 0, 1) := by decide +kernel
theorem dX8_ofPart_106 : decode cX8_ofPart 106 = .ok (.getfield 44, 3) := by decide +kernel
theorem dX8_ofPart_109 : decode cX8_ofPart 109 = .ok (.iload 5, 2) := by decide +kernel
theorem dX8_ofPart_111 : decode cX8_ofPart 111 = .ok (.iaload, 1) := by decide +kernel
theorem dX8_ofPart_112 : decode cX8_ofPart 112 = .ok (.goto 18, 3) := by decide +kernel
theorem dX8_ofPart_115 : decode cX8_ofPart 115 = .ok (.aload_n 0, 1) := by decide +kernel
theorem dX8_ofPart_116 : decode cX8_ofPart 116 = .ok (.getfield 47, 3) := by decide +kernel
theorem dX8_ofPart_119 : decode cX8_ofPart 119 = .ok (.iload 5, 2) := by decide +kernel
theorem dX8_ofPart_121 : decode cX8_ofPart 121 = .ok (.baload, 1) := by decide +kernel
theorem dX8_ofPart_122 : decode cX8_ofPart 122 = .ok (.ifCond .eq 7, 3) := by decide +kernel
theorem dX8_ofPart_125 : decode cX8_ofPart 125 = .ok (.iconst 1, 1) := by decide +kernel
theorem dX8_ofPart_126 : decode cX8_ofPart 126 = .ok (.goto 4, 3) := by decide +kernel
theorem dX8_ofPart_129 : decode cX8_ofPart 129 = .ok (.iconst 0, 1) := by decide +kernel
theorem dX8_ofPart_130 : decode cX8_ofPart 130 = .ok (.ireturn, 1) := by decide +kernel
theorem dX8_told_0 : decode cX8_told 0 = .ok (.aload_n 0, 1) := by decide +kernel
theorem dX8_told_1 : decode cX8_told 1 = .ok (.iload_n 1, 1) := by decide +kernel
theorem dX8_told_2 : decode cX8_told 2 = .ok (.iconst 0, 1) := by decide +kernel
theorem dX8_told_3 : decode cX8_told 3 = .ok (.aload_n 0, 1) := by decide +kernel
theorem dX8_told_4 : decode cX8_told 4 = .ok (.getfield 187, 3) := by decide +kernel
theorem dX8_told_7 : decode cX8_told 7 = .ok (.iconst 1, 1) := by decide +kernel
theorem dX8_told_8 : decode cX8_told 8 = .ok (.isub, 1) := by decide +kernel
theorem dX8_told_9 : decode cX8_told 9 = .ok (.invokestatic 142, 3) := by decide +kernel
theorem dX8_told_12 : decode cX8_told 12 = .ok (.ifCond .eq 11, 3) := by decide +kernel
theorem dX8_told_15 : decode cX8_told 15 = .ok (.iload_n 2, 1) := by decide +kernel
theorem dX8_told_16 : decode cX8_told 16 = .ok (.ifCond .lt 7, 3) := by decide +kernel
theorem dX8_told_19 : decode cX8_told 19 = .ok (.iconst 0, 1) := by decide +kernel
theorem dX8_told_20 : decode cX8_told 20 = .ok (.goto 4, 3) := by decide +kernel
theorem dX8_told_23 : decode cX8_told 23 = .ok (.iconst 1, 1) := by decide +kernel
theorem dX8_told_24 : decode cX8_told 24 = .ok (.invokevirtual 152, 3) := by decide +kernel
theorem dX8_told_27 : decode cX8_told 27 = .ok (.ifCond .ne 5, 3) := by decide +kernel
theorem dX8_told_30 : decode cX8_told 30 = .ok (.iconst 0, 1) := by decide +kernel
theorem dX8_told_31 : decode cX8_told 31 = .ok (.ireturn, 1) := by decide +kernel
theorem dX8_told_32 : decode cX8_told 32 = .ok (.iload_n 2, 1) := by decide +kernel
theorem dX8_told_33 : decode cX8_told 33 = .ok (.aload_n 0, 1) := by decide +kernel
theorem dX8_told_34 : decode cX8_told 34 = .ok (.getfield 59, 3) := by decide +kernel
theorem dX8_told_37 : decode cX8_told 37 = .ok (.iload_n 1, 1) := by decide +kernel
theorem dX8_told_38 : decode cX8_told 38 = .ok (.iaload, 1) := by decide +kernel
theorem dX8_told_39 : decode cX8_told 39 = .ok (.if_icmp .ge 17, 3) := by decide +kernel
theorem dX8_told_42 : decode cX8_told 42 = .ok (.aload_n 0, 1) := by decide +kernel
theorem dX8_told_43 : decode cX8_told 43 = .ok (.getfield 62, 3) := by decide +kernel
theorem dX8_told_46 : decode cX8_told 46 = .ok (.bipush 24, 2) := by decide +kernel
theorem dX8_told_48 : decode cX8_told 48 = .ok (.iload_n 1, 1) := by decide +kernel
theorem dX8_told_49 : decode cX8_told 49 = .ok (.imul, 1) := by decide +kernel
theorem dX8_told_50 : decode cX8_told 50 = .ok (.iload_n 2, 1) := by decide +kernel
theorem dX8_told_51 : decode cX8_told 51 = .ok (.iadd, 1) := by decide +kernel
theorem dX8_told_52 : decode cX8_told 52 = .ok (.iaload, 1) := by decide +kernel
theorem dX8_told_53 : decode cX8_told 53 = .ok (.goto 4, 3) := by decide +kernel
theorem dX8_told_56 : decode cX8_told 56 = .ok (.iconst (-1), 1) := by decide +kernel
theorem dX8_told_57 : decode cX8_told 57 = .ok (.ireturn, 1) := by decide +kernel
theorem dX8_heardOf_0 : decode cX8_heardOf 0 = .ok (.iconst 0, 1) := by decide +kernel
theorem dX8_heardOf_1 : decode cX8_heardOf 1 = .ok (.istore_n 2, 1) := by decide +kernel
theorem dX8_heardOf_2 : decode cX8_heardOf 2 = .ok (.iconst 0, 1) := by decide +kernel
theorem dX8_heardOf_3 : decode cX8_heardOf 3 = .ok (.istore_n 3, 1) := by decide +kernel
theorem dX8_heardOf_4 : decode cX8_heardOf 4 = .ok (.iload_n 3, 1) := by decide +kernel
theorem dX8_heardOf_5 : decode cX8_heardOf 5 = .ok (.aload_n 0, 1) := by decide +kernel
theorem dX8_heardOf_6 : decode cX8_heardOf 6 = .ok (.getfield 146, 3) := by decide +kernel
theorem dX8_heardOf_9 : decode cX8_heardOf 9 = .ok (.if_icmp .ge 63, 3) := by decide +kernel
theorem dX8_heardOf_12 : decode cX8_heardOf 12 = .ok (.iconst 0, 1) := by decide +kernel
theorem dX8_heardOf_13 : decode cX8_heardOf 13 = .ok (.istore 4, 2) := by decide +kernel
theorem dX8_heardOf_15 : decode cX8_heardOf 15 = .ok (.iload 4, 2) := by decide +kernel
theorem dX8_heardOf_17 : decode cX8_heardOf 17 = .ok (.aload_n 0, 1) := by decide +kernel
theorem dX8_heardOf_18 : decode cX8_heardOf 18 = .ok (.getfield 104, 3) := by decide +kernel
theorem dX8_heardOf_21 : decode cX8_heardOf 21 = .ok (.iload_n 3, 1) := by decide +kernel
theorem dX8_heardOf_22 : decode cX8_heardOf 22 = .ok (.iaload, 1) := by decide +kernel
theorem dX8_heardOf_23 : decode cX8_heardOf 23 = .ok (.if_icmp .ge 43, 3) := by decide +kernel
theorem dX8_heardOf_26 : decode cX8_heardOf 26 = .ok (.iload_n 2, 1) := by decide +kernel
theorem dX8_heardOf_27 : decode cX8_heardOf 27 = .ok (.aload_n 0, 1) := by decide +kernel
theorem dX8_heardOf_28 : decode cX8_heardOf 28 = .ok (.getfield 113, 3) := by decide +kernel
theorem dX8_heardOf_31 : decode cX8_heardOf 31 = .ok (.bipush 10, 2) := by decide +kernel
theorem dX8_heardOf_33 : decode cX8_heardOf 33 = .ok (.iload_n 3, 1) := by decide +kernel
theorem dX8_heardOf_34 : decode cX8_heardOf 34 = .ok (.imul, 1) := by decide +kernel
theorem dX8_heardOf_35 : decode cX8_heardOf 35 = .ok (.iload 4, 2) := by decide +kernel
theorem dX8_heardOf_37 : decode cX8_heardOf 37 = .ok (.iadd, 1) := by decide +kernel
theorem dX8_heardOf_38 : decode cX8_heardOf 38 = .ok (.iaload, 1) := by decide +kernel
theorem dX8_heardOf_39 : decode cX8_heardOf 39 = .ok (.iload_n 1, 1) := by decide +kernel
theorem dX8_heardOf_40 : decode cX8_heardOf 40 = .ok (.if_icmp .ne 17, 3) := by decide +kernel
theorem dX8_heardOf_43 : decode cX8_heardOf 43 = .ok (.aload_n 0, 1) := by decide +kernel
theorem dX8_heardOf_44 : decode cX8_heardOf 44 = .ok (.iload_n 3, 1) := by decide +kernel
theorem dX8_heardOf_45 : decode cX8_heardOf 45 = .ok (.iload 4, 2) := by decide +kernel
theorem dX8_heardOf_47 : decode cX8_heardOf 47 = .ok (.invokevirtual 247, 3) := by decide +kernel
theorem dX8_heardOf_50 : decode cX8_heardOf 50 = .ok (.ifCond .eq 7, 3) := by decide +kernel
theorem dX8_heardOf_53 : decode cX8_heardOf 53 = .ok (.iconst 1, 1) := by decide +kernel
theorem dX8_heardOf_54 : decode cX8_heardOf 54 = .ok (.goto 4, 3) := by decide +kernel
theorem dX8_heardOf_57 : decode cX8_heardOf 57 = .ok (.iconst 0, 1) := by decide +kernel
theorem dX8_heardOf_58 : decode cX8_heardOf 58 = .ok (.iadd, 1) := by decide +kernel
theorem dX8_heardOf_59 : decode cX8_heardOf 59 = .ok (.istore_n 2, 1) := by decide +kernel
theorem dX8_heardOf_60 : decode cX8_heardOf 60 = .ok (.iinc 4 1, 3) := by decide +kernel
theorem dX8_heardOf_63 : decode cX8_heardOf 63 = .ok (.goto (-48), 3) := by decide +kernel
theorem dX8_heardOf_66 : decode cX8_heardOf 66 = .ok (.iinc 3 1, 3) := by decide +kernel
theorem dX8_heardOf_69 : decode cX8_heardOf 69 = .ok (.goto (-65), 3) := by decide +kernel
theorem dX8_heardOf_72 : decode cX8_heardOf 72 = .ok (.iload_n 2, 1) := by decide +kernel
theorem dX8_heardOf_73 : decode cX8_heardOf 73 = .ok (.ireturn, 1) := by decide +kernel
theorem dX8_ofCampaign_0 : decode cX8_ofCampaign 0 = .ok (.aload_n 0, 1) := by decide +kernel
theorem dX8_ofCampaign_1 : decode cX8_ofCampaign 1 = .ok (.iload_n 1, 1) := by decide +kernel
theorem dX8_ofCampaign_2 : decode cX8_ofCampaign 2 = .ok (.iconst 0, 1) := by decide +kernel
theorem dX8_ofCampaign_3 : decode cX8_ofCampaign 3 = .ok (.aload_n 0, 1) := by decide +kernel
theorem dX8_ofCampaign_4 : decode cX8_ofCampaign 4 = .ok (.getfield 198, 3) := by decide +kernel
theorem dX8_ofCampaign_7 : decode cX8_ofCampaign 7 = .ok (.iconst 1, 1) := by decide +kernel
theorem dX8_ofCampaign_8 : decode cX8_ofCampaign 8 = .ok (.isub, 1) := by decide +kernel
theorem dX8_ofCampaign_9 : decode cX8_ofCampaign 9 = .ok (.invokestatic 142, 3) := by decide +kernel
theorem dX8_ofCampaign_12 : decode cX8_ofCampaign 12 = .ok (.ifCond .ne 7, 3) := by decide +kernel
theorem dX8_ofCampaign_15 : decode cX8_ofCampaign 15 = .ok (.iconst 1, 1) := by decide +kernel
theorem dX8_ofCampaign_16 : decode cX8_ofCampaign 16 = .ok (.goto 17, 3) := by decide +kernel
theorem dX8_ofCampaign_19 : decode cX8_ofCampaign 19 = .ok (.iload_n 2, 1) := by decide +kernel
theorem dX8_ofCampaign_20 : decode cX8_ofCampaign 20 = .ok (.iconst 0, 1) := by decide +kernel
theorem dX8_ofCampaign_21 : decode cX8_ofCampaign 21 = .ok (.iconst 2, 1) := by decide +kernel
theorem dX8_ofCampaign_22 : decode cX8_ofCampaign 22 = .ok (.invokestatic 142, 3) := by decide +kernel
theorem dX8_ofCampaign_25 : decode cX8_ofCampaign 25 = .ok (.ifCond .eq 7, 3) := by decide +kernel
theorem dX8_ofCampaign_28 : decode cX8_ofCampaign 28 = .ok (.iconst 0, 1) := by decide +kernel
theorem dX8_ofCampaign_29 : decode cX8_ofCampaign 29 = .ok (.goto 4, 3) := by decide +kernel
theorem dX8_ofCampaign_32 : decode cX8_ofCampaign 32 = .ok (.iconst 2, 1) := by decide +kernel
theorem dX8_ofCampaign_33 : decode cX8_ofCampaign 33 = .ok (.invokevirtual 152, 3) := by decide +kernel
theorem dX8_ofCampaign_36 : decode cX8_ofCampaign 36 = .ok (.ifCond .ne 5, 3) := by decide +kernel
theorem dX8_ofCampaign_39 : decode cX8_ofCampaign 39 = .ok (.iconst 0, 1) := by decide +kernel
theorem dX8_ofCampaign_40 : decode cX8_ofCampaign 40 = .ok (.ireturn, 1) := by decide +kernel
theorem dX8_ofCampaign_41 : decode cX8_ofCampaign 41 = .ok (.iload_n 2, 1) := by decide +kernel
theorem dX8_ofCampaign_42 : decode cX8_ofCampaign 42 = .ok (.ifCond .ne 12, 3) := by decide +kernel
theorem dX8_ofCampaign_45 : decode cX8_ofCampaign 45 = .ok (.aload_n 0, 1) := by decide +kernel
theorem dX8_ofCampaign_46 : decode cX8_ofCampaign 46 = .ok (.getfield 86, 3) := by decide +kernel
theorem dX8_ofCampaign_49 : decode cX8_ofCampaign 49 = .ok (.iload_n 1, 1) := by decide +kernel
theorem dX8_ofCampaign_50 : decode cX8_ofCampaign 50 = .ok (.iaload, 1) := by decide +kernel
theorem dX8_ofCampaign_51 : decode cX8_ofCampaign 51 = .ok (.goto 21, 3) := by decide +kernel
theorem dX8_ofCampaign_54 : decode cX8_ofCampaign 54 = .ok (.iload_n 2, 1) := by decide +kernel
theorem dX8_ofCampaign_55 : decode cX8_ofCampaign 55 = .ok (.iconst 1, 1) := by decide +kernel
theorem dX8_ofCampaign_56 : decode cX8_ofCampaign 56 = .ok (.if_icmp .ne 11, 3) := by decide +kernel
theorem dX8_ofCampaign_59 : decode cX8_ofCampaign 59 = .ok (.aload_n 0, 1) := by decide +kernel
theorem dX8_ofCampaign_60 : decode cX8_ofCampaign 60 = .ok (.iload_n 1, 1) := by decide +kernel
theorem dX8_ofCampaign_61 : decode cX8_ofCampaign 61 = .ok (.invokevirtual 204, 3) := by decide +kernel
theorem dX8_ofCampaign_64 : decode cX8_ofCampaign 64 = .ok (.goto 8, 3) := by decide +kernel
theorem dX8_ofCampaign_67 : decode cX8_ofCampaign 67 = .ok (.aload_n 0, 1) := by decide +kernel
theorem dX8_ofCampaign_68 : decode cX8_ofCampaign 68 = .ok (.iload_n 1, 1) := by decide +kernel
theorem dX8_ofCampaign_69 : decode cX8_ofCampaign 69 = .ok (.invokevirtual 250, 3) := by decide +kernel
theorem dX8_ofCampaign_72 : decode cX8_ofCampaign 72 = .ok (.ireturn, 1) := by decide +kernel
theorem dX8_ofDownload_0 : decode cX8_ofDownload 0 = .ok (.aload_n 0, 1) := by decide +kernel
theorem dX8_ofDownload_1 : decode cX8_ofDownload 1 = .ok (.aload_n 0, 1) := by decide +kernel
theorem dX8_ofDownload_2 : decode cX8_ofDownload 2 = .ok (.iload_n 1, 1) := by decide +kernel
theorem dX8_ofDownload_3 : decode cX8_ofDownload 3 = .ok (.invokevirtual 214, 3) := by decide +kernel
theorem dX8_ofDownload_6 : decode cX8_ofDownload 6 = .ok (.ifCond .ne 7, 3) := by decide +kernel
theorem dX8_ofDownload_9 : decode cX8_ofDownload 9 = .ok (.iconst 1, 1) := by decide +kernel
theorem dX8_ofDownload_10 : decode cX8_ofDownload 10 = .ok (.goto 18, 3) := by decide +kernel
theorem dX8_ofDownload_13 : decode cX8_ofDownload 13 = .ok (.iload_n 2, 1) := by decide +kernel
theorem dX8_ofDownload_14 : decode cX8_ofDownload 14 = .ok (.iconst 0, 1) := by decide +kernel
theorem dX8_ofDownload_15 : decode cX8_ofDownload 15 = .ok (.bipush 6, 2) := by decide +kernel
theorem dX8_ofDownload_17 : decode cX8_ofDownload 17 = .ok (.invokestatic 142, 3) := by decide +kernel
theorem dX8_ofDownload_20 : decode cX8_ofDownload 20 = .ok (.ifCond .eq 7, 3) := by decide +kernel
theorem dX8_ofDownload_23 : decode cX8_ofDownload 23 = .ok (.iconst 0, 1) := by decide +kernel
theorem dX8_ofDownload_24 : decode cX8_ofDownload 24 = .ok (.goto 4, 3) := by decide +kernel
theorem dX8_ofDownload_27 : decode cX8_ofDownload 27 = .ok (.iconst 2, 1) := by decide +kernel
theorem dX8_ofDownload_28 : decode cX8_ofDownload 28 = .ok (.invokevirtual 152, 3) := by decide +kernel
theorem dX8_ofDownload_31 : decode cX8_ofDownload 31 = .ok (.ifCond .ne 5, 3) := by decide +kernel
theorem dX8_ofDownload_34 : decode cX8_ofDownload 34 = .ok (.iconst 0, 1) := by decide +kernel
theorem dX8_ofDownload_35 : decode cX8_ofDownload 35 = .ok (.ireturn, 1) := by decide +kernel
theorem dX8_ofDownload_36 : decode cX8_ofDownload 36 = .ok (.iload_n 2, 1) := by decide +kernel
theorem dX8_ofDownload_37 : decode cX8_ofDownload 37 = .ok (.tableswitch 81 0 5 #[39, 46, 53, 60, 67, 74], 39) := by decide +kernel
theorem dX8_ofDownload_76 : decode cX8_ofDownload 76 = .ok (.aload_n 0, 1) := by decide +kernel
theorem dX8_ofDownload_77 : decode cX8_ofDownload 77 = .ok (.getfield 95, 3) := by decide +kernel
theorem dX8_ofDownload_80 : decode cX8_ofDownload 80 = .ok (.iload_n 1, 1) := by decide +kernel
theorem dX8_ofDownload_81 : decode cX8_ofDownload 81 = .ok (.iaload, 1) := by decide +kernel
theorem dX8_ofDownload_82 : decode cX8_ofDownload 82 = .ok (.ireturn, 1) := by decide +kernel
theorem dX8_ofDownload_83 : decode cX8_ofDownload 83 = .ok (.aload_n 0, 1) := by decide +kernel
theorem dX8_ofDownload_84 : decode cX8_ofDownload 84 = .ok (.getfield 98, 3) := by decide +kernel
theorem dX8_ofDownload_87 : decode cX8_ofDownload 87 = .ok (.iload_n 1, 1) := by decide +kernel
theorem dX8_ofDownload_88 : decode cX8_ofDownload 88 = .ok (.iaload, 1) := by decide +kernel
theorem dX8_ofDownload_89 : decode cX8_ofDownload 89 = .ok (.ireturn, 1) := by decide +kernel
theorem dX8_ofDownload_90 : decode cX8_ofDownload 90 = .ok (.aload_n 0, 1) := by decide +kernel
theorem dX8_ofDownload_91 : decode cX8_ofDownload 91 = .ok (.getfield 101, 3) := by decide +kernel
theorem dX8_ofDownload_94 : decode cX8_ofDownload 94 = .ok (.iload_n 1, 1) := by decide +kernel
theorem dX8_ofDownload_95 : decode cX8_ofDownload 95 = .ok (.iaload, 1) := by decide +kernel
theorem dX8_ofDownload_96 : decode cX8_ofDownload 96 = .ok (.ireturn, 1) := by decide +kernel
theorem dX8_ofDownload_97 : decode cX8_ofDownload 97 = .ok (.aload_n 0, 1) := by decide +kernel
theorem dX8_ofDownload_98 : decode cX8_ofDownload 98 = .ok (.getfield 107, 3) := by decide +kernel
theorem dX8_ofDownload_101 : decode cX8_ofDownload 101 = .ok (.iload_n 1, 1) := by decide +kernel
theorem dX8_ofDownload_102 : decode cX8_ofDownload 102 = .ok (.iaload, 1) := by decide +kernel
theorem dX8_ofDownload_103 : decode cX8_ofDownload 103 = .ok (.ireturn, 1) := by decide +kernel
theorem dX8_ofDownload_104 : decode cX8_ofDownload 104 = .ok (.aload_n 0, 1) := by decide +kernel
theorem dX8_ofDownload_105 : decode cX8_ofDownload 105 = .ok (.getfield 116, 3) := by decide +kernel
theorem dX8_ofDownload_108 : decode cX8_ofDownload 108 = .ok (.iload_n 1, 1) := by decide +kernel
theorem dX8_ofDownload_109 : decode cX8_ofDownload 109 = .ok (.iaload, 1) := by decide +kernel
theorem dX8_ofDownload_110 : decode cX8_ofDownload 110 = .ok (.ireturn, 1) := by decide +kernel
theorem dX8_ofDownload_111 : decode cX8_ofDownload 111 = .ok (.aload_n 0, 1) := by decide +kernel
theorem dX8_ofDownload_112 : decode cX8_ofDownload 112 = .ok (.getfield 104, 3) := by decide +kernel
theorem dX8_ofDownload_115 : decode cX8_ofDownload 115 = .ok (.iload_n 1, 1) := by decide +kernel
theorem dX8_ofDownload_116 : decode cX8_ofDownload 116 = .ok (.iaload, 1) := by decide +kernel
theorem dX8_ofDownload_117 : decode cX8_ofDownload 117 = .ok (.ireturn, 1) := by decide +kernel
theorem dX8_ofDownload_118 : decode cX8_ofDownload 118 = .ok (.aload_n 0, 1) := by decide +kernel
theorem dX8_ofDownload_119 : decode cX8_ofDownload 119 = .ok (.iload_n 1, 1) := by decide +kernel
theorem dX8_ofDownload_120 : decode cX8_ofDownload 120 = .ok (.invokevirtual 253, 3) := by decide +kernel
theorem dX8_ofDownload_123 : decode cX8_ofDownload 123 = .ok (.ireturn, 1) := by decide +kernel
theorem dX8_ad_0 : decode cX8_ad 0 = .ok (.aload_n 0, 1) := by decide +kernel
theorem dX8_ad_1 : decode cX8_ad 1 = .ok (.aload_n 0, 1) := by decide +kernel
theorem dX8_ad_2 : decode cX8_ad 2 = .ok (.iload_n 1, 1) := by decide +kernel
theorem dX8_ad_3 : decode cX8_ad 3 = .ok (.invokevirtual 214, 3) := by decide +kernel
theorem dX8_ad_6 : decode cX8_ad 6 = .ok (.ifCond .eq 23, 3) := by decide +kernel
theorem dX8_ad_9 : decode cX8_ad 9 = .ok (.iload_n 2, 1) := by decide +kernel
theorem dX8_ad_10 : decode cX8_ad 10 = .ok (.iconst 0, 1) := by decide +kernel
theorem dX8_ad_11 : decode cX8_ad 11 = .ok (.aload_n 0, 1) := by decide +kernel
theorem dX8_ad_12 : decode cX8_ad 12 = .ok (.getfield 104, 3) := by decide +kernel
theorem dX8_ad_15 : decode cX8_ad 15 = .ok (.iload_n 1, 1) := by decide +kernel
theorem dX8_ad_16 : decode cX8_ad 16 = .ok (.iaload, 1) := by decide +kernel
theorem dX8_ad_17 : decode cX8_ad 17 = .ok (.iconst 1, 1) := by decide +kernel
theorem dX8_ad_18 : decode cX8_ad 18 = .ok (.isub, 1) := by decide +kernel
theorem dX8_ad_19 : decode cX8_ad 19 = .ok (.invokestatic 142, 3) := by decide +kernel
theorem dX8_ad_22 : decode cX8_ad 22 = .ok (.ifCond .eq 7, 3) := by decide +kernel
theorem dX8_ad_25 : decode cX8_ad 25 = .ok (.iconst 0, 1) := by decide +kernel
theorem dX8_ad_26 : decode cX8_ad 26 = .ok (.goto 4, 3) := by decide +kernel
theorem dX8_ad_29 : decode cX8_ad 29 = .ok (.iconst 1, 1) := by decide +kernel
theorem dX8_ad_30 : decode cX8_ad 30 = .ok (.invokevirtual 152, 3) := by decide +kernel
theorem dX8_ad_33 : decode cX8_ad 33 = .ok (.ifCond .eq 17, 3) := by decide +kernel
theorem dX8_ad_36 : decode cX8_ad 36 = .ok (.aload_n 0, 1) := by decide +kernel
theorem dX8_ad_37 : decode cX8_ad 37 = .ok (.getfield 113, 3) := by decide +kernel
theorem dX8_ad_40 : decode cX8_ad 40 = .ok (.bipush 10, 2) := by decide +kernel
theorem dX8_ad_42 : decode cX8_ad 42 = .ok (.iload_n 1, 1) := by decide +kernel
theorem dX8_ad_43 : decode cX8_ad 43 = .ok (.imul, 1) := by decide +kernel
theorem dX8_ad_44 : decode cX8_ad 44 = .ok (.iload_n 2, 1) := by decide +kernel
theorem dX8_ad_45 : decode cX8_ad 45 = .ok (.iadd, 1) := by decide +kernel
theorem dX8_ad_46 : decode cX8_ad 46 = .ok (.iaload, 1) := by decide +kernel
theorem dX8_ad_47 : decode cX8_ad 47 = .ok (.goto 4, 3) := by decide +kernel
theorem dX8_ad_50 : decode cX8_ad 50 = .ok (.iconst 0, 1) := by decide +kernel
theorem dX8_ad_51 : decode cX8_ad 51 = .ok (.ireturn, 1) := by decide +kernel
theorem dX8_loadedAnew_0 : decode cX8_loadedAnew 0 = .ok (.aload_n 0, 1) := by decide +kernel
theorem dX8_loadedAnew_1 : decode cX8_loadedAnew 1 = .ok (.aload_n 0, 1) := by decide +kernel
theorem dX8_loadedAnew_2 : decode cX8_loadedAnew 2 = .ok (.iload_n 1, 1) := by decide +kernel
theorem dX8_loadedAnew_3 : decode cX8_loadedAnew 3 = .ok (.invokevirtual 214, 3) := by decide +kernel
theorem dX8_loadedAnew_6 : decode cX8_loadedAnew 6 = .ok (.ifCond .eq 7, 3) := by decide +kernel
theorem dX8_loadedAnew_9 : decode cX8_loadedAnew 9 = .ok (.iconst 0, 1) := by decide +kernel
theorem dX8_loadedAnew_10 : decode cX8_loadedAnew 10 = .ok (.goto 4, 3) := by decide +kernel
theorem dX8_loadedAnew_13 : decode cX8_loadedAnew 13 = .ok (.iconst 1, 1) := by decide +kernel
theorem dX8_loadedAnew_14 : decode cX8_loadedAnew 14 = .ok (.invokevirtual 152, 3) := by decide +kernel
theorem dX8_loadedAnew_17 : decode cX8_loadedAnew 17 = .ok (.ifCond .ne 5, 3) := by decide +kernel
theorem dX8_loadedAnew_20 : decode cX8_loadedAnew 20 = .ok (.iconst 0, 1) := by decide +kernel
theorem dX8_loadedAnew_21 : decode cX8_loadedAnew 21 = .ok (.ireturn, 1) := by decide +kernel
theorem dX8_loadedAnew_22 : decode cX8_loadedAnew 22 = .ok (.iconst 0, 1) := by decide +kernel
theorem dX8_loadedAnew_23 : decode cX8_loadedAnew 23 = .ok (.istore_n 2, 1) := by decide +kernel
theorem dX8_loadedAnew_24 : decode cX8_loadedAnew 24 = .ok (.iconst 0, 1) := by decide +kernel
theorem dX8_loadedAnew_25 : decode cX8_loadedAnew 25 = .ok (.istore_n 3, 1) := by decide +kernel
theorem dX8_loadedAnew_26 : decode cX8_loadedAnew 26 = .ok (.iload_n 3, 1) := by decide +kernel
theorem dX8_loadedAnew_27 : decode cX8_loadedAnew 27 = .ok (.aload_n 0, 1) := by decide +kernel
theorem dX8_loadedAnew_28 : decode cX8_loadedAnew 28 = .ok (.getfield 107, 3) := by decide +kernel
theorem dX8_loadedAnew_31 : decode cX8_loadedAnew 31 = .ok (.iload_n 1, 1) := by decide +kernel
theorem dX8_loadedAnew_32 : decode cX8_loadedAnew 32 = .ok (.iaload, 1) := by decide +kernel
theorem dX8_loadedAnew_33 : decode cX8_loadedAnew 33 = .ok (.if_icmp .ge 88, 3) := by decide +kernel
theorem dX8_loadedAnew_36 : decode cX8_loadedAnew 36 = .ok (.iconst 0, 1) := by decide +kernel
theorem dX8_loadedAnew_37 : decode cX8_loadedAnew 37 = .ok (.istore 4, 2) := by decide +kernel
theorem dX8_loadedAnew_39 : decode cX8_loadedAnew 39 = .ok (.iconst 0, 1) := by decide +kernel
theorem dX8_loadedAnew_40 : decode cX8_loadedAnew 40 = .ok (.istore 5, 2) := by decide +kernel
theorem dX8_loadedAnew_42 : decode cX8_loadedAnew 42 = .ok (.iload 5, 2) := by decide +kernel
theorem dX8_loadedAnew_44 : decode cX8_loadedAnew 44 = .ok (.aload_n 0, 1) := by decide +kernel
theorem dX8_loadedAnew_45 : decode cX8_loadedAnew 45 = .ok (.getfield 217, 3) := by decide +kernel
theorem dX8_loadedAnew_48 : decode cX8_loadedAnew 48 = .ok (.if_icmp .ge 54, 3) := by decide +kernel
theorem dX8_loadedAnew_51 : decode cX8_loadedAnew 51 = .ok (.iload 4, 2) := by decide +kernel
theorem dX8_loadedAnew_53 : decode cX8_loadedAnew 53 = .ok (.ifCond .ne 36, 3) := by decide +kernel
theorem dX8_loadedAnew_56 : decode cX8_loadedAnew 56 = .ok (.aload_n 0, 1) := by decide +kernel
theorem dX8_loadedAnew_57 : decode cX8_loadedAnew 57 = .ok (.getfield 126, 3) := by decide +kernel
theorem dX8_loadedAnew_60 : decode cX8_loadedAnew 60 = .ok (.iload 5, 2) := by decide +kernel
theorem dX8_loadedAnew_62 : decode cX8_loadedAnew 62 = .ok (.iaload, 1) := by decide +kernel
theorem dX8_loadedAnew_63 : decode cX8_loadedAnew 63 = .ok (.iload_n 1, 1) := by decide +kernel
theorem dX8_loadedAnew_64 : decode cX8_loadedAnew 64 = .ok (.if_icmp .ne 29, 3) := by decide +kernel
theorem dX8_loadedAnew_67 : decode cX8_loadedAnew 67 = .ok (.aload_n 0, 1) := by decide +kernel
theorem dX8_loadedAnew_68 : decode cX8_loadedAnew 68 = .ok (.getfield 129, 3) := by decide +kernel
theorem dX8_loadedAnew_71 : decode cX8_loadedAnew 71 = .ok (.iload 5, 2) := by decide +kernel
theorem dX8_loadedAnew_73 : decode cX8_loadedAnew 73 = .ok (.iaload, 1) := by decide +kernel
theorem dX8_loadedAnew_74 : decode cX8_loadedAnew 74 = .ok (.iload_n 3, 1) := by decide +kernel
theorem dX8_loadedAnew_75 : decode cX8_loadedAnew 75 = .ok (.if_icmp .gt 18, 3) := by decide +kernel
theorem dX8_loadedAnew_78 : decode cX8_loadedAnew 78 = .ok (.iload_n 3, 1) := by decide +kernel
theorem dX8_loadedAnew_79 : decode cX8_loadedAnew 79 = .ok (.aload_n 0, 1) := by decide +kernel
theorem dX8_loadedAnew_80 : decode cX8_loadedAnew 80 = .ok (.getfield 132, 3) := by decide +kernel
theorem dX8_loadedAnew_83 : decode cX8_loadedAnew 83 = .ok (.iload 5, 2) := by decide +kernel
theorem dX8_loadedAnew_85 : decode cX8_loadedAnew 85 = .ok (.iaload, 1) := by decide +kernel
theorem dX8_loadedAnew_86 : decode cX8_loadedAnew 86 = .ok (.if_icmp .ge 7, 3) := by decide +kernel
theorem dX8_loadedAnew_89 : decode cX8_loadedAnew 89 = .ok (.iconst 1, 1) := by decide +kernel
theorem dX8_loadedAnew_90 : decode cX8_loadedAnew 90 = .ok (.goto 4, 3) := by decide +kernel
theorem dX8_loadedAnew_93 : decode cX8_loadedAnew 93 = .ok (.iconst 0, 1) := by decide +kernel
theorem dX8_loadedAnew_94 : decode cX8_loadedAnew 94 = .ok (.istore 4, 2) := by decide +kernel
theorem dX8_loadedAnew_96 : decode cX8_loadedAnew 96 = .ok (.iinc 5 1, 3) := by decide +kernel
theorem dX8_loadedAnew_99 : decode cX8_loadedAnew 99 = .ok (.goto (-57), 3) := by decide +kernel
theorem dX8_loadedAnew_102 : decode cX8_loadedAnew 102 = .ok (.iload_n 2, 1) := by decide +kernel
theorem dX8_loadedAnew_103 : decode cX8_loadedAnew 103 = .ok (.iload 4, 2) := by decide +kernel
theorem dX8_loadedAnew_105 : decode cX8_loadedAnew 105 = .ok (.ifCond .eq 7, 3) := by decide +kernel
theorem dX8_loadedAnew_108 : decode cX8_loadedAnew 108 = .ok (.iconst 1, 1) := by decide +kernel
theorem dX8_loadedAnew_109 : decode cX8_loadedAnew 109 = .ok (.goto 4, 3) := by decide +kernel
theorem dX8_loadedAnew_112 : decode cX8_loadedAnew 112 = .ok (.iconst 0, 1) := by decide +kernel
theorem dX8_loadedAnew_113 : decode cX8_loadedAnew 113 = .ok (.iadd, 1) := by decide +kernel
theorem dX8_loadedAnew_114 : decode cX8_loadedAnew 114 = .ok (.istore_n 2, 1) := by decide +kernel
theorem dX8_loadedAnew_115 : decode cX8_loadedAnew 115 = .ok (.iinc 3 1, 3) := by decide +kernel
theorem dX8_loadedAnew_118 : decode cX8_loadedAnew 118 = .ok (.goto (-92), 3) := by decide +kernel
theorem dX8_loadedAnew_121 : decode cX8_loadedAnew 121 = .ok (.iload_n 2, 1) := by decide +kernel
theorem dX8_loadedAnew_122 : decode cX8_loadedAnew 122 = .ok (.ireturn, 1) := by decide +kernel
theorem dX8_judge_0 : decode cX8_judge 0 = .ok (.iconst 0, 1) := by decide +kernel
theorem dX8_judge_1 : decode cX8_judge 1 = .ok (.istore_n 1, 1) := by decide +kernel
theorem dX8_judge_2 : decode cX8_judge 2 = .ok (.iload_n 1, 1) := by decide +kernel
theorem dX8_judge_3 : decode cX8_judge 3 = .ok (.aload_n 0, 1) := by decide +kernel
theorem dX8_judge_4 : decode cX8_judge 4 = .ok (.getfield 146, 3) := by decide +kernel
theorem dX8_judge_7 : decode cX8_judge 7 = .ok (.if_icmp .ge 153, 3) := by decide +kernel
theorem dX8_judge_10 : decode cX8_judge 10 = .ok (.aload_n 0, 1) := by decide +kernel
theorem dX8_judge_11 : decode cX8_judge 11 = .ok (.getfield 107, 3) := by decide +kernel
theorem dX8_judge_14 : decode cX8_judge 14 = .ok (.iload_n 1, 1) := by decide +kernel
theorem dX8_judge_15 : decode cX8_judge 15 = .ok (.iaload, 1) := by decide +kernel
theorem dX8_judge_16 : decode cX8_judge 16 = .ok (.bipush 60, 2) := by decide +kernel
theorem dX8_judge_18 : decode cX8_judge 18 = .ok (.if_icmp .ge 12, 3) := by decide +kernel
theorem dX8_judge_21 : decode cX8_judge 21 = .ok (.aload_n 0, 1) := by decide +kernel
theorem dX8_judge_22 : decode cX8_judge 22 = .ok (.getfield 107, 3) := by decide +kernel
theorem dX8_judge_25 : decode cX8_judge 25 = .ok (.iload_n 1, 1) := by decide +kernel
theorem dX8_judge_26 : decode cX8_judge 26 = .ok (.iaload, 1) := by decide +kernel
theorem dX8_judge_27 : decode cX8_judge 27 = .ok (.goto 5, 3) := by decide +kernel
theorem dX8_judge_30 : decode cX8_judge 30 = .ok (.bipush 60, 2) := by decide +kernel
theorem dX8_judge_32 : decode cX8_judge 32 = .ok (.istore_n 2, 1) := by decide +kernel
theorem dX8_judge_33 : decode cX8_judge 33 = .ok (.aload_n 0, 1) := by decide +kernel
theorem dX8_judge_34 : decode cX8_judge 34 = .ok (.getfield 89, 3) := by decide +kernel
theorem dX8_judge_37 : decode cX8_judge 37 = .ok (.aload_n 0, 1) := by decide +kernel
theorem dX8_judge_38 : decode cX8_judge 38 = .ok (.getfield 95, 3) := by decide +kernel
theorem dX8_judge_41 : decode cX8_judge 41 = .ok (.iload_n 1, 1) := by decide +kernel
theorem dX8_judge_42 : decode cX8_judge 42 = .ok (.iaload, 1) := by decide +kernel
theorem dX8_judge_43 : decode cX8_judge 43 = .ok (.baload, 1) := by decide +kernel
theorem dX8_judge_44 : decode cX8_judge 44 = .ok (.ifCond .ne 26, 3) := by decide +kernel
theorem dX8_judge_47 : decode cX8_judge 47 = .ok (.aload_n 0, 1) := by decide +kernel
theorem dX8_judge_48 : decode cX8_judge 48 = .ok (.getfield 116, 3) := by decide +kernel
theorem dX8_judge_51 : decode cX8_judge 51 = .ok (.iload_n 1, 1) := by decide +kernel
theorem dX8_judge_52 : decode cX8_judge 52 = .ok (.iaload, 1) := by decide +kernel
theorem dX8_judge_53 : decode cX8_judge 53 = .ok (.ifCond .le 17, 3) := by decide +kernel
theorem dX8_judge_56 : decode cX8_judge 56 = .ok (.aload_n 0, 1) := by decide +kernel
theorem dX8_judge_57 : decode cX8_judge 57 = .ok (.getfield 116, 3) := by decide +kernel
theorem dX8_judge_60 : decode cX8_judge 60 = .ok (.iload_n 1, 1) := by decide +kernel
theorem dX8_judge_61 : decode cX8_judge 61 = .ok (.iaload, 1) := by decide +kernel
theorem dX8_judge_62 : decode cX8_judge 62 = .ok (.iload_n 2, 1) := by decide +kernel
theorem dX8_judge_63 : decode cX8_judge 63 = .ok (.if_icmp .lt 7, 3) := by decide +kernel
theorem dX8_judge_66 : decode cX8_judge 66 = .ok (.iconst 1, 1) := by decide +kernel
theorem dX8_judge_67 : decode cX8_judge 67 = .ok (.goto 4, 3) := by decide +kernel
theorem dX8_judge_70 : decode cX8_judge 70 = .ok (.iconst 0, 1) := by decide +kernel
theorem dX8_judge_71 : decode cX8_judge 71 = .ok (.istore_n 3, 1) := by decide +kernel
theorem dX8_judge_72 : decode cX8_judge 72 = .ok (.iconst 0, 1) := by decide +kernel
theorem dX8_judge_73 : decode cX8_judge 73 = .ok (.istore 4, 2) := by decide +kernel
theorem dX8_judge_75 : decode cX8_judge 75 = .ok (.iload 4, 2) := by decide +kernel
theorem dX8_judge_77 : decode cX8_judge 77 = .ok (.iload_n 1, 1) := by decide +kernel
theorem dX8_judge_78 : decode cX8_judge 78 = .ok (.if_icmp .ge 69, 3) := by decide +kernel
theorem dX8_judge_81 : decode cX8_judge 81 = .ok (.iload_n 3, 1) := by decide +kernel
theorem dX8_judge_82 : decode cX8_judge 82 = .ok (.ifCond .eq 57, 3) := by decide +kernel
theorem dX8_judge_85 : decode cX8_judge 85 = .ok (.aload_n 0, 1) := by decide +kernel
theorem dX8_judge_86 : decode cX8_judge 86 = .ok (.getfield 123, 3) := by decide +kernel
theorem dX8_judge_89 : decode cX8_judge 89 = .ok (.iload 4, 2) := by decide +kernel
theorem dX8_judge_91 : decode cX8_judge 91 = .ok (.baload, 1) := by decide +kernel
theorem dX8_judge_92 : decode cX8_judge 92 = .ok (.ifCond .eq 43, 3) := by decide +kernel
theorem dX8_judge_95 : decode cX8_judge 95 = .ok (.aload_n 0, 1) := by decide +kernel
theorem dX8_judge_96 : decode cX8_judge 96 = .ok (.iload 4, 2) := by decide +kernel
theorem dX8_judge_98 : decode cX8_judge 98 = .ok (.aload_n 0, 1) := by decide +kernel
theorem dX8_judge_99 : decode cX8_judge 99 = .ok (.getfield 98, 3) := by decide +kernel
theorem dX8_judge_102 : decode cX8_judge 102 = .ok (.iload_n 1, 1) := by decide +kernel
theorem dX8_judge_103 : decode cX8_judge 103 = .ok (.iaload, 1) := by decide +kernel
theorem dX8_judge_104 : decode cX8_judge 104 = .ok (.aload_n 0, 1) := by decide +kernel
theorem dX8_judge_105 : decode cX8_judge 105 = .ok (.getfield 95, 3) := by decide +kernel
theorem dX8_judge_108 : decode cX8_judge 108 = .ok (.iload_n 1, 1) := by decide +kernel
theorem dX8_judge_109 : decode cX8_judge 109 = .ok (.iaload, 1) := by decide +kernel
theorem dX8_judge_110 : decode cX8_judge 110 = .ok (.invokevirtual 226, 3) := by decide +kernel
theorem dX8_judge_113 : decode cX8_judge 113 = .ok (.ifCond .eq 22, 3) := by decide +kernel
theorem dX8_judge_116 : decode cX8_judge 116 = .ok (.aload_n 0, 1) := by decide +kernel
theorem dX8_judge_117 : decode cX8_judge 117 = .ok (.getfield 101, 3) := by decide +kernel
theorem dX8_judge_120 : decode cX8_judge 120 = .ok (.iload_n 1, 1) := by decide +kernel
theorem dX8_judge_121 : decode cX8_judge 121 = .ok (.iaload, 1) := by decide +kernel
theorem dX8_judge_122 : decode cX8_judge 122 = .ok (.aload_n 0, 1) := by decide +kernel
theorem dX8_judge_123 : decode cX8_judge 123 = .ok (.getfield 101, 3) := by decide +kernel
theorem dX8_judge_126 : decode cX8_judge 126 = .ok (.iload 4, 2) := by decide +kernel
theorem dX8_judge_128 : decode cX8_judge 128 = .ok (.iaload, 1) := by decide +kernel
theorem dX8_judge_129 : decode cX8_judge 129 = .ok (.isub, 1) := by decide +kernel
theorem dX8_judge_130 : decode cX8_judge 130 = .ok (.bipush 23, 2) := by decide +kernel
theorem dX8_judge_132 : decode cX8_judge 132 = .ok (.if_icmp .le 7, 3) := by decide +kernel
theorem dX8_judge_135 : decode cX8_judge 135 = .ok (.iconst 1, 1) := by decide +kernel
theorem dX8_judge_136 : decode cX8_judge 136 = .ok (.goto 4, 3) := by decide +kernel
theorem dX8_judge_139 : decode cX8_judge 139 = .ok (.iconst 0, 1) := by decide +kernel
theorem dX8_judge_140 : decode cX8_judge 140 = .ok (.istore_n 3, 1) := by decide +kernel
theorem dX8_judge_141 : decode cX8_judge 141 = .ok (.iinc 4 1, 3) := by decide +kernel
theorem dX8_judge_144 : decode cX8_judge 144 = .ok (.goto (-69), 3) := by decide +kernel
theorem dX8_judge_147 : decode cX8_judge 147 = .ok (.aload_n 0, 1) := by decide +kernel
theorem dX8_judge_148 : decode cX8_judge 148 = .ok (.getfield 123, 3) := by decide +kernel
theorem dX8_judge_151 : decode cX8_judge 151 = .ok (.iload_n 1, 1) := by decide +kernel
theorem dX8_judge_152 : decode cX8_judge 152 = .ok (.iload_n 3, 1) := by decide +kernel
theorem dX8_judge_153 : decode cX8_judge 153 = .ok (.bastore, 1) := by decide +kernel
theorem dX8_judge_154 : decode cX8_judge 154 = .ok (.iinc 1 1, 3) := by decide +kernel
theorem dX8_judge_157 : decode cX8_judge 157 = .ok (.goto (-155), 3) := by decide +kernel
theorem dX8_judge_160 : decode cX8_judge 160 = .ok (.return_, 1) := by decide +kernel
theorem dX8_counts_0 : decode cX8_counts 0 = .ok (.aload_n 0, 1) := by decide +kernel
theorem dX8_counts_1 : decode cX8_counts 1 = .ok (.aload_n 0, 1) := by decide +kernel
theorem dX8_counts_2 : decode cX8_counts 2 = .ok (.iload_n 1, 1) := by decide +kernel
theorem dX8_counts_3 : decode cX8_counts 3 = .ok (.invokevirtual 214, 3) := by decide +kernel
theorem dX8_counts_6 : decode cX8_counts 6 = .ok (.ifCond .ne 7, 3) := by decide +kernel
theorem dX8_counts_9 : decode cX8_counts 9 = .ok (.iconst 1, 1) := by decide +kernel
theorem dX8_counts_10 : decode cX8_counts 10 = .ok (.goto 17, 3) := by decide +kernel
theorem dX8_counts_13 : decode cX8_counts 13 = .ok (.iload_n 2, 1) := by decide +kernel
theorem dX8_counts_14 : decode cX8_counts 14 = .ok (.iconst 0, 1) := by decide +kernel
theorem dX8_counts_15 : decode cX8_counts 15 = .ok (.iconst 1, 1) := by decide +kernel
theorem dX8_counts_16 : decode cX8_counts 16 = .ok (.invokestatic 142, 3) := by decide +kernel
theorem dX8_counts_19 : decode cX8_counts 19 = .ok (.ifCond .eq 7, 3) := by decide +kernel
theorem dX8_counts_22 : decode cX8_counts 22 = .ok (.iconst 0, 1) := by decide +kernel
theorem dX8_counts_23 : decode cX8_counts 23 = .ok (.goto 4, 3) := by decide +kernel
theorem dX8_counts_26 : decode cX8_counts 26 = .ok (.iconst 2, 1) := by decide +kernel
theorem dX8_counts_27 : decode cX8_counts 27 = .ok (.invokevirtual 152, 3) := by decide +kernel
theorem dX8_counts_30 : decode cX8_counts 30 = .ok (.ifCond .ne 5, 3) := by decide +kernel
theorem dX8_counts_33 : decode cX8_counts 33 = .ok (.iconst 0, 1) := by decide +kernel
theorem dX8_counts_34 : decode cX8_counts 34 = .ok (.ireturn, 1) := by decide +kernel
theorem dX8_counts_35 : decode cX8_counts 35 = .ok (.aload_n 0, 1) := by decide +kernel
theorem dX8_counts_36 : decode cX8_counts 36 = .ok (.invokevirtual 256, 3) := by decide +kernel
theorem dX8_counts_39 : decode cX8_counts 39 = .ok (.iload_n 2, 1) := by decide +kernel
theorem dX8_counts_40 : decode cX8_counts 40 = .ok (.ifCond .ne 20, 3) := by decide +kernel
theorem dX8_counts_43 : decode cX8_counts 43 = .ok (.aload_n 0, 1) := by decide +kernel
theorem dX8_counts_44 : decode cX8_counts 44 = .ok (.getfield 116, 3) := by decide +kernel
theorem dX8_counts_47 : decode cX8_counts 47 = .ok (.iload_n 1, 1) := by decide +kernel
theorem dX8_counts_48 : decode cX8_counts 48 = .ok (.iaload, 1) := by decide +kernel
theorem dX8_counts_49 : decode cX8_counts 49 = .ok (.ifCond .le 7, 3) := by decide +kernel
theorem dX8_counts_52 : decode cX8_counts 52 = .ok (.iconst 1, 1) := by decide +kernel
theorem dX8_counts_53 : decode cX8_counts 53 = .ok (.goto 13, 3) := by decide +kernel
theorem dX8_counts_56 : decode cX8_counts 56 = .ok (.iconst 0, 1) := by decide +kernel
theorem dX8_counts_57 : decode cX8_counts 57 = .ok (.goto 9, 3) := by decide +kernel
theorem dX8_counts_60 : decode cX8_counts 60 = .ok (.aload_n 0, 1) := by decide +kernel
theorem dX8_counts_61 : decode cX8_counts 61 = .ok (.getfield 123, 3) := by decide +kernel
theorem dX8_counts_64 : decode cX8_counts 64 = .ok (.iload_n 1, 1) := by decide +kernel
theorem dX8_counts_65 : decode cX8_counts 65 = .ok (.baload, 1) := by decide +kernel
theorem dX8_counts_66 : decode cX8_counts 66 = .ok (.ireturn, 1) := by decide +kernel
theorem dX8_count_0 : decode cX8_count 0 = .ok (.aload_n 0, 1) := by decide +kernel
theorem dX8_count_1 : decode cX8_count 1 = .ok (.aload_n 0, 1) := by decide +kernel
theorem dX8_count_2 : decode cX8_count 2 = .ok (.iload_n 1, 1) := by decide +kernel
theorem dX8_count_3 : decode cX8_count 3 = .ok (.invokevirtual 180, 3) := by decide +kernel
theorem dX8_count_6 : decode cX8_count 6 = .ok (.ifCond .ne 7, 3) := by decide +kernel
theorem dX8_count_9 : decode cX8_count 9 = .ok (.iconst 1, 1) := by decide +kernel
theorem dX8_count_10 : decode cX8_count 10 = .ok (.goto 17, 3) := by decide +kernel
theorem dX8_count_13 : decode cX8_count 13 = .ok (.iload_n 2, 1) := by decide +kernel
theorem dX8_count_14 : decode cX8_count 14 = .ok (.iconst 0, 1) := by decide +kernel
theorem dX8_count_15 : decode cX8_count 15 = .ok (.iconst 1, 1) := by decide +kernel
theorem dX8_count_16 : decode cX8_count 16 = .ok (.invokestatic 142, 3) := by decide +kernel
theorem dX8_count_19 : decode cX8_count 19 = .ok (.ifCond .eq 7, 3) := by decide +kernel
theorem dX8_count_22 : decode cX8_count 22 = .ok (.iconst 0, 1) := by decide +kernel
theorem dX8_count_23 : decode cX8_count 23 = .ok (.goto 4, 3) := by decide +kernel
theorem dX8_count_26 : decode cX8_count 26 = .ok (.iconst 2, 1) := by decide +kernel
theorem dX8_count_27 : decode cX8_count 27 = .ok (.invokevirtual 152, 3) := by decide +kernel
theorem dX8_count_30 : decode cX8_count 30 = .ok (.ifCond .ne 5, 3) := by decide +kernel
theorem dX8_count_33 : decode cX8_count 33 = .ok (.iconst 0, 1) := by decide +kernel
theorem dX8_count_34 : decode cX8_count 34 = .ok (.ireturn, 1) := by decide +kernel
theorem dX8_count_35 : decode cX8_count 35 = .ok (.aload_n 0, 1) := by decide +kernel
theorem dX8_count_36 : decode cX8_count 36 = .ok (.invokevirtual 256, 3) := by decide +kernel
theorem dX8_count_39 : decode cX8_count 39 = .ok (.iconst 0, 1) := by decide +kernel
theorem dX8_count_40 : decode cX8_count 40 = .ok (.istore_n 3, 1) := by decide +kernel
theorem dX8_count_41 : decode cX8_count 41 = .ok (.iconst 0, 1) := by decide +kernel
theorem dX8_count_42 : decode cX8_count 42 = .ok (.istore 4, 2) := by decide +kernel
theorem dX8_count_44 : decode cX8_count 44 = .ok (.iload 4, 2) := by decide +kernel
theorem dX8_count_46 : decode cX8_count 46 = .ok (.aload_n 0, 1) := by decide +kernel
theorem dX8_count_47 : decode cX8_count 47 = .ok (.getfield 146, 3) := by decide +kernel
theorem dX8_count_50 : decode cX8_count 50 = .ok (.if_icmp .ge 55, 3) := by decide +kernel
theorem dX8_count_53 : decode cX8_count 53 = .ok (.iload_n 3, 1) := by decide +kernel
theorem dX8_count_54 : decode cX8_count 54 = .ok (.aload_n 0, 1) := by decide +kernel
theorem dX8_count_55 : decode cX8_count 55 = .ok (.getfield 98, 3) := by decide +kernel
theorem dX8_count_58 : decode cX8_count 58 = .ok (.iload 4, 2) := by decide +kernel
theorem dX8_count_60 : decode cX8_count 60 = .ok (.iaload, 1) := by decide +kernel
theorem dX8_count_61 : decode cX8_count 61 = .ok (.iload_n 1, 1) := by decide +kernel
theorem dX8_count_62 : decode cX8_count 62 = .ok (.if_icmp .ne 34, 3) := by decide +kernel
theorem dX8_count_65 : decode cX8_count 65 = .ok (.iload_n 2, 1) := by decide +kernel
theorem dX8_count_66 : decode cX8_count 66 = .ok (.ifCond .ne 16, 3) := by decide +kernel
theorem dX8_count_69 : decode cX8_count 69 = .ok (.aload_n 0, 1) := by decide +kernel
theorem dX8_count_70 : decode cX8_count 70 = .ok (.getfield 116, 3) := by decide +kernel
theorem dX8_count_73 : decode cX8_count 73 = .ok (.iload 4, 2) := by decide +kernel
theorem dX8_count_75 : decode cX8_count 75 = .ok (.iaload, 1) := by decide +kernel
theorem dX8_count_76 : decode cX8_count 76 = .ok (.ifCond .le 20, 3) := by decide +kernel
theorem dX8_count_79 : decode cX8_count 79 = .ok (.goto 13, 3) := by decide +kernel
theorem dX8_count_82 : decode cX8_count 82 = .ok (.aload_n 0, 1) := by decide +kernel
theorem dX8_count_83 : decode cX8_count 83 = .ok (.getfield 123, 3) := by decide +kernel
theorem dX8_count_86 : decode cX8_count 86 = .ok (.iload 4, 2) := by decide +kernel
theorem dX8_count_88 : decode cX8_count 88 = .ok (.baload, 1) := by decide +kernel
theorem dX8_count_89 : decode cX8_count 89 = .ok (.ifCond .eq 7, 3) := by decide +kernel
theorem dX8_count_92 : decode cX8_count 92 = .ok (.iconst 1, 1) := by decide +kernel
theorem dX8_count_93 : decode cX8_count 93 = .ok (.goto 4, 3) := by decide +kernel
theorem dX8_count_96 : decode cX8_count 96 = .ok (.iconst 0, 1) := by decide +kernel
theorem dX8_count_97 : decode cX8_count 97 = .ok (.iadd, 1) := by decide +kernel
theorem dX8_count_98 : decode cX8_count 98 = .ok (.istore_n 3, 1) := by decide +kernel
theorem dX8_count_99 : decode cX8_count 99 = .ok (.iinc 4 1, 3) := by decide +kernel
theorem dX8_count_102 : decode cX8_count 102 = .ok (.goto (-58), 3) := by decide +kernel
theorem dX8_count_105 : decode cX8_count 105 = .ok (.iload_n 3, 1) := by decide +kernel
theorem dX8_count_106 : decode cX8_count 106 = .ok (.ireturn, 1) := by decide +kernel
theorem dX8_isOwed_0 : decode cX8_isOwed 0 = .ok (.aload_n 0, 1) := by decide +kernel
theorem dX8_isOwed_1 : decode cX8_isOwed 1 = .ok (.aload_n 0, 1) := by decide +kernel
theorem dX8_isOwed_2 : decode cX8_isOwed 2 = .ok (.iload_n 1, 1) := by decide +kernel
theorem dX8_isOwed_3 : decode cX8_isOwed 3 = .ok (.invokevirtual 180, 3) := by decide +kernel
theorem dX8_isOwed_6 : decode cX8_isOwed 6 = .ok (.ifCond .eq 17, 3) := by decide +kernel
theorem dX8_isOwed_9 : decode cX8_isOwed 9 = .ok (.iload_n 2, 1) := by decide +kernel
theorem dX8_isOwed_10 : decode cX8_isOwed 10 = .ok (.iconst 0, 1) := by decide +kernel
theorem dX8_isOwed_11 : decode cX8_isOwed 11 = .ok (.bipush 9, 2) := by decide +kernel
theorem dX8_isOwed_13 : decode cX8_isOwed 13 = .ok (.invokestatic 142, 3) := by decide +kernel
theorem dX8_isOwed_16 : decode cX8_isOwed 16 = .ok (.ifCond .eq 7, 3) := by decide +kernel
theorem dX8_isOwed_19 : decode cX8_isOwed 19 = .ok (.iconst 0, 1) := by decide +kernel
theorem dX8_isOwed_20 : decode cX8_isOwed 20 = .ok (.goto 4, 3) := by decide +kernel
theorem dX8_isOwed_23 : decode cX8_isOwed 23 = .ok (.iconst 1, 1) := by decide +kernel
theorem dX8_isOwed_24 : decode cX8_isOwed 24 = .ok (.invokevirtual 152, 3) := by decide +kernel
theorem dX8_isOwed_27 : decode cX8_isOwed 27 = .ok (.ifCond .eq 16, 3) := by decide +kernel
theorem dX8_isOwed_30 : decode cX8_isOwed 30 = .ok (.aload_n 0, 1) := by decide +kernel
theorem dX8_isOwed_31 : decode cX8_isOwed 31 = .ok (.iload_n 1, 1) := by decide +kernel
theorem dX8_isOwed_32 : decode cX8_isOwed 32 = .ok (.iload_n 2, 1) := by decide +kernel
theorem dX8_isOwed_33 : decode cX8_isOwed 33 = .ok (.invokevirtual 238, 3) := by decide +kernel
theorem dX8_isOwed_36 : decode cX8_isOwed 36 = .ok (.ifCond .eq 7, 3) := by decide +kernel
theorem dX8_isOwed_39 : decode cX8_isOwed 39 = .ok (.iconst 1, 1) := by decide +kernel
theorem dX8_isOwed_40 : decode cX8_isOwed 40 = .ok (.goto 4, 3) := by decide +kernel
theorem dX8_isOwed_43 : decode cX8_isOwed 43 = .ok (.iconst 0, 1) := by decide +kernel
theorem dX8_isOwed_44 : decode cX8_isOwed 44 = .ok (.ireturn, 1) := by decide +kernel
