theorem q169 : Cond.methodLink RX10 1 objectInit ∈ wsL_law := mT_6 (List.mem_of_getElem? (i := 89) rfl) rfl
theorem q170 : Cond.arrayClass .long ∈ wsL_law := mT_7 (List.mem_of_getElem? (i := 160) rfl) rfl
theorem q171 : Cond.constantLong RX10 7 (427595) ∈ wsL_law := mT_6 (List.mem_of_getElem? (i := 90) rfl) rfl
theorem q172 : Cond.constantLong RX10 9 (99724) ∈ wsL_law := mT_6 (List.mem_of_getElem? (i := 91) rfl) rfl
theorem q173 : Cond.constantLong RX10 11 (18935) ∈ wsL_law := mT_6 (List.mem_of_getElem? (i := 92) rfl) rfl
theorem q174 : Cond.constantLong RX10 13 (474565) ∈ wsL_law := mT_6 (List.mem_of_getElem? (i := 93) rfl) rfl
theorem q175 : Cond.constantLong RX10 15 (609900110) ∈ wsL_law := mT_6 (List.mem_of_getElem? (i := 94) rfl) rfl
theorem q176 : Cond.constantLong RX10 17 (294) ∈ wsL_law := mT_6 (List.mem_of_getElem? (i := 95) rfl) rfl
theorem q177 : Cond.constantLong RX10 19 (176741) ∈ wsL_law := mT_6 (List.mem_of_getElem? (i := 96) rfl) rfl
theorem q178 : Cond.constantLong RX10 21 (409072) ∈ wsL_law := mT_6 (List.mem_of_getElem? (i := 97) rfl) rfl
theorem q179 : Cond.constantLong RX10 23 (12748485) ∈ wsL_law := mT_6 (List.mem_of_getElem? (i := 98) rfl) rfl
theorem q180 : Cond.constantLong RX10 25 (464660) ∈ wsL_law := mT_6 (List.mem_of_getElem? (i := 99) rfl) rfl
theorem q181 : Cond.constantLong RX10 27 (21252599) ∈ wsL_law := mT_6 (List.mem_of_getElem? (i := 100) rfl) rfl
theorem q182 : Cond.constantLong RX10 29 (772144) ∈ wsL_law := mT_6 (List.mem_of_getElem? (i := 101) rfl) rfl
theorem q183 : Cond.constantLong RX10 31 (1279278) ∈ wsL_law := mT_6 (List.mem_of_getElem? (i := 102) rfl) rfl
theorem q184 : Cond.constantLong RX10 33 (8029764) ∈ wsL_law := mT_6 (List.mem_of_getElem? (i := 103) rfl) rfl
theorem q185 : Cond.constantLong RX10 35 (763528) ∈ wsL_law := mT_6 (List.mem_of_getElem? (i := 104) rfl) rfl
theorem q186 : Cond.constantLong RX10 37 (3199080) ∈ wsL_law := mT_6 (List.mem_of_getElem? (i := 105) rfl) rfl
theorem q187 : Cond.constantLong RX10 39 (6759166361) ∈ wsL_law := mT_6 (List.mem_of_getElem? (i := 106) rfl) rfl
theorem q188 : Cond.constantLong RX10 41 (632645) ∈ wsL_law := mT_6 (List.mem_of_getElem? (i := 107) rfl) rfl
theorem q189 : Cond.constantLong RX10 43 (370116) ∈ wsL_law := mT_6 (List.mem_of_getElem? (i := 108) rfl) rfl
theorem q190 : Cond.constantLong RX10 45 (22483122) ∈ wsL_law := mT_6 (List.mem_of_getElem? (i := 109) rfl) rfl
theorem q191 : Cond.constantLong RX10 47 (442114532) ∈ wsL_law := mT_6 (List.mem_of_getElem? (i := 110) rfl) rfl
theorem q193 : Cond.arrayClass .byte ∈ wsL_law := mT_4 (List.mem_of_getElem? (i := 161) rfl) rfl
theorem q221 : Cond.arrayClass .boolean ∈ wsL_law := mT_7 (List.mem_of_getElem? (i := 161) rfl) rfl
theorem dX10_init_0 : decode cX10_init 0 = .ok (.aload_n 0, 1) := by decide +kernel
theorem dX10_init_1 : decode cX10_init 1 = .ok (.invokespecial 1, 3) := by decide +kernel
theorem dX10_init_4 : decode cX10_init 4 = .ok (.aload_n 0, 1) := by decide +kernel
theorem dX10_init_5 : decode cX10_init 5 = .ok (.bipush 21, 2) := by decide +kernel
theorem dX10_init_7 : decode cX10_init 7 = .ok (.newarray .long, 2) := by decide +kernel
theorem dX10_init_9 : decode cX10_init 9 = .ok (.dup, 1) := by decide +kernel
theorem dX10_init_10 : decode cX10_init 10 = .ok (.iconst 0, 1) := by decide +kernel
theorem dX10_init_11 : decode cX10_init 11 = .ok (.ldc2_w 7, 3) := by decide +kernel
theorem dX10_init_14 : decode cX10_init 14 = .ok (.lastore, 1) := by decide +kernel
theorem dX10_init_15 : decode cX10_init 15 = .ok (.dup, 1) := by decide +kernel
theorem dX10_init_16 : decode cX10_init 16 = .ok (.iconst 1, 1) := by decide +kernel
theorem dX10_init_17 : decode cX10_init 17 = .ok (.ldc2_w 9, 3) := by decide +kernel
theorem dX10_init_20 : decode cX10_init 20 = .ok (.lastore, 1) := by decide +kernel
theorem dX10_init_21 : decode cX10_init 21 = .ok (.dup, 1) := by decide +kernel
theorem dX10_init_22 : decode cX10_init 22 = .ok (.iconst 2, 1) := by decide +kernel
theorem dX10_init_23 : decode cX10_init 23 = .ok (.ldc2_w 11, 3) := by decide +kernel
theorem dX10_init_26 : decode cX10_init 26 = .ok (.lastore, 1) := by decide +kernel
theorem dX10_init_27 : decode cX10_init 27 = .ok (.dup, 1) := by decide +kernel
theorem dX10_init_28 : decode cX10_init 28 = .ok (.iconst 3, 1) := by decide +kernel
theorem dX10_init_29 : decode cX10_init 29 = .ok (.ldc2_w 13, 3) := by decide +kernel
theorem dX10_init_32 : decode cX10_init 32 = .ok (.lastore, 1) := by decide +kernel
theorem dX10_init_33 : decode cX10_init 33 = .ok (.dup, 1) := by decide +kernel
theorem dX10_init_34 : decode cX10_init 34 = .ok (.iconst 4, 1) := by decide +kernel
theorem dX10_init_35 : decode cX10_init 35 = .ok (.ldc2_w 15, 3) := by decide +kernel
theorem dX10_init_38 : decode cX10_init 38 = .ok (.lastore, 1) := by decide +kernel
theorem dX10_init_39 : decode cX10_init 39 = .ok (.dup, 1) := by decide +kernel
theorem dX10_init_40 : decode cX10_init 40 = .ok (.iconst 5, 1) := by decide +kernel
theorem dX10_init_41 : decode cX10_init 41 = .ok (.ldc2_w 17, 3) := by decide +kernel
theorem dX10_init_44 : decode cX10_init 44 = .ok (.lastore, 1) := by decide +kernel
theorem dX10_init_45 : decode cX10_init 45 = .ok (.dup, 1) := by decide +kernel
theorem dX10_init_46 : decode cX10_init 46 = .ok (.bipush 6, 2) := by decide +kernel
theorem dX10_init_48 : decode cX10_init 48 = .ok (.ldc2_w 19, 3) := by decide +kernel
theorem dX10_init_51 : decode cX10_init 51 = .ok (.lastore, 1) := by decide +kernel
theorem dX10_init_52 : decode cX10_init 52 = .ok (.dup, 1) := by decide +kernel
theorem dX10_init_53 : decode cX10_init 53 = .ok (.bipush 7, 2) := by decide +kernel
theorem dX10_init_55 : decode cX10_init 55 = .ok (.ldc2_w 21, 3) := by decide +kernel
theorem dX10_init_58 : decode cX10_init 58 = .ok (.lastore, 1) := by decide +kernel
theorem dX10_init_59 : decode cX10_init 59 = .ok (.dup, 1) := by decide +kernel
theorem dX10_init_60 : decode cX10_init 60 = .ok (.bipush 8, 2) := by decide +kernel
theorem dX10_init_62 : decode cX10_init 62 = .ok (.ldc2_w 23, 3) := by decide +kernel
theorem dX10_init_65 : decode cX10_init 65 = .ok (.lastore, 1) := by decide +kernel
theorem dX10_init_66 : decode cX10_init 66 = .ok (.dup, 1) := by decide +kernel
theorem dX10_init_67 : decode cX10_init 67 = .ok (.bipush 9, 2) := by decide +kernel
theorem dX10_init_69 : decode cX10_init 69 = .ok (.ldc2_w 25, 3) := by decide +kernel
theorem dX10_init_72 : decode cX10_init 72 = .ok (.lastore, 1) := by decide +kernel
theorem dX10_init_73 : decode cX10_init 73 = .ok (.dup, 1) := by decide +kernel
theorem dX10_init_74 : decode cX10_init 74 = .ok (.bipush 10, 2) := by decide +kernel
theorem dX10_init_76 : decode cX10_init 76 = .ok (.ldc2_w 27, 3) := by decide +kernel
theorem dX10_init_79 : decode cX10_init 79 = .ok (.lastore, 1) := by decide +kernel
theorem dX10_init_80 : decode cX10_init 80 = .ok (.dup, 1) := by decide +kernel
theorem dX10_init_81 : decode cX10_init 81 = .ok (.bipush 11, 2) := by decide +kernel
theorem dX10_init_83 : decode cX10_init 83 = .ok (.ldc2_w 29, 3) := by decide +kernel
theorem dX10_init_86 : decode cX10_init 86 = .ok (.lastore, 1) := by decide +kernel
theorem dX10_init_87 : decode cX10_init 87 = .ok (.dup, 1) := by decide +kernel
theorem dX10_init_88 : decode cX10_init 88 = .ok (.bipush 12, 2) := by decide +kernel
theorem dX10_init_90 : decode cX10_init 90 = .ok (.ldc2_w 31, 3) := by decide +kernel
theorem dX10_init_93 : decode cX10_init 93 = .ok (.lastore, 1) := by decide +kernel
theorem dX10_init_94 : decode cX10_init 94 = .ok (.dup, 1) := by decide +kernel
theorem dX10_init_95 : decode cX10_init 95 = .ok (.bipush 13, 2) := by decide +kernel
theorem dX10_init_97 : decode cX10_init 97 = .ok (.ldc2_w 33, 3) := by decide +kernel
theorem dX10_init_100 : decode cX10_init 100 = .ok (.lastore, 1) := by decide +kernel
theorem dX10_init_101 : decode cX10_init 101 = .ok (.dup, 1) := by decide +kernel
theorem dX10_init_102 : decode cX10_init 102 = .ok (.bipush 14, 2) := by decide +kernel
theorem dX10_init_104 : decode cX10_init 104 = .ok (.ldc2_w 35, 3) := by decide +kernel
theorem dX10_init_107 : decode cX10_init 107 = .ok (.lastore, 1) := by decide +kernel
theorem dX10_init_108 : decode cX10_init 108 = .ok (.dup, 1) := by decide +kernel
theorem dX10_init_109 : decode cX10_init 109 = .ok (.bipush 15, 2) := by decide +kernel
theorem dX10_init_111 : decode cX10_init 111 = .ok (.ldc2_w 37, 3) := by decide +kernel
theorem dX10_init_114 : decode cX10_init 114 = .ok (.lastore, 1) := by decide +kernel
theorem dX10_init_115 : decode cX10_init 115 = .ok (.dup, 1) := by decide +kernel
theorem dX10_init_116 : decode cX10_init 116 = .ok (.bipush 16, 2) := by decide +kernel
theorem dX10_init_118 : decode cX10_init 118 = .ok (.ldc2_w 39, 3) := by decide +kernel
theorem dX10_init_121 : decode cX10_init 121 = .ok (.lastore, 1) := by decide +kernel
theorem dX10_init_122 : decode cX10_init 122 = .ok (.dup, 1) := by decide +kernel
theorem dX10_init_123 : decode cX10_init 123 = .ok (.bipush 17, 2) := by decide +kernel
theorem dX10_init_125 : decode cX10_init 125 = .ok (.ldc2_w 41, 3) := by decide +kernel
theorem dX10_init_128 : decode cX10_init 128 = .ok (.lastore, 1) := by decide +kernel
theorem dX10_init_129 : decode cX10_init 129 = .ok (.dup, 1) := by decide +kernel
theorem dX10_init_130 : decode cX10_init 130 = .ok (.bipush 18, 2) := by decide +kernel
theorem dX10_init_132 : decode cX10_init 132 = .ok (.ldc2_w 43, 3) := by decide +kernel
theorem dX10_init_135 : decode cX10_init 135 = .ok (.lastore, 1) := by decide +kernel
theorem dX10_init_136 : decode cX10_init 136 = .ok (.dup, 1) := by decide +kernel
theorem dX10_init_137 : decode cX10_init 137 = .ok (.bipush 19, 2) := by decide +kernel
theorem dX10_init_139 : decode cX10_init 139 = .ok (.ldc2_w 45, 3) := by decide +kernel
theorem dX10_init_142 : decode cX10_init 142 = .ok (.lastore, 1) := by decide +kernel
theorem dX10_init_143 : decode cX10_init 143 = .ok (.dup, 1) := by decide +kernel
theorem dX10_init_144 : decode cX10_init 144 = .ok (.bipush 20, 2) := by decide +kernel
theorem dX10_init_146 : decode cX10_init 146 = .ok (.ldc2_w 47, 3) := by decide +kernel
theorem dX10_init_149 : decode cX10_init 149 = .ok (.lastore, 1) := by decide +kernel
theorem dX10_init_150 : decode cX10_init 150 = .ok (.putfield 49, 3) := by decide +kernel
theorem dX10_init_153 : decode cX10_init 153 = .ok (.aload_n 0, 1) := by decide +kernel
theorem dX10_init_154 : decode cX10_init 154 = .ok (.sipush 1000, 3) := by decide +kernel
theorem dX10_init_157 : decode cX10_init 157 = .ok (.newarray .byte, 2) := by decide +kernel
theorem dX10_init_159 : decode cX10_init 159 = .ok (.putfield 55, 3) := by decide +kernel
theorem dX10_init_162 : decode cX10_init 162 = .ok (.aload_n 0, 1) := by decide +kernel
theorem dX10_init_163 : decode cX10_init 163 = .ok (.sipush 2560, 3) := by decide +kernel
theorem dX10_init_166 : decode cX10_init 166 = .ok (.newarray .int, 2) := by decide +kernel
theorem dX10_init_168 : decode cX10_init 168 = .ok (.putfield 59, 3) := by decide +kernel
theorem dX10_init_171 : decode cX10_init 171 = .ok (.aload_n 0, 1) := by decide +kernel
theorem dX10_init_172 : decode cX10_init 172 = .ok (.iconst 2, 1) := by decide +kernel
theorem dX10_init_173 : decode cX10_init 173 = .ok (.newarray .int, 2) := by decide +kernel
theorem dX10_init_175 : decode cX10_init 175 = .ok (.putfield 63, 3) := by decide +kernel
theorem dX10_init_178 : decode cX10_init 178 = .ok (.aload_n 0, 1) := by decide +kernel
theorem dX10_init_179 : decode cX10_init 179 = .ok (.sipush 2200, 3) := by decide +kernel
theorem dX10_init_182 : decode cX10_init 182 = .ok (.newarray .int, 2) := by decide +kernel
theorem dX10_init_184 : decode cX10_init 184 = .ok (.putfield 66, 3) := by decide +kernel
theorem dX10_init_187 : decode cX10_init 187 = .ok (.aload_n 0, 1) := by decide +kernel
theorem dX10_init_188 : decode cX10_init 188 = .ok (.sipush 2200, 3) := by decide +kernel
theorem dX10_init_191 : decode cX10_init 191 = .ok (.newarray .int, 2) := by decide +kernel
theorem dX10_init_193 : decode cX10_init 193 = .ok (.putfield 69, 3) := by decide +kernel
theorem dX10_init_196 : decode cX10_init 196 = .ok (.aload_n 0, 1) := by decide +kernel
theorem dX10_init_197 : decode cX10_init 197 = .ok (.sipush 800, 3) := by decide +kernel
theorem dX10_init_200 : decode cX10_init 200 = .ok (.newarray .int, 2) := by decide +kernel
theorem dX10_init_202 : decode cX10_init 202 = .ok (.putfield 72, 3) := by decide +kernel
theorem dX10_init_205 : decode cX10_init 205 = .ok (.aload_n 0, 1) := by decide +kernel
theorem dX10_init_206 : decode cX10_init 206 = .ok (.sipush 320, 3) := by decide +kernel
theorem dX10_init_209 : decode cX10_init 209 = .ok (.newarray .int, 2) := by decide +kernel
theorem dX10_init_211 : decode cX10_init 211 = .ok (.putfield 75, 3) := by decide +kernel
theorem dX10_init_214 : decode cX10_init 214 = .ok (.aload_n 0, 1) := by decide +kernel
theorem dX10_init_215 : decode cX10_init 215 = .ok (.sipush 320, 3) := by decide +kernel
theorem dX10_init_218 : decode cX10_init 218 = .ok (.newarray .int, 2) := by decide +kernel
theorem dX10_init_220 : decode cX10_init 220 = .ok (.putfield 78, 3) := by decide +kernel
theorem dX10_init_223 : decode cX10_init 223 = .ok (.aload_n 0, 1) := by decide +kernel
theorem dX10_init_224 : decode cX10_init 224 = .ok (.sipush 320, 3) := by decide +kernel
theorem dX10_init_227 : decode cX10_init 227 = .ok (.newarray .int, 2) := by decide +kernel
theorem dX10_init_229 : decode cX10_init 229 = .ok (.putfield 81, 3) := by decide +kernel
theorem dX10_init_232 : decode cX10_init 232 = .ok (.aload_n 0, 1) := by decide +kernel
theorem dX10_init_233 : decode cX10_init 233 = .ok (.iconst 2, 1) := by decide +kernel
theorem dX10_init_234 : decode cX10_init 234 = .ok (.newarray .int, 2) := by decide +kernel
theorem dX10_init_236 : decode cX10_init 236 = .ok (.putfield 84, 3) := by decide +kernel
theorem dX10_init_239 : decode cX10_init 239 = .ok (.aload_n 0, 1) := by decide +kernel
theorem dX10_init_240 : decode cX10_init 240 = .ok (.bipush 16, 2) := by decide +kernel
theorem dX10_init_242 : decode cX10_init 242 = .ok (.newarray .int, 2) := by decide +kernel
theorem dX10_init_244 : decode cX10_init 244 = .ok (.putfield 87, 3) := by decide +kernel
theorem dX10_init_247 : decode cX10_init 247 = .ok (.aload_n 0, 1) := by decide +kernel
theorem dX10_init_248 : decode cX10_init 248 = .ok (.iconst 2, 1) := by decide +kernel
theorem dX10_init_249 : decode cX10_init 249 = .ok (.newarray .int, 2) := by decide +kernel
theorem dX10_init_251 : decode cX10_init 251 = .ok (.putfield 90, 3) := by decide +kernel
theorem dX10_init_254 : decode cX10_init 254 = .ok (.aload_n 0, 1) := by decide +kernel
theorem dX10_init_255 : decode cX10_init 255 = .ok (.bipush 32, 2) := by decide +kernel
theorem dX10_init_257 : decode cX10_init 257 = .ok (.newarray .int, 2) := by decide +kernel
theorem dX10_init_259 : decode cX10_init 259 = .ok (.putfield 93, 3) := by decide +kernel
theorem dX10_init_262 : decode cX10_init 262 = .ok (.aload_n 0, 1) := by decide +kernel
theorem dX10_init_263 : decode cX10_init 263 = .ok (.iconst 2, 1) := by decide +kernel
theorem dX10_init_264 : decode cX10_init 264 = .ok (.newarray .int, 2) := by decide +kernel
theorem dX10_init_266 : decode cX10_init 266 = .ok (.putfield 96, 3) := by decide +kernel
theorem dX10_init_269 : decode cX10_init 269 = .ok (.aload_n 0, 1) := by decide +kernel
theorem dX10_init_270 : decode cX10_init 270 = .ok (.sipush 500, 3) := by decide +kernel
theorem dX10_init_273 : decode cX10_init 273 = .ok (.newarray .int, 2) := by decide +kernel
theorem dX10_init_275 : decode cX10_init 275 = .ok (.putfield 99, 3) := by decide +kernel
theorem dX10_init_278 : decode cX10_init 278 = .ok (.aload_n 0, 1) := by decide +kernel
theorem dX10_init_279 : decode cX10_init 279 = .ok (.sipush 500, 3) := by decide +kernel
theorem dX10_init_282 : decode cX10_init 282 = .ok (.newarray .int, 2) := by decide +kernel
theorem dX10_init_284 : decode cX10_init 284 = .ok (.putfield 102, 3) := by decide +kernel
theorem dX10_init_287 : decode cX10_init 287 = .ok (.aload_n 0, 1) := by decide +kernel
theorem dX10_init_288 : decode cX10_init 288 = .ok (.sipush 500, 3) := by decide +kernel
theorem dX10_init_291 : decode cX10_init 291 = .ok (.newarray .int, 2) := by decide +kernel
theorem dX10_init_293 : decode cX10_init 293 = .ok (.putfield 105, 3) := by decide +kernel
theorem dX10_init_296 : decode cX10_init 296 = .ok (.aload_n 0, 1) := by decide +kernel
theorem dX10_init_297 : decode cX10_init 297 = .ok (.sipush 1000, 3) := by decide +kernel
theorem dX10_init_300 : decode cX10_init 300 = .ok (.newarray .int, 2) := by decide +kernel
theorem dX10_init_302 : decode cX10_init 302 = .ok (.putfield 108, 3) := by decide +kernel
theorem dX10_init_305 : decode cX10_init 305 = .ok (.aload_n 0, 1) := by decide +kernel
theorem dX10_init_306 : decode cX10_init 306 = .ok (.sipush 1000, 3) := by decide +kernel
theorem dX10_init_309 : decode cX10_init 309 = .ok (.newarray .int, 2) := by decide +kernel
theorem dX10_init_311 : decode cX10_init 311 = .ok (.putfield 111, 3) := by decide +kernel
theorem dX10_init_314 : decode cX10_init 314 = .ok (.aload_n 0, 1) := by decide +kernel
theorem dX10_init_315 : decode cX10_init 315 = .ok (.bipush 12, 2) := by decide +kernel
theorem dX10_init_317 : decode cX10_init 317 = .ok (.newarray .int, 2) := by decide +kernel
theorem dX10_init_319 : decode cX10_init 319 = .ok (.putfield 114, 3) := by decide +kernel
theorem dX10_init_322 : decode cX10_init 322 = .ok (.aload_n 0, 1) := by decide +kernel
theorem dX10_init_323 : decode cX10_init 323 = .ok (.bipush 12, 2) := by decide +kernel
theorem dX10_init_325 : decode cX10_init 325 = .ok (.newarray .int, 2) := by decide +kernel
theorem dX10_init_327 : decode cX10_init 327 = .ok (.putfield 117, 3) := by decide +kernel
theorem dX10_init_330 : decode cX10_init 330 = .ok (.aload_n 0, 1) := by decide +kernel
theorem dX10_init_331 : decode cX10_init 331 = .ok (.bipush 12, 2) := by decide +kernel
theorem dX10_init_333 : decode cX10_init 333 = .ok (.newarray .int, 2) := by decide +kernel
theorem dX10_init_335 : decode cX10_init 335 = .ok (.putfield 120, 3) := by decide +kernel
theorem dX10_init_338 : decode cX10_init 338 = .ok (.aload_n 0, 1) := by decide +kernel
theorem dX10_init_339 : decode cX10_init 339 = .ok (.bipush 12, 2) := by decide +kernel
theorem dX10_init_341 : decode cX10_init 341 = .ok (.newarray .int, 2) := by decide +kernel
theorem dX10_init_343 : decode cX10_init 343 = .ok (.putfield 123, 3) := by decide +kernel
theorem dX10_init_346 : decode cX10_init 346 = .ok (.aload_n 0, 1) := by decide +kernel
theorem dX10_init_347 : decode cX10_init 347 = .ok (.bipush 30, 2) := by decide +kernel
theorem dX10_init_349 : decode cX10_init 349 = .ok (.newarray .int, 2) := by decide +kernel
theorem dX10_init_351 : decode cX10_init 351 = .ok (.putfield 126, 3) := by decide +kernel
theorem dX10_init_354 : decode cX10_init 354 = .ok (.aload_n 0, 1) := by decide +kernel
theorem dX10_init_355 : decode cX10_init 355 = .ok (.bipush 30, 2) := by decide +kernel
theorem dX10_init_357 : decode cX10_init 357 = .ok (.newarray .int, 2) := by decide +kernel
theorem dX10_init_359 : decode cX10_init 359 = .ok (.putfield 129, 3) := by decide +kernel
theorem dX10_init_362 : decode cX10_init 362 = .ok (.aload_n 0, 1) := by decide +kernel
theorem dX10_init_363 : decode cX10_init 363 = .ok (.bipush 30, 2) := by decide +kernel
theorem dX10_init_365 : decode cX10_init 365 = .ok (.newarray .int, 2) := by decide +kernel
theorem dX10_init_367 : decode cX10_init 367 = .ok (.putfield 132, 3) := by decide +kernel
theorem dX10_init_370 : decode cX10_init 370 = .ok (.aload_n 0, 1) := by decide +kernel
theorem dX10_init_371 : decode cX10_init 371 = .ok (.bipush 30, 2) := by decide +kernel
theorem dX10_init_373 : decode cX10_init 373 = .ok (.newarray .int, 2) := by decide +kernel
theorem dX10_init_375 : decode cX10_init 375 = .ok (.putfield 135, 3) := by decide +kernel
theorem dX10_init_378 : decode cX10_init 378 = .ok (.aload_n 0, 1) := by decide +kernel
theorem dX10_init_379 : decode cX10_init 379 = .ok (.iconst 2, 1) := by decide +kernel
theorem dX10_init_380 : decode cX10_init 380 = .ok (.newarray .boolean, 2) := by decide +kernel
theorem dX10_init_382 : decode cX10_init 382 = .ok (.putfield 138, 3) := by decide +kernel
theorem dX10_init_385 : decode cX10_init 385 = .ok (.aload_n 0, 1) := by decide +kernel
theorem dX10_init_386 : decode cX10_init 386 = .ok (.bipush 30, 2) := by decide +kernel
theorem dX10_init_388 : decode cX10_init 388 = .ok (.newarray .int, 2) := by decide +kernel
theorem dX10_init_390 : decode cX10_init 390 = .ok (.putfield 142, 3) := by decide +kernel
theorem dX10_init_393 : decode cX10_init 393 = .ok (.aload_n 0, 1) := by decide +kernel
theorem dX10_init_394 : decode cX10_init 394 = .ok (.sipush 1230, 3) := by decide +kernel
theorem dX10_init_397 : decode cX10_init 397 = .ok (.newarray .int, 2) := by decide +kernel
theorem dX10_init_399 : decode cX10_init 399 = .ok (.putfield 145, 3) := by decide +kernel
theorem dX10_init_402 : decode cX10_init 402 = .ok (.aload_n 0, 1) := by decide +kernel
theorem dX10_init_403 : decode cX10_init 403 = .ok (.sipush 1260, 3) := by decide +kernel
theorem dX10_init_406 : decode cX10_init 406 = .ok (.newarray .int, 2) := by decide +kernel
theorem dX10_init_408 : decode cX10_init 408 = .ok (.putfield 148, 3) := by decide +kernel
theorem dX10_init_411 : decode cX10_init 411 = .ok (.aload_n 0, 1) := by decide +kernel
theorem dX10_init_412 : decode cX10_init 412 = .ok (.sipush 1260, 3) := by decide +kernel
theorem dX10_init_415 : decode cX10_init 415 = .ok (.newarray .int, 2) := by decide +kernel
theorem dX10_init_417 : decode cX10_init 417 = .ok (.putfield 151, 3) := by decide +kernel
theorem dX10_init_420 : decode cX10_init 420 = .ok (.aload_n 0, 1) := by decide +kernel
theorem dX10_init_421 : decode cX10_init 421 = .ok (.sipush 1260, 3) := by decide +kernel
theorem dX10_init_424 : decode cX10_init 424 = .ok (.newarray .int, 2) := by decide +kernel
theorem dX10_init_426 : decode cX10_init 426 = .ok (.putfield 154, 3) := by decide +kernel
theorem dX10_init_429 : decode cX10_init 429 = .ok (.aload_n 0, 1) := by decide +kernel
theorem dX10_init_430 : decode cX10_init 430 = .ok (.sipush 1260, 3) := by decide +kernel
theorem dX10_init_433 : decode cX10_init 433 = .ok (.newarray .int, 2) := by decide +kernel
theorem dX10_init_435 : decode cX10_init 435 = .ok (.putfield 157, 3) := by decide +kernel
theorem dX10_init_438 : decode cX10_init 438 = .ok (.aload_n 0, 1) := by decide +kernel
theorem dX10_init_439 : decode cX10_init 439 = .ok (.sipush 1260, 3) := by decide +kernel
theorem dX10_init_442 : decode cX10_init 442 = .ok (.newarray .int, 2) := by decide +kernel
theorem dX10_init_444 : decode cX10_init 444 = .ok (.putfield 160, 3) := by decide +kernel
theorem dX10_init_447 : decode cX10_init 447 = .ok (.aload_n 0, 1) := by decide +kernel
theorem dX10_init_448 : decode cX10_init 448 = .ok (.sipush 1260, 3) := by decide +kernel
theorem dX10_init_451 : decode cX10_init 451 = .ok (.newarray .int, 2) := by decide +kernel
theorem dX10_init_453 : decode cX10_init 453 = .ok (.putfield 163, 3) := by decide +kernel
theorem dX10_init_456 : decode cX10_init 456 = .ok (.aload_n 0, 1) := by decide +kernel
theorem dX10_init_457 : decode cX10_init 457 = .ok (.sipush 15120, 3) := by decide +kernel
theorem dX10_init_460 : decode cX10_init 460 = .ok (.newarray .int, 2) := by decide +kernel
theorem dX10_init_462 : decode cX10_init 462 = .ok (.putfield 166, 3) := by decide +kernel
theorem dX10_init_465 : decode cX10_init 465 = .ok (.aload_n 0, 1) := by decide +kernel
theorem dX10_init_466 : decode cX10_init 466 = .ok (.sipush 1230, 3) := by decide +kernel
theorem dX10_init_469 : decode cX10_init 469 = .ok (.newarray .int, 2) := by decide +kernel
theorem dX10_init_471 : decode cX10_init 471 = .ok (.putfield 169, 3) := by decide +kernel
theorem dX10_init_474 : decode cX10_init 474 = .ok (.aload_n 0, 1) := by decide +kernel
theorem dX10_init_475 : decode cX10_init 475 = .ok (.sipush 240, 3) := by decide +kernel
theorem dX10_init_478 : decode cX10_init 478 = .ok (.newarray .int, 2) := by decide +kernel
theorem dX10_init_480 : decode cX10_init 480 = .ok (.putfield 172, 3) := by decide +kernel
theorem dX10_init_483 : decode cX10_init 483 = .ok (.aload_n 0, 1) := by decide +kernel
theorem dX10_init_484 : decode cX10_init 484 = .ok (.sipush 400, 3) := by decide +kernel
theorem dX10_init_487 : decode cX10_init 487 = .ok (.newarray .int, 2) := by decide +kernel
theorem dX10_init_489 : decode cX10_init 489 = .ok (.putfield 175, 3) := by decide +kernel
theorem dX10_init_492 : decode cX10_init 492 = .ok (.aload_n 0, 1) := by decide +kernel
theorem dX10_init_493 : decode cX10_init 493 = .ok (.sipush 400, 3) := by decide +kernel
theorem dX10_init_496 : decode cX10_init 496 = .ok (.newarray .int, 2) := by decide +kernel
theorem dX10_init_498 : decode cX10_init 498 = .ok (.putfield 178, 3) := by decide +kernel
theorem dX10_init_501 : decode cX10_init 501 = .ok (.aload_n 0, 1) := by decide +kernel
theorem dX10_init_502 : decode cX10_init 502 = .ok (.sipush 400, 3) := by decide +kernel
theorem dX10_init_505 : decode cX10_init 505 = .ok (.newarray .int, 2) := by decide +kernel
theorem dX10_init_507 : decode cX10_init 507 = .ok (.putfield 181, 3) := by decide +kernel
theorem dX10_init_510 : decode cX10_init 510 = .ok (.aload_n 0, 1) := by decide +kernel
theorem dX10_init_511 : decode cX10_init 511 = .ok (.sipush 400, 3) := by decide +kernel
theorem dX10_init_514 : decode cX10_init 514 = .ok (.newarray .int, 2) := by decide +kernel
theorem dX10_init_516 : decode cX10_init 516 = .ok (.putfield 184, 3) := by decide +kernel
theorem dX10_init_519 : decode cX10_init 519 = .ok (.aload_n 0, 1) := by decide +kernel
theorem dX10_init_520 : decode cX10_init 520 = .ok (.sipush 400, 3) := by decide +kernel
theorem dX10_init_523 : decode cX10_init 523 = .ok (.newarray .int, 2) := by decide +kernel
theorem dX10_init_525 : decode cX10_init 525 = .ok (.putfield 187, 3) := by decide +kernel
theorem dX10_init_528 : decode cX10_init 528 = .ok (.aload_n 0, 1) := by decide +kernel
theorem dX10_init_529 : decode cX10_init 529 = .ok (.sipush 400, 3) := by decide +kernel
theorem dX10_init_532 : decode cX10_init 532 = .ok (.newarray .int, 2) := by decide +kernel
theorem dX10_init_534 : decode cX10_init 534 = .ok (.putfield 190, 3) := by decide +kernel
theorem dX10_init_537 : decode cX10_init 537 = .ok (.aload_n 0, 1) := by decide +kernel
theorem dX10_init_538 : decode cX10_init 538 = .ok (.sipush 400, 3) := by decide +kernel
theorem dX10_init_541 : decode cX10_init 541 = .ok (.newarray .int, 2) := by decide +kernel
theorem dX10_init_543 : decode cX10_init 543 = .ok (.putfield 193, 3) := by decide +kernel
theorem dX10_init_546 : decode cX10_init 546 = .ok (.aload_n 0, 1) := by decide +kernel
theorem dX10_init_547 : decode cX10_init 547 = .ok (.sipush 400, 3) := by decide +kernel
theorem dX10_init_550 : decode cX10_init 550 = .ok (.newarray .int, 2) := by decide +kernel
theorem dX10_init_552 : decode cX10_init 552 = .ok (.putfield 196, 3) := by decide +kernel
theorem dX10_init_555 : decode cX10_init 555 = .ok (.aload_n 0, 1) := by decide +kernel
theorem dX10_init_556 : decode cX10_init 556 = .ok (.bipush 72, 2) := by decide +kernel
theorem dX10_init_558 : decode cX10_init 558 = .ok (.newarray .int, 2) := by decide +kernel
theorem dX10_init_560 : decode cX10_init 560 = .ok (.putfield 199, 3) := by decide +kernel
theorem dX10_init_563 : decode cX10_init 563 = .ok (.aload_n 0, 1) := by decide +kernel
theorem dX10_init_564 : decode cX10_init 564 = .ok (.bipush 36, 2) := by decide +kernel
theorem dX10_init_566 : decode cX10_init 566 = .ok (.newarray .int, 2) := by decide +kernel
theorem dX10_init_568 : decode cX10_init 568 = .ok (.putfield 202, 3) := by decide +kernel
theorem dX10_init_571 : decode cX10_init 571 = .ok (.aload_n 0, 1) := by decide +kernel
theorem dX10_init_572 : decode cX10_init 572 = .ok (.bipush 12, 2) := by decide +kernel
theorem dX10_init_574 : decode cX10_init 574 = .ok (.newarray .int, 2) := by decide +kernel
theorem dX10_init_576 : decode cX10_init 576 = .ok (.putfield 205, 3) := by decide +kernel
theorem dX10_init_579 : decode cX10_init 579 = .ok (.aload_n 0, 1) := by decide +kernel
theorem dX10_init_580 : decode cX10_init 580 = .ok (.bipush 12, 2) := by decide +kernel
theorem dX10_init_582 : decode cX10_init 582 = .ok (.newarray .int, 2) := by decide +kernel
theorem dX10_init_584 : decode cX10_init 584 = .ok (.putfield 208, 3) := by decide +kernel
theorem dX10_init_587 : decode cX10_init 587 = .ok (.aload_n 0, 1) := by decide +kernel
theorem dX10_init_588 : decode cX10_init 588 = .ok (.sipush 420, 3) := by decide +kernel
theorem dX10_init_591 : decode cX10_init 591 = .ok (.newarray .int, 2) := by decide +kernel
theorem dX10_init_593 : decode cX10_init 593 = .ok (.putfield 211, 3) := by decide +kernel
theorem dX10_init_596 : decode cX10_init 596 = .ok (.aload_n 0, 1) := by decide +kernel
theorem dX10_init_597 : decode cX10_init 597 = .ok (.sipush 3360, 3) := by decide +kernel
theorem dX10_init_600 : decode cX10_init 600 = .ok (.newarray .int, 2) := by decide +kernel
theorem dX10_init_602 : decode cX10_init 602 = .ok (.putfield 214, 3) := by decide +kernel
theorem dX10_init_605 : decode cX10_init 605 = .ok (.aload_n 0, 1) := by decide +kernel
theorem dX10_init_606 : decode cX10_init 606 = .ok (.sipush 560, 3) := by decide +kernel
theorem dX10_init_609 : decode cX10_init 609 = .ok (.newarray .int, 2) := by decide +kernel
theorem dX10_init_611 : decode cX10_init 611 = .ok (.putfield 217, 3) := by decide +kernel
theorem dX10_init_614 : decode cX10_init 614 = .ok (.aload_n 0, 1) := by decide +kernel
theorem dX10_init_615 : decode cX10_init 615 = .ok (.bipush 60, 2) := by decide +kernel
theorem dX10_init_617 : decode cX10_init 617 = .ok (.newarray .int, 2) := by decide +kernel
theorem dX10_init_619 : decode cX10_init 619 = .ok (.putfield 220, 3) := by decide +kernel
theorem dX10_init_622 : decode cX10_init 622 = .ok (.aload_n 0, 1) := by decide +kernel
theorem dX10_init_623 : decode cX10_init 623 = .ok (.bipush 60, 2) := by decide +kernel
theorem dX10_init_625 : decode cX10_init 625 = .ok (.newarray .int, 2) := by decide +kernel
theorem dX10_init_627 : decode cX10_init 627 = .ok (.putfield 223, 3) := by decide +kernel
theorem dX10_init_630 : decode cX10_init 630 = .ok (.aload_n 0, 1) := by decide +kernel
theorem dX10_init_631 : decode cX10_init 631 = .ok (.bipush 60, 2) := by decide +kernel
theorem dX10_init_633 : decode cX10_init 633 = .ok (.newarray .int, 2) := by decide +kernel
theorem dX10_init_635 : decode cX10_init 635 = .ok (.putfield 226, 3) := by decide +kernel
theorem dX10_init_638 : decode cX10_init 638 = .ok (.aload_n 0, 1) := by decide +kernel
theorem dX10_init_639 : decode cX10_init 639 = .ok (.sipush 1100, 3) := by decide +kernel
theorem dX10_init_642 : decode cX10_init 642 = .ok (.newarray .int, 2) := by decide +kernel
theorem dX10_init_644 : decode cX10_init 644 = .ok (.putfield 229, 3) := by decide +kernel
theorem dX10_init_647 : decode cX10_init 647 = .ok (.aload_n 0, 1) := by decide +kernel
theorem dX10_init_648 : decode cX10_init 648 = .ok (.sipush 244, 3) := by decide +kernel
theorem dX10_init_651 : decode cX10_init 651 = .ok (.newarray .int, 2) := by decide +kernel
theorem dX10_init_653 : decode cX10_init 653 = .ok (.putfield 232, 3) := by decide +kernel
theorem dX10_init_656 : decode cX10_init 656 = .ok (.aload_n 0, 1) := by decide +kernel
theorem dX10_init_657 : decode cX10_init 657 = .ok (.iconst 0, 1) := by decide +kernel
theorem dX10_init_658 : decode cX10_init 658 = .ok (.putfield 235, 3) := by decide +kernel
theorem dX10_init_661 : decode cX10_init 661 = .ok (.return_, 1) := by decide +kernel
def WD0 : Nat → Int64 := (vp_updL (vp_updL (vp_updL (vp_updL (vp_updL (vp_updL (vp_updL (vp_updL (vp_updL (vp_updL (vp_updL (vp_updL (vp_updL (vp_updL (vp_updL (vp_updL (vp_updL (vp_updL (vp_updL (vp_updL (vp_updL (fun _ => 0) 0 427595) 1 99724) 2 18935) 3 474565) 4 609900110) 5 294) 6 176741) 7 409072) 8 12748485) 9 464660) 10 21252599) 11 772144) 12 1279278) 13 8029764) 14 763528) 15 3199080) 16 6759166361) 17 632645) 18 370116) 19 22483122) 20 442114532)
theorem WD0_ok : HWd WD0 := by
  intro k hk
  match k, hk with
  | 0, _ => rfl
  | 1, _ => rfl
  | 2, _ => rfl
  | 3, _ => rfl
  | 4, _ => rfl
  | 5, _ => rfl
  | 6, _ => rfl
  | 7, _ => rfl
  | 8, _ => rfl
  | 9, _ => rfl
  | 10, _ => rfl
  | 11, _ => rfl
  | 12, _ => rfl
  | 13, _ => rfl
  | 14, _ => rfl
  | 15, _ => rfl
  | 16, _ => rfl
  | 17, _ => rfl
  | 18, _ => rfl
  | 19, _ => rfl
  | 20, _ => rfl
  | k + 21, h => exact absurd h (by omega)
abbrev mdW9 (g : Nat → ClassId) (h : Nat) (a : Nat → Nat) : va_W := vz_w [rmW g h a WD0 (fun _ => 0) 0 0 0 0 0 0 0 0 0 (fun _ => 0) (fun _ => 0) (fun _ => 0) (fun _ => 0) (fun _ => 0) (fun _ => 0) (fun _ => 0) (fun _ => 0) (fun _ => 0) (fun _ => 0) (fun _ => 0) (fun _ => 0) (fun _ => 0) 0 0 0 0 0 0 (fun _ => 0) (fun _ => 0) (fun _ => 0) 0 (fun _ => 0) (fun _ => 0) 0 0 0 (fun _ => 0) (fun _ => 0) (fun _ => 0) (fun _ => 0) 0 (fun _ => 0) (fun _ => 0) (fun _ => 0) (fun _ => 0) (fun _ => 0) 0 (fun _ => 0) (fun _ => 0) (fun _ => 0) (fun _ => 0) (fun _ => 0) (fun _ => 0) (fun _ => 0) (fun _ => 0) (fun _ => 0) (fun _ => 0) (fun _ => 0) 0 0 0 0 0 (fun _ => 0) (fun _ => 0) (fun _ => 0) (fun _ => 0) (fun _ => 0) (fun _ => 0) (fun _ => 0) (fun _ => 0) 0 (fun _ => 0) (fun _ => 0) (fun _ => 0) (fun _ => 0) 0 (fun _ => 0) (fun _ => 0) (fun _ => 0) 0 0 0 0 0 (fun _ => 0) (fun _ => 0) (fun _ => 0) (fun _ => 0) 0 0 (fun _ => 0) 0]
set_option maxHeartbeats 4000000 in
set_option maxRecDepth 100000 in
theorem c_M9_init (l : Launch) (D : va_G) (g : Nat → ClassId) (h sz : Nat) : vz_Mv l D (tyG g) yX10_init cX10_init 1 1 12 60 48073 [.ref h] sz [(h, .inr (10, [.null, .null, .int 0, .int 0, .int 0, .int 0, .int 0, .int 0, .int 0, .int 0, .int 0, .null, .null, .null, .null, .null, .null, .null, .null, .null, .null, .null, .null, .null, .int 0, .int 0, .int 0, .int 0, .int 0, .int 0, .null, .null, .null, .int 0, .null, .null, .int 0, .int 0, .int 0, .null, .null, .null, .null, .int 0, .null, .null, .null, .null, .null, .int 0, .null, .null, .null, .null, .null, .null, .null, .null, .null, .null, .null, .int 0, .int 0, .int 0, .int 0, .int 0, .null, .null, .null, .null, .null, .null, .null, .null, .int 0, .null, .null, .null, .null, .int 0, .null, .null, .null, .int 0, .int 0, .int 0, .int 0, .int 0, .null, .null, .null, .null, .int 0, .int 0, .null, .int 0]))] (fun _ : Nat → Nat => True) (fun a => mdW9 g h a) := by
  refine vz_sv (by decide) (Nat.le_of_ble_eq_true rfl) (fun p e s m args below meth c hx hb hr hml hts hown hlk hin hK hsz A hA H locs hP hD hS ls hl => ?_)
  have hl : lv_has ls 1 [(0, .ref h)] := hl
  refine lv_aload_n hx hb dX10_init_0 rfl (lv_at hl 0 rfl) ?_
  refine W.objInit hx hb hown (hts _ q169) (hts _ q11) (hts _ q12) rfl (hl.1.trans hml.symm) rfl dX10_init_1 (Nat.le_of_ble_eq_true rfl) (Nat.le_of_ble_eq_true rfl) ?_
  refine W.eq (g2 := F0 m 4 ls []) rfl ?_
  refine lv_aload_n hx hb dX10_init_4 rfl (lv_at hl 0 rfl) ?_
  refine lv_bipush (v := 21) hx hb dX10_init_5 (by decide) ?_
  refine vz_newa (t0 := 2) (atype := .long) (ty := .long) (a0 := (21, .inr (.inl (fun _ => 0)))) hx hb (hts _ q170) rfl rfl (fun _ _ h => h) hK hP hD hS hA (fun _ => rfl) (by decide) (by decide) (by decide) (Nat.le_of_ble_eq_true rfl) (Nat.le_of_ble_eq_true rfl) dX10_init_7 (fun qq1 H hP hD hS => ?_)
  refine W.cs (cells' := 1) (slots' := 21) rfl rfl ?_
  refine lv_dup hx hb dX10_init_9 rfl ?_
  refine lv_iconst (v := 0) hx hb dX10_init_10 (by decide) ?_
  refine lv_ldc2 hx hb hown (hts _ q171) dX10_init_11 ?_
  refine va_last hx hb hK hP hD hS 1 2 rfl rfl (vp_in_c (by decide)) dX10_init_14 (fun H locs hP hD hS => ?_)
  have hP : va_P D vwCl [(h, .inr (10, [.null, .null, .int 0, .int 0, .int 0, .int 0, .int 0, .int 0, .int 0, .int 0, .int 0, .null, .null, .null, .null, .null, .null, .null, .null, .null, .null, .null, .null, .null, .int 0, .int 0, .int 0, .int 0, .int 0, .int 0, .null, .null, .null, .int 0, .null, .null, .int 0, .int 0, .int 0, .null, .null, .null, .null, .int 0, .null, .null, .null, .null, .null, .int 0, .null, .null, .null, .null, .null, .null, .null, .null, .null, .null, .null, .int 0, .int 0, .int 0, .int 0, .int 0, .null, .null, .null, .null, .null, .null, .null, .null, .int 0, .null, .null, .null, .null, .int 0, .null, .null, .null, .int 0, .int 0, .int 0, .int 0, .int 0, .null, .null, .null, .null, .int 0, .int 0, .null, .int 0])), (qq1, .inl (g 2, 21, .inr (.inl (vp_updL (fun _ => 0) 0 427595))))] H := hP
  have hD : va_D A [(h, .inr (10, [.null, .null, .int 0, .int 0, .int 0, .int 0, .int 0, .int 0, .int 0, .int 0, .int 0, .null, .null, .null, .null, .null, .null, .null, .null, .null, .null, .null, .null, .null, .int 0, .int 0, .int 0, .int 0, .int 0, .int 0, .null, .null, .null, .int 0, .null, .null, .int 0, .int 0, .int 0, .null, .null, .null, .null, .int 0, .null, .null, .null, .null, .null, .int 0, .null, .null, .null, .null, .null, .null, .null, .null, .null, .null, .null, .int 0, .int 0, .int 0, .int 0, .int 0, .null, .null, .null, .null, .null, .null, .null, .null, .int 0, .null, .null, .null, .null, .int 0, .null, .null, .null, .int 0, .int 0, .int 0, .int 0, .int 0, .null, .null, .null, .null, .int 0, .int 0, .null, .int 0])), (qq1, .inl (g 2, 21, .inr (.inl (vp_updL (fun _ => 0) 0 427595))))] := hD
  refine lv_dup hx hb dX10_init_15 rfl ?_
  refine lv_iconst (v := 1) hx hb dX10_init_16 (by decide) ?_
  refine lv_ldc2 hx hb hown (hts _ q172) dX10_init_17 ?_
  refine va_last hx hb hK hP hD hS 1 2 rfl rfl (vp_in_c (by decide)) dX10_init_20 (fun H locs hP hD hS => ?_)
  have hP : va_P D vwCl [(h, .inr (10, [.null, .null, .int 0, .int 0, .int 0, .int 0, .int 0, .int 0, .int 0, .int 0, .int 0, .null, .null, .null, .null, .null, .null, .null, .null, .null, .null, .null, .null, .null, .int 0, .int 0, .int 0, .int 0, .int 0, .int 0, .null, .null, .null, .int 0, .null, .null, .int 0, .int 0, .int 0, .null, .null, .null, .null, .int 0, .null, .null, .null, .null, .null, .int 0, .null, .null, .null, .null, .null, .null, .null, .null, .null, .null, .null, .int 0, .int 0, .int 0, .int 0, .int 0, .null, .null, .null, .null, .null, .null, .null, .null, .int 0, .null, .null, .null, .null, .int 0, .null, .null, .null, .int 0, .int 0, .int 0, .int 0, .int 0, .null, .null, .null, .null, .int 0, .int 0, .null, .int 0])), (qq1, .inl (g 2, 21, .inr (.inl (vp_updL (vp_updL (fun _ => 0) 0 427595) 1 99724))))] H := hP
  have hD : va_D A [(h, .inr (10, [.null, .null, .int 0, .int 0, .int 0, .int 0, .int 0, .int 0, .int 0, .int 0, .int 0, .null, .null, .null, .null, .null, .null, .null, .null, .null, .null, .null, .null, .null, .int 0, .int 0, .int 0, .int 0, .int 0, .int 0, .null, .null, .null, .int 0, .null, .null, .int 0, .int 0, .int 0, .null, .null, .null, .null, .int 0, .null, .null, .null, .null, .null, .int 0, .null, .null, .null, .null, .null, .null, .null, .null, .null, .null, .null, .int 0, .int 0, .int 0, .int 0, .int 0, .null, .null, .null, .null, .null, .null, .null, .null, .int 0, .null, .null, .null, .null, .int 0, .null, .null, .null, .int 0, .int 0, .int 0, .int 0, .int 0, .null, .null, .null, .null, .int 0, .int 0, .null, .int 0])), (qq1, .inl (g 2, 21, .inr (.inl (vp_updL (vp_updL (fun _ => 0) 0 427595) 1 99724))))] := hD
  refine lv_dup hx hb dX10_init_21 rfl ?_
  refine lv_iconst (v := 2) hx hb dX10_init_22 (by decide) ?_
  refine lv_ldc2 hx hb hown (hts _ q173) dX10_init_23 ?_
  refine va_last hx hb hK hP hD hS 1 2 rfl rfl (vp_in_c (by decide)) dX10_init_26 (fun H locs hP hD hS => ?_)
  have hP : va_P D vwCl [(h, .inr (10, [.null, .null, .int 0, .int 0, .int 0, .int 0, .int 0, .int 0, .int 0, .int 0, .int 0, .null, .null, .null, .null, .null, .null, .null, .null, .null, .null, .null, .null, .null, .int 0, .int 0, .int 0, .int 0, .int 0, .int 0, .null, .null, .null, .int 0, .null, .null, .int 0, .int 0, .int 0, .null, .null, .null, .null, .int 0, .null, .null, .null, .null, .null, .int 0, .null, .null, .null, .null, .null, .null, .null, .null, .null, .null, .null, .int 0, .int 0, .int 0, .int 0, .int 0, .null, .null, .null, .null, .null, .null, .null, .null, .int 0, .null, .null, .null, .null, .int 0, .null, .null, .null, .int 0, .int 0, .int 0, .int 0, .int 0, .null, .null, .null, .null, .int 0, .int 0, .null, .int 0])), (qq1, .inl (g 2, 21, .inr (.inl (vp_updL (vp_updL (vp_updL (fun _ => 0) 0 427595) 1 99724) 2 18935))))] H := hP
  have hD : va_D A [(h, .inr (10, [.null, .null, .int 0, .int 0, .int 0, .int 0, .int 0, .int 0, .int 0, .int 0, .int 0, .null, .null, .null, .null, .null, .null, .null, .null, .null, .null, .null, .null, .null, .int 0, .int 0, .int 0, .int 0, .int 0, .int 0, .null, .null, .null, .int 0, .null, .null, .int 0, .int 0, .int 0, .null, .null, .null, .null, .int 0, .null, .null, .null, .null, .null, .int 0, .null, .null, .null, .null, .null, .null, .null, .null, .null, .null, .null, .int 0, .int 0, .int 0, .int 0, .int 0, .null, .null, .null, .null, .null, .null, .null, .null, .int 0, .null, .null, .null, .null, .int 0, .null, .null, .null, .int 0, .int 0, .int 0, .int 0, .int 0, .null, .null, .null, .null, .int 0, .int 0, .null, .int 0])), (qq1, .inl (g 2, 21, .inr (.inl (vp_updL (vp_updL (vp_updL (fun _ => 0) 0 427595) 1 99724) 2 18935))))] := hD
  refine lv_dup hx hb dX10_init_27 rfl ?_
  refine lv_iconst (v := 3) hx hb dX10_init_28 (by decide) ?_
  refine lv_ldc2 hx hb hown (hts _ q174) dX10_init_29 ?_
  refine va_last hx hb hK hP hD hS 1 2 rfl rfl (vp_in_c (by decide)) dX10_init_32 (fun H locs hP hD hS => ?_)
  have hP : va_P D vwCl [(h, .inr (10, [.null, .null, .int 0, .int 0, .int 0, .int 0, .int 0, .int 0, .int 0, .int 0, .int 0, .null, .null, .null, .null, .null, .null, .null, .null, .null, .null, .null, .null, .null, .int 0, .int 0, .int 0, .int 0, .int 0, .int 0, .null, .null, .null, .int 0, .null, .null, .int 0, .int 0, .int 0, .null, .null, .null, .null, .int 0, .null, .null, .null, .null, .null, .int 0, .null, .null, .null, .null, .null, .null, .null, .null, .null, .null, .null, .int 0, .int 0, .int 0, .int 0, .int 0, .null, .null, .null, .null, .null, .null, .null, .null, .int 0, .null, .null, .null, .null, .int 0, .null, .null, .null, .int 0, .int 0, .int 0, .int 0, .int 0, .null, .null, .null, .null, .int 0, .int 0, .null, .int 0])), (qq1, .inl (g 2, 21, .inr (.inl (vp_updL (vp_updL (vp_updL (vp_updL (fun _ => 0) 0 427595) 1 99724) 2 18935) 3 474565))))] H := hP
  have hD : va_D A [(h, .inr (10, [.null, .null, .int 0, .int 0, .int 0, .int 0, .int 0, .int 0, .int 0, .int 0, .int 0, .null, .null, .null, .null, .null, .null, .null, .null, .null, .null, .null, .null, .null, .int 0, .int 0, .int 0, .int 0, .int 0, .int 0, .null, .null, .null, .int 0, .null, .null, .int 0, .int 0, .int 0, .null, .null, .null, .null, .int 0, .null, .null, .null, .null, .null, .int 0, .null, .null, .null, .null, .null, .null, .null, .null, .null, .null, .null, .int 0, .int 0, .int 0, .int 0, .int 0, .null, .null, .null, .null, .null, .null, .null, .null, .int 0, .null, .null, .null, .null, .int 0, .null, .null, .null, .int 0, .int 0, .int 0, .int 0, .int 0, .null, .null, .null, .null, .int 0, .int 0, .null, .int 0])), (qq1, .inl (g 2, 21, .inr (.inl (vp_updL (vp_updL (vp_updL (vp_updL (fun _ => 0) 0 427595) 1 99724) 2 18935) 3 474565))))] := hD
  refine lv_dup hx hb dX10_init_33 rfl ?_
  refine lv_iconst (v := 4) hx hb dX10_init_34 (by decide) ?_
  refine lv_ldc2 hx hb hown (hts _ q175) dX10_init_35 ?_
  refine va_last hx hb hK hP hD hS 1 2 rfl rfl (vp_in_c (by decide)) dX10_init_38 (fun H locs hP hD hS => ?_)
  have hP : va_P D vwCl [(h, .inr (10, [.null, .null, .int 0, .int 0, .int 0, .int 0, .int 0, .int 0, .int 0, .int 0, .int 0, .null, .null, .null, .null, .null, .null, .null, .null, .null, .null, .null, .null, .null, .int 0, .int 0, .int 0, .int 0, .int 0, .int 0, .null, .null, .null, .int 0, .null, .null, .int 0, .int 0, .int 0, .null, .null, .null, .null, .int 0, .null, .null, .null, .null, .null, .int 0, .null, .null, .null, .null, .null, .null, .null, .null, .null, .null, .null, .int 0, .int 0, .int 0, .int 0, .int 0, .null, .null, .null, .null, .null, .null, .null, .null, .int 0, .null, .null, .null, .null, .int 0, .null, .null, .null, .int 0, .int 0, .int 0, .int 0, .int 0, .null, .null, .null, .null, .int 0, .int 0, .null, .int 0])), (qq1, .inl (g 2, 21, .inr (.inl (vp_updL (vp_updL (vp_updL (vp_updL (vp_updL (fun _ => 0) 0 427595) 1 99724) 2 18935) 3 474565) 4 609900110))))] H := hP
  have hD : va_D A [(h, .inr (10, [.null, .null, .int 0, .int 0, .int 0, .int 0, .int 0, .int 0, .int 0, .int 0, .int 0, .null, .null, .null, .null, .null, .null, .null, .null, .null, .null, .null, .null, .null, .int 0, .int 0, .int 0, .int 0, .int 0, .int 0, .null, .null, .null, .int 0, .null, .null, .int 0, .int 0, .int 0, .null, .null, .null, .null, .int 0, .null, .null, .null, .null, .null, .int 0, .null, .null, .null, .null, .null, .null, .null, .null, .null, .null, .null, .int 0, .int 0, .int 0, .int 0, .int 0, .null, .null, .null, .null, .null, .null, .null, .null, .int 0, .null, .null, .null, .null, .int 0, .null, .null, .null, .int 0, .int 0, .int 0, .int 0, .int 0, .null, .null, .null, .null, .int 0, .int 0, .null, .int 0])), (qq1, .inl (g 2, 21, .inr (.inl (vp_updL (vp_updL (vp_updL (vp_updL (vp_updL (fun _ => 0) 0 427595) 1 99724) 2 18935) 3 474565) 4 609900110))))] := hD
  refine lv_dup hx hb dX10_init_39 rfl ?_
  refine lv_iconst (v := 5) hx hb dX10_init_40 (by decide) ?_
  refine lv_ldc2 hx hb hown (hts _ q176) dX10_init_41 ?_
  refine va_last hx hb hK hP hD hS 1 2 rfl rfl (vp_in_c (by decide)) dX10_init_44 (fun H locs hP hD hS => ?_)
  have hP : va_P D vwCl [(h, .inr (10, [.null, .null, .int 0, .int 0, .int 0, .int 0, .int 0, .int 0, .int 0, .int 0, .int 0, .null, .null, .null, .null, .null, .null, .null, .null, .null, .null, .null, .null, .null, .int 0, .int 0, .int 0, .int 0, .int 0, .int 0, .null, .null, .null, .int 0, .null, .null, .int 0, .int 0, .int 0, .null, .null, .null, .null, .int 0, .null, .null, .null, .null, .null, .int 0, .null, .null, .null, .null, .null, .null, .null, .null, .null, .null, .null, .int 0, .int 0, .int 0, .int 0, .int 0, .null, .null, .null, .null, .null, .null, .null, .null, .int 0, .null, .null, .null, .null, .int 0, .null, .null, .null, .int 0, .int 0, .int 0, .int 0, .int 0, .null, .null, .null, .null, .int 0, .int 0, .null, .int 0])), (qq1, .inl (g 2, 21, .inr (.inl (vp_updL (vp_updL (vp_updL (vp_updL (vp_updL (vp_updL (fun _ => 0) 0 427595) 1 99724) 2 18935) 3 474565) 4 609900110) 5 294))))] H := hP
  have hD : va_D A [(h, .inr (10, [.null, .null, .int 0, .int 0, .int 0, .int 0, .int 0, .int 0, .int 0, .int 0, .int 0, .null, .null, .null, .null, .null, .null, .null, .null, .null, .null, .null, .null, .null, .int 0, .int 0, .int 0, .int 0, .int 0, .int 0, .null, .null, .null, .int 0, .null, .null, .int 0, .int 0, .int 0, .null, .null, .null, .null, .int 0, .null, .null, .null, .null, .null, .int 0, .null, .null, .null, .null, .null, .null, .null, .null, .null, .null, .null, .int 0, .int 0, .int 0, .int 0, .int 0, .null, .null, .null, .null, .null, .null, .null, .null, .int 0, .null, .null, .null, .null, .int 0, .null, .null, .null, .int 0, .int 0, .int 0, .int 0, .int 0, .null, .null, .null, .null, .int 0, .int 0, .null, .int 0])), (qq1, .inl (g 2, 21, .inr (.inl (vp_updL (vp_updL (vp_updL (vp_updL (vp_updL (vp_updL (fun _ => 0) 0 427595) 1 99724) 2 18935) 3 474565) 4 609900110) 5 294))))] := hD
  refine lv_dup hx hb dX10_init_45 rfl ?_
  refine lv_bipush (v := 6) hx hb dX10_init_46 (by decide) ?_
  refine lv_ldc2 hx hb hown (hts _ q177) dX10_init_48 ?_
  refine va_last hx hb hK hP hD hS 1 2 rfl rfl (vp_in_c (by decide)) dX10_init_51 (fun H locs hP hD hS => ?_)
  have hP : va_P D vwCl [(h, .inr (10, [.null, .null, .int 0, .int 0, .int 0, .int 0, .int 0, .int 0, .int 0, .int 0, .int 0, .null, .null, .null, .null, .null, .null, .null, .null, .null, .null, .null, .null, .null, .int 0, .int 0, .int 0, .int 0, .int 0, .int 0, .null, .null, .null, .int 0, .null, .null, .int 0, .int 0, .int 0, .null, .null, .null, .null, .int 0, .null, .null, .null, .null, .null, .int 0, .null, .null, .null, .null, .null, .null, .null, .null, .null, .null, .null, .int 0, .int 0, .int 0, .int 0, .int 0, .null, .null, .null, .null, .null, .null, .null, .null, .int 0, .null, .null, .null, .null, .int 0, .null, .null, .null, .int 0, .int 0, .int 0, .int 0, .int 0, .null, .null, .null, .null, .int 0, .int 0, .null, .int 0])), (qq1, .inl (g 2, 21, .inr (.inl (vp_updL (vp_updL (vp_updL (vp_updL (vp_updL (vp_updL (vp_updL (fun _ => 0) 0 427595) 1 99724) 2 18935) 3 474565) 4 609900110) 5 294) 6 176741))))] H := hP
  have hD : va_D A [(h, .inr (10, [.null, .null, .int 0, .int 0, .int 0, .int 0, .int 0, .int 0, .int 0, .int 0, .int 0, .null, .null, .null, .null, .null, .null, .null, .null, .null, .null, .null, .null, .null, .int 0, .int 0, .int 0, .int 0, .int 0, .int 0, .null, .null, .null, .int 0, .null, .null, .int 0, .int 0, .int 0, .null, .null, .null, .null, .int 0, .null, .null, .null, .null, .null, .int 0, .null, .null, .null, .null, .null, .null, .null, .null, .null, .null, .null, .int 0, .int 0, .int 0, .int 0, .int 0, .null, .null, .null, .null, .null, .null, .null, .null, .int 0, .null, .null, .null, .null, .int 0, .null, .null, .null, .int 0, .int 0, .int 0, .int 0, .int 0, .null, .null, .null, .null, .int 0, .int 0, .null, .int 0])), (qq1, .inl (g 2, 21, .inr (.inl (vp_updL (vp_updL (vp_updL (vp_updL (vp_updL (vp_updL (vp_updL (fun _ => 0) 0 427595) 1 99724) 2 18935) 3 474565) 4 609900110) 5 294) 6 176741))))] := hD
  refine lv_dup hx hb dX10_init_52 rfl ?_
  refine lv_bipush (v := 7) hx hb dX10_init_53 (by decide) ?_
  refine lv_ldc2 hx hb hown (hts _ q178) dX10_init_55 ?_
  refine va_last hx hb hK hP hD hS 1 2 rfl rfl (vp_in_c (by decide)) dX10_init_58 (fun H locs hP hD hS => ?_)
  have hP : va_P D vwCl [(h, .inr (10, [.null, .null, .int 0, .int 0, .int 0, .int 0, .int 0, .int 0, .int 0, .int 0, .int 0, .null, .null, .null, .null, .null, .null, .null, .null, .null, .null, .null, .null, .null, .int 0, .int 0, .int 0, .int 0, .int 0, .int 0, .null, .null, .null, .int 0, .null, .null, .int 0, .int 0, .int 0, .null, .null, .null, .null, .int 0, .null, .null, .null, .null, .null, .int 0, .null, .null, .null, .null, .null, .null, .null, .null, .null, .null, .null, .int 0, .int 0, .int 0, .int 0, .int 0, .null, .null, .null, .null, .null, .null, .null, .null, .int 0, .null, .null, .null, .null, .int 0, .null, .null, .null, .int 0, .int 0, .int 0, .int 0, .int 0, .null, .null, .null, .null, .int 0, .int 0, .null, .int 0])), (qq1, .inl (g 2, 21, .inr (.inl (vp_updL (vp_updL (vp_updL (vp_updL (vp_updL (vp_updL (vp_updL (vp_updL (fun _ => 0) 0 427595) 1 99724) 2 18935) 3 474565) 4 609900110) 5 294) 6 176741) 7 409072))))] H := hP
  have hD : va_D A [(h, .inr (10, [.null, .null, .int 0, .int 0, .int 0, .int 0, .int 0, .int 0, .int 0, .int 0, .int 0, .null, .null, .null, .null, .null, .null, .null, .null, .null, .null, .null, .null, .null, .int 0, .int 0, .int 0, .int 0, .int 0, .int 0, .null, .null, .null, .int 0, .null, .null, .int 0, .int 0, .int 0, .null, .null, .null, .null, .int 0, .null, .null, .null, .null, .null, .int 0, .null, .null, .null, .null, .null, .null, .null, .null, .null, .null, .null, .int 0, .int 0, .int 0, .int 0, .int 0, .null, .null, .null, .null, .null, .null, .null, .null, .int 0, .null, .null, .null, .null, .int 0, .null, .null, .null, .int 0, .int 0, .int 0, .int 0, .int 0, .null, .null, .null, .null, .int 0, .int 0, .null, .int 0])), (qq1, .inl (g 2, 21, .inr (.inl (vp_updL (vp_updL (vp_updL (vp_updL (vp_updL (vp_updL (vp_updL (vp_updL (fun _ => 0) 0 427595) 1 99724) 2 18935) 3 474565) 4 609900110) 5 294) 6 176741) 7 409072))))] := hD
  refine lv_dup hx hb dX10_init_59 rfl ?_
  refine lv_bipush (v := 8) hx hb dX10_init_60 (by decide) ?_
  refine lv_ldc2 hx hb hown (hts _ q179) dX10_init_62 ?_
  refine va_last hx hb hK hP hD hS 1 2 rfl rfl (vp_in_c (by decide)) dX10_init_65 (fun H locs hP hD hS => ?_)
  have hP : va_P D vwCl [(h, .inr (10, [.null, .null, .int 0, .int 0, .int 0, .int 0, .int 0, .int 0, .int 0, .int 0, .int 0, .null, .null, .null, .null, .null, .null, .null, .null, .null, .null, .null, .null, .null, .int 0, .int 0, .int 0, .int 0, .int 0, .int 0, .null, .null, .null, .int 0, .null, .null, .int 0, .int 0, .int 0, .null, .null, .null, .null, .int 0, .null, .null, .null, .null, .null, .int 0, .null, .null, .null, .null, .null, .null, .null, .null, .null, .null, .null, .int 0, .int 0, .int 0, .int 0, .int 0, .null, .null, .null, .null, .null, .null, .null, .null, .int 0, .null, .null, .null, .null, .int 0, .null, .null, .null, .int 0, .int 0, .int 0, .int 0, .int 0, .null, .null, .null, .null, .int 0, .int 0, .null, .int 0])), (qq1, .inl (g 2, 21, .inr (.inl (vp_updL (vp_updL (vp_updL (vp_updL (vp_updL (vp_updL (vp_updL (vp_updL (vp_updL (fun _ => 0) 0 427595) 1 99724) 2 18935) 3 474565) 4 609900110) 5 294) 6 176741) 7 409072) 8 12748485))))] H := hP
  have hD : va_D A [(h, .inr (10, [.null, .null, .int 0, .int 0, .int 0, .int 0, .int 0, .int 0, .int 0, .int 0, .int 0, .null, .null, .null, .null, .null, .null, .null, .null, .null, .null, .null, .null, .null, .int 0, .int 0, .int 0, .int 0, .int 0, .int 0, .null, .null, .null, .int 0, .null, .null, .int 0, .int 0, .int 0, .null, .null, .null, .null, .int 0, .null, .null, .null, .null, .null, .int 0, .null, .null, .null, .null, .null, .null, .null, .null, .null, .null, .null, .int 0, .int 0, .int 0, .int 0, .int 0, .null, .null, .null, .null, .null, .null, .null, .null, .int 0, .null, .null, .null, .null, .int 0, .null, .null, .null, .int 0, .int 0, .int 0, .int 0, .int 0, .null, .null, .null, .null, .int 0, .int 0, .null, .int 0])), (qq1, .inl (g 2, 21, .inr (.inl (vp_updL (vp_updL (vp_updL (vp_updL (vp_updL (vp_updL (vp_updL (vp_updL (vp_updL (fun _ => 0) 0 427595) 1 99724) 2 18935) 3 474565) 4 609900110) 5 294) 6 176741) 7 409072) 8 12748485))))] := hD
  refine lv_dup hx hb dX10_init_66 rfl ?_
  refine lv_bipush (v := 9) hx hb dX10_init_67 (by decide) ?_
  refine lv_ldc2 hx hb hown (hts _ q180) dX10_init_69 ?_
  refine va_last hx hb hK hP hD hS 1 2 rfl rfl (vp_in_c (by decide)) dX10_init_72 (fun H locs hP hD hS => ?_)
  have hP : va_P D vwCl [(h, .inr (10, [.null, .null, .int 0, .int 0, .int 0, .int 0, .int 0, .int 0, .int 0, .int 0, .int 0, .null, .null, .null, .null, .null, .null, .null, .null, .null, .null, .null, .null, .null, .int 0, .int 0, .int 0, .int 0, .int 0, .int 0, .null, .null, .null, .int 0, .null, .null, .int 0, .int 0, .int 0, .null, .null, .null, .null, .int 0, .null, .null, .null, .null, .null, .int 0, .null, .null, .null, .null, .null, .null, .null, .null, .null, .null, .null, .int 0, .int 0, .int 0, .int 0, .int 0, .null, .null, .null, .null, .null, .null, .null, .null, .int 0, .null, .null, .null, .null, .int 0, .null, .null, .null, .int 0, .int 0, .int 0, .int 0, .int 0, .null, .null, .null, .null, .int 0, .int 0, .null, .int 0])), (qq1, .inl (g 2, 21, .inr (.inl (vp_updL (vp_updL (vp_updL (vp_updL (vp_updL (vp_updL (vp_updL (vp_updL (vp_updL (vp_updL (fun _ => 0) 0 427595) 1 99724) 2 18935) 3 474565) 4 609900110) 5 294) 6 176741) 7 409072) 8 12748485) 9 464660))))] H := hP
  have hD : va_D A [(h, .inr (10, [.null, .null, .int 0, .int 0, .int 0, .int 0, .int 0, .int 0, .int 0, .int 0, .int 0, .null, .null, .null, .null, .null, .null, .null, .null, .null, .null, .null, .null, .null, .int 0, .int 0, .int 0, .int 0, .int 0, .int 0, .null, .null, .null, .int 0, .null, .null, .int 0, .int 0, .int 0, .null, .null, .null, .null, .int 0, .null, .null, .null, .null, .null, .int 0, .null, .null, .null, .null, .null, .null, .null, .null, .null, .null, .null, .int 0, .int 0, .int 0, .int 0, .int 0, .null, .null, .null, .null, .null, .null, .null, .null, .int 0, .null, .null, .null, .null, .int 0, .null, .null, .null, .int 0, .int 0, .int 0, .int 0, .int 0, .null, .null, .null, .null, .int 0, .int 0, .null, .int 0])), (qq1, .inl (g 2, 21, .inr (.inl (vp_updL (vp_updL (vp_updL (vp_updL (vp_updL (vp_updL (vp_updL (vp_updL (vp_updL (vp_updL (fun _ => 0) 0 427595) 1 99724) 2 18935) 3 474565) 4 609900110) 5 294) 6 176741) 7 409072) 8 12748485) 9 464660))))] := hD
  refine lv_dup hx hb dX10_init_73 rfl ?_
  refine lv_bipush (v := 10) hx hb dX10_init_74 (by decide) ?_
  refine lv_ldc2 hx hb hown (hts _ q181) dX10_init_76 ?_
  refine va_last hx hb hK hP hD hS 1 2 rfl rfl (vp_in_c (by decide)) dX10_init_79 (fun H locs hP hD hS => ?_)
  have hP : va_P D vwCl [(h, .inr (10, [.null, .null, .int 0, .int 0, .int 0, .int 0, .int 0, .int 0, .int 0, .int 0, .int 0, .null, .null, .null, .null, .null, .null, .null, .null, .null, .null, .null, .null, .null, .int 0, .int 0, .int 0, .int 0, .int 0, .int 0, .null, .null, .null, .int 0, .null, .null, .int 0, .int 0, .int 0, .null, .null, .null, .null, .int 0, .null, .null, .null, .null, .null, .int 0, .null, .null, .null, .null, .null, .null, .null, .null, .null, .null, .null, .int 0, .int 0, .int 0, .int 0, .int 0, .null, .null, .null, .null, .null, .null, .null, .null, .int 0, .null, .null, .null, .null, .int 0, .null, .null, .null, .int 0, .int 0, .int 0, .int 0, .int 0, .null, .null, .null, .null, .int 0, .int 0, .null, .int 0])), (qq1, .inl (g 2, 21, .inr (.inl (vp_updL (vp_updL (vp_updL (vp_updL (vp_updL (vp_updL (vp_updL (vp_updL (vp_updL (vp_updL (vp_updL (fun _ => 0) 0 427595) 1 99724) 2 18935) 3 474565) 4 609900110) 5 294) 6 176741) 7 409072) 8 12748485) 9 464660) 10 21252599))))] H := hP
  have hD : va_D A [(h, .inr (10, [.null, .null, .int 0, .int 0, .int 0, .int 0, .int 0, .int 0, .int 0, .int 0, .int 0, .null, .null, .null, .null, .null, .null, .null, .null, .null, .null, .null, .null, .null, .int 0, .int 0, .int 0, .int 0, .int 0, .int 0, .null, .null, .null, .int 0, .null, .null, .int 0, .int 0, .int 0, .null, .null, .null, .null, .int 0, .null, .null, .null, .null, .null, .int 0, .null, .null, .null, .null, .null, .null, .null, .null, .null, .null, .null, .int 0, .int 0, .int 0, .int 0, .int 0, .null, .null, .null, .null, .null, .null, .null, .null, .int 0, .null, .null, .null, .null, .int 0, .null, .null, .null, .int 0, .int 0, .int 0, .int 0, .int 0, .null, .null, .null, .null, .int 0, .int 0, .null, .int 0])), (qq1, .inl (g 2, 21, .inr (.inl (vp_updL (vp_updL (vp_updL (vp_updL (vp_updL (vp_updL (vp_updL (vp_updL (vp_updL (vp_updL (vp_updL (fun _ => 0) 0 427595) 1 99724) 2 18935) 3 474565) 4 609900110) 5 294) 6 176741) 7 409072) 8 12748485) 9 464660) 10 21252599))))] := hD
  refine lv_dup hx hb dX10_init_80 rfl ?_
  refine lv_bipush (v := 11) hx hb dX10_init_81 (by decide) ?_
  refine lv_ldc2 hx hb hown (hts _ q182) dX10_init_83 ?_
  refine va_last hx hb hK hP hD hS 1 2 rfl rfl (vp_in_c (by decide)) dX10_init_86 (fun H locs hP hD hS => ?_)
  have hP : va_P D vwCl [(h, .inr (10, [.null, .null, .int 0, .int 0, .int 0, .int 0, .int 0, .int 0, .int 0, .int 0, .int 0, .null, .null, .null, .null, .null, .null, .null, .null, .null, .null, .null, .null, .null, .int 0, .int 0, .int 0, .int 0, .int 0, .int 0, .null, .null, .null, .int 0, .null, .null, .int 0, .int 0, .int 0, .null, .null, .null, .null, .int 0, .null, .null, .null, .null, .null, .int 0, .null, .null, .null, .null, .null, .null, .null, .null, .null, .null, .null, .int 0, .int 0, .int 0, .int 0, .int 0, .null, .null, .null, .null, .null, .null, .null, .null, .int 0, .null, .null, .null, .null, .int 0, .null, .null, .null, .int 0, .int 0, .int 0, .int 0, .int 0, .null, .null, .null, .null, .int 0, .int 0, .null, .int 0])), (qq1, .inl (g 2, 21, .inr (.inl (vp_updL (vp_updL (vp_updL (vp_updL (vp_updL (vp_updL (vp_updL (vp_updL (vp_updL (vp_updL (vp_updL (vp_updL (fun _ => 0) 0 427595) 1 99724) 2 18935) 3 474565) 4 609900110) 5 294) 6 176741) 7 409072) 8 12748485) 9 464660) 10 21252599) 11 772144))))] H := hP
  have hD : va_D A [(h, .inr (10, [.null, .null, .int 0, .int 0, .int 0, .int 0, .int 0, .int 0, .int 0, .int 0, .int 0, .null, .null, .null, .null, .null, .null, .null, .null, .null, .null, .null, .null, .null, .int 0, .int 0, .int 0, .int 0, .int 0, .int 0, .null, .null, .null, .int 0, .null, .null, .int 0, .int 0, .int 0, .null, .null, .null, .null, .int 0, .null, .null, .null, .null, .null, .int 0, .null, .null, .null, .null, .null, .null, .null, .null, .null, .null, .null, .int 0, .int 0, .int 0, .int 0, .int 0, .null, .null, .null, .null, .null, .null, .null, .null, .int 0, .null, .null, .null, .null, .int 0, .null, .null, .null, .int 0, .int 0, .int 0, .int 0, .int 0, .null, .null, .null, .null, .int 0, .int 0, .null, .int 0])), (qq1, .inl (g 2, 21, .inr (.inl (vp_updL (vp_updL (vp_updL (vp_updL (vp_updL (vp_updL (vp_updL (vp_updL (vp_updL (vp_updL (vp_updL (vp_updL (fun _ => 0) 0 427595) 1 99724) 2 18935) 3 474565) 4 609900110) 5 294) 6 176741) 7 409072) 8 12748485) 9 464660) 10 21252599) 11 772144))))] := hD
  refine lv_dup hx hb dX10_init_87 rfl ?_
  refine lv_bipush (v := 12) hx hb dX10_init_88 (by decide) ?_
  refine lv_ldc2 hx hb hown (hts _ q183) dX10_init_90 ?_
  refine va_last hx hb hK hP hD hS 1 2 rfl rfl (vp_in_c (by decide)) dX10_init_93 (fun H locs hP hD hS => ?_)
  have hP : va_P D vwCl [(h, .inr (10, [.null, .null, .int 0, .int 0, .int 0, .int 0, .int 0, .int 0, .int 0, .int 0, .int 0, .null, .null, .null, .null, .null, .null, .null, .null, .null, .null, .null, .null, .null, .int 0, .int 0, .int 0, .int 0, .int 0, .int 0, .null, .null, .null, .int 0, .null, .null, .int 0, .int 0, .int 0, .null, .null, .null, .null, .int 0, .null, .null, .null, .null, .null, .int 0, .null, .null, .null, .null, .null, .null, .null, .null, .null, .null, .null, .int 0, .int 0, .int 0, .int 0, .int 0, .null, .null, .null, .null, .null, .null, .null, .null, .int 0, .null, .null, .null, .null, .int 0, .null, .null, .null, .int 0, .int 0, .int 0, .int 0, .int 0, .null, .null, .null, .null, .int 0, .int 0, .null, .int 0])), (qq1, .inl (g 2, 21, .inr (.inl (vp_updL (vp_updL (vp_updL (vp_updL (vp_updL (vp_updL (vp_updL (vp_updL (vp_updL (vp_updL (vp_updL (vp_updL (vp_updL (fun _ => 0) 0 427595) 1 99724) 2 18935) 3 474565) 4 609900110) 5 294) 6 176741) 7 409072) 8 12748485) 9 464660) 10 21252599) 11 772144) 12 1279278))))] H := hP
  have hD : va_D A [(h, .inr (10, [.null, .null, .int 0, .int 0, .int 0, .int 0, .int 0, .int 0, .int 0, .int 0, .int 0, .null, .null, .null, .null, .null, .null, .null, .null, .null, .null, .null, .null, .null, .int 0, .int 0, .int 0, .int 0, .int 0, .int 0, .null, .null, .null, .int 0, .null, .null, .int 0, .int 0, .int 0, .null, .null, .null, .null, .int 0, .null, .null, .null, .null, .null, .int 0, .null, .null, .null, .null, .null, .null, .null, .null, .null, .null, .null, .int 0, .int 0, .int 0, .int 0, .int 0, .null, .null, .null, .null, .null, .null, .null, .null, .int 0, .null, .null, .null, .null, .int 0, .null, .null, .null, .int 0, .int 0, .int 0, .int 0, .int 0, .null, .null, .null, .null, .int 0, .int 0, .null, .int 0])), (qq1, .inl (g 2, 21, .inr (.inl (vp_updL (vp_updL (vp_updL (vp_updL (vp_updL (vp_updL (vp_updL (vp_updL (vp_updL (vp_updL (vp_updL (vp_updL (vp_updL (fun _ => 0) 0 427595) 1 99724) 2 18935) 3 474565) 4 609900110) 5 294) 6 176741) 7 409072) 8 12748485) 9 464660) 10 21252599) 11 772144) 12 1279278))))] := hD
  refine lv_dup hx hb dX10_init_94 rfl ?_
  refine lv_bipush (v := 13) hx hb dX10_init_95 (by decide) ?_
  refine lv_ldc2 hx hb hown (hts _ q184) dX10_init_97 ?_
  refine va_last hx hb hK hP hD hS 1 2 rfl rfl (vp_in_c (by decide)) dX10_init_100 (fun H locs hP hD hS => ?_)
  have hP : va_P D vwCl [(h, .inr (10, [.null, .null, .int 0, .int 0, .int 0, .int 0, .int 0, .int 0, .int 0, .int 0, .int 0, .null, .null, .null, .null, .null, .null, .null, .null, .null, .null, .null, .null, .null, .int 0, .int 0, .int 0, .int 0, .int 0, .int 0, .null, .null, .null, .int 0, .null, .null, .int 0, .int 0, .int 0, .null, .null, .null, .null, .int 0, .null, .null, .null, .null, .null, .int 0, .null, .null, .null, .null, .null, .null, .null, .null, .null, .null, .null, .int 0, .int 0, .int 0, .int 0, .int 0, .null, .null, .null, .null, .null, .null, .null, .null, .int 0, .null, .null, .null, .null, .int 0, .null, .null, .null, .int 0, .int 0, .int 0, .int 0, .int 0, .null, .null, .null, .null, .int 0, .int 0, .null, .int 0])), (qq1, .inl (g 2, 21, .inr (.inl (vp_updL (vp_updL (vp_updL (vp_updL (vp_updL (vp_updL (vp_updL (vp_updL (vp_updL (vp_updL (vp_updL (vp_updL (vp_updL (vp_updL (fun _ => 0) 0 427595) 1 99724) 2 18935) 3 474565) 4 609900110) 5 294) 6 176741) 7 409072) 8 12748485) 9 464660) 10 21252599) 11 772144) 12 1279278) 13 8029764))))] H := hP
  have hD : va_D A [(h, .inr (10, [.null, .null, .int 0, .int 0, .int 0, .int 0, .int 0, .int 0, .int 0, .int 0, .int 0, .null, .null, .null, .null, .null, .null, .null, .null, .null, .null, .null, .null, .null, .int 0, .int 0, .int 0, .int 0, .int 0, .int 0, .null, .null, .null, .int 0, .null, .null, .int 0, .int 0, .int 0, .null, .null, .null, .null, .int 0, .null, .null, .null, .null, .null, .int 0, .null, .null, .null, .null, .null, .null, .null, .null, .null, .null, .null, .int 0, .int 0, .int 0, .int 0, .int 0, .null, .null, .null, .null, .null, .null, .null, .null, .int 0, .null, .null, .null, .null, .int 0, .null, .null, .null, .int 0, .int 0, .int 0, .int 0, .int 0, .null, .null, .null, .null, .int 0, .int 0, .null, .int 0])), (qq1, .inl (g 2, 21, .inr (.inl (vp_updL (vp_updL (vp_updL (vp_updL (vp_updL (vp_updL (vp_updL (vp_updL (vp_updL (vp_updL (vp_updL (vp_updL (vp_updL (vp_updL (fun _ => 0) 0 427595) 1 99724) 2 18935) 3 474565) 4 609900110) 5 294) 6 176741) 7 409072) 8 12748485) 9 464660) 10 21252599) 11 772144) 12 1279278) 13 8029764))))] := hD
  refine lv_dup hx hb dX10_init_101 rfl ?_
  refine lv_bipush (v := 14) hx hb dX10_init_102 (by decide) ?_
  refine lv_ldc2 hx hb hown (hts _ q185) dX10_init_104 ?_
  refine va_last hx hb hK hP hD hS 1 2 rfl rfl (vp_in_c (by decide)) dX10_init_107 (fun H locs hP hD hS => ?_)
  have hP : va_P D vwCl [(h, .inr (10, [.null, .null, .int 0, .int 0, .int 0, .int 0, .int 0, .int 0, .int 0, .int 0, .int 0, .null, .null, .null, .null, .null, .null, .null, .null, .null, .null, .null, .null, .null, .int 0, .int 0, .int 0, .int 0, .int 0, .int 0, .null, .null, .null, .int 0, .null, .null, .int 0, .int 0, .int 0, .null, .null, .null, .null, .int 0, .null, .null, .null, .null, .null, .int 0, .null, .null, .null, .null, .null, .null, .null, .null, .null, .null, .null, .int 0, .int 0, .int 0, .int 0, .int 0, .null, .null, .null, .null, .null, .null, .null, .null, .int 0, .null, .null, .null, .null, .int 0, .null, .null, .null, .int 0, .int 0, .int 0, .int 0, .int 0, .null, .null, .null, .null, .int 0, .int 0, .null, .int 0])), (qq1, .inl (g 2, 21, .inr (.inl (vp_updL (vp_updL (vp_updL (vp_updL (vp_updL (vp_updL (vp_updL (vp_updL (vp_updL (vp_updL (vp_updL (vp_updL (vp_updL (vp_updL (vp_updL (fun _ => 0) 0 427595) 1 99724) 2 18935) 3 474565) 4 609900110) 5 294) 6 176741) 7 409072) 8 12748485) 9 464660) 10 21252599) 11 772144) 12 1279278) 13 8029764) 14 763528))))] H := hP
  have hD : va_D A [(h, .inr (10, [.null, .null, .int 0, .int 0, .int 0, .int 0, .int 0, .int 0, .int 0, .int 0, .int 0, .null, .null, .null, .null, .null, .null, .null, .null, .null, .null, .null, .null, .null, .int 0, .int 0, .int 0, .int 0, .int 0, .int 0, .null, .null, .null, .int 0, .null, .null, .int 0, .int 0, .int 0, .null, .null, .null, .null, .int 0, .null, .null, .null, .null, .null, .int 0, .null, .null, .null, .null, .null, .null, .null, .null, .null, .null, .null, .int 0, .int 0, .int 0, .int 0, .int 0, .null, .null, .null, .null, .null, .null, .null, .null, .int 0, .null, .null, .null, .null, .int 0, .null, .null, .null, .int 0, .int 0, .int 0, .int 0, .int 0, .null, .null, .null, .null, .int 0, .int 0, .null, .int 0])), (qq1, .inl (g 2, 21, .inr (.inl (vp_updL (vp_updL (vp_updL (vp_updL (vp_updL (vp_updL (vp_updL (vp_updL (vp_updL (vp_updL (vp_updL (vp_updL (vp_updL (vp_updL (vp_updL (fun _ => 0) 0 427595) 1 99724) 2 18935) 3 474565) 4 609900110) 5 294) 6 176741) 7 409072) 8 12748485) 9 464660) 10 21252599) 11 772144) 12 1279278) 13 8029764) 14 763528))))] := hD
  refine lv_dup hx hb dX10_init_108 rfl ?_
  refine lv_bipush (v := 15) hx hb dX10_init_109 (by decide) ?_
  refine lv_ldc2 hx hb hown (hts _ q186) dX10_init_111 ?_
  refine va_last hx hb hK hP hD hS 1 2 rfl rfl (vp_in_c (by decide)) dX10_init_114 (fun H locs hP hD hS => ?_)
  have hP : va_P D vwCl [(h, .inr (10, [.null, .null, .int 0, .int 0, .int 0, .int 0, .int 0, .int 0, .int 0, .int 0, .int 0, .null, .null, .null, .null, .null, .null, .null, .null, .null, .null, .null, .null, .null, .int 0, .int 0, .int 0, .int 0, .int 0, .int 0, .null, .null, .null, .int 0, .null, .null, .int 0, .int 0, .int 0, .null, .null, .null, .null, .int 0, .null, .null, .null, .null, .null, .int 0, .null, .null, .null, .null, .null, .null, .null, .null, .null, .null, .null, .int 0, .int 0, .int 0, .int 0, .int 0, .null, .null, .null, .null, .null, .null, .null, .null, .int 0, .null, .null, .null, .null, .int 0, .null, .null, .null, .int 0, .int 0, .int 0, .int 0, .int 0, .null, .null, .null, .null, .int 0, .int 0, .null, .int 0])), (qq1, .inl (g 2, 21, .inr (.inl (vp_updL (vp_updL (vp_updL (vp_updL (vp_updL (vp_updL (vp_updL (vp_updL (vp_updL (vp_updL (vp_updL (vp_updL (vp_updL (vp_updL (vp_updL (vp_updL (fun _ => 0) 0 427595) 1 99724) 2 18935) 3 474565) 4 609900110) 5 294) 6 176741) 7 409072) 8 12748485) 9 464660) 10 21252599) 11 772144) 12 1279278) 13 8029764) 14 763528) 15 3199080))))] H := hP
  have hD : va_D A [(h, .inr (10, [.null, .null, .int 0, .int 0, .int 0, .int 0, .int 0, .int 0, .int 0, .int 0, .int 0, .null, .null, .null, .null, .null, .null, .null, .null, .null, .null, .null, .null, .null, .int 0, .int 0, .int 0, .int 0, .int 0, .int 0, .null, .null, .null, .int 0, .null, .null, .int 0, .int 0, .int 0, .null, .null, .null, .null, .int 0, .null, .null, .null, .null, .null, .int 0, .null, .null, .null, .null, .null, .null, .null, .null, .null, .null, .null, .int 0, .int 0, .int 0, .int 0, .int 0, .null, .null, .null, .null, .null, .null, .null, .null, .int 0, .null, .null, .null, .null, .int 0, .null, .null, .null, .int 0, .int 0, .int 0, .int 0, .int 0, .null, .null, .null, .null, .int 0, .int 0, .null, .int 0])), (qq1, .inl (g 2, 21, .inr (.inl (vp_updL (vp_updL (vp_updL (vp_updL (vp_updL (vp_updL (vp_updL (vp_updL (vp_updL (vp_updL (vp_updL (vp_updL (vp_updL (vp_updL (vp_updL (vp_updL (fun _ => 0) 0 427595) 1 99724) 2 18935) 3 474565) 4 609900110) 5 294) 6 176741) 7 409072) 8 12748485) 9 464660) 10 21252599) 11 772144) 12 1279278) 13 8029764) 14 763528) 15 3199080))))] := hD
  refine lv_dup hx hb dX10_init_115 rfl ?_
  refine lv_bipush (v := 16) hx hb dX10_init_116 (by decide) ?_
  refine lv_ldc2 hx hb hown (hts _ q187) dX10_init_118 ?_
  refine va_last hx hb hK hP hD hS 1 2 rfl rfl (vp_in_c (by decide)) dX10_init_121 (fun H locs hP hD hS => ?_)
  have hP : va_P D vwCl [(h, .inr (10, [.null, .null, .int 0, .int 0, .int 0, .int 0, .int 0, .int 0, .int 0, .int 0, .int 0, .null, .null, .null, .null, .null, .null, .null, .null, .null, .null, .null, .null, .null, .int 0, .int 0, .int 0, .int 0, .int 0, .int 0, .null, .null, .null, .int 0, .null, .null, .int 0, .int 0, .int 0, .null, .null, .null, .null, .int 0, .null, .null, .null, .null, .null, .int 0, .null, .null, .null, .null, .null, .null, .null, .null, .null, .null, .null, .int 0, .int 0, .int 0, .int 0, .int 0, .null, .null, .null, .null, .null, .null, .null, .null, .int 0, .null, .null, .null, .null, .int 0, .null, .null, .null, .int 0, .int 0, .int 0, .int 0, .int 0, .null, .null, .null, .null, .int 0, .int 0, .null, .int 0])), (qq1, .inl (g 2, 21, .inr (.inl (vp_updL (vp_updL (vp_updL (vp_updL (vp_updL (vp_updL (vp_updL (vp_updL (vp_updL (vp_updL (vp_updL (vp_updL (vp_updL (vp_updL (vp_updL (vp_updL (vp_updL (fun _ => 0) 0 427595) 1 99724) 2 18935) 3 474565) 4 609900110) 5 294) 6 176741) 7 409072) 8 12748485) 9 464660) 10 21252599) 11 772144) 12 1279278) 13 8029764) 14 763528) 15 3199080) 16 6759166361))))] H := hP
  have hD : va_D A [(h, .inr (10, [.null, .null, .int 0, .int 0, .int 0, .int 0, .int 0, .int 0, .int 0, .int 0, .int 0, .null, .null, .null, .null, .null, .null, .null, .null, .null, .null, .null, .null, .null, .int 0, .int 0, .int 0, .int 0, .int 0, .int 0, .null, .null, .null, .int 0, .null, .null, .int 0, .int 0, .int 0, .null, .null, .null, .null, .int 0, .null, .null, .null, .null, .null, .int 0, .null, .null, .null, .null, .null, .null, .null, .null, .null, .null, .null, .int 0, .int 0, .int 0, .int 0, .int 0, .null, .null, .null, .null, .null, .null, .null, .null, .int 0, .null, .null, .null, .null, .int 0, .null, .null, .null, .int 0, .int 0, .int 0, .int 0, .int 0, .null, .null, .null, .null, .int 0, .int 0, .null, .int 0])), (qq1, .inl (g 2, 21, .inr (.inl (vp_updL (vp_updL (vp_updL (vp_updL (vp_updL (vp_updL (vp_updL (vp_updL (vp_updL (vp_updL (vp_updL (vp_updL (vp_updL (vp_updL (vp_updL (vp_updL (vp_updL (fun _ => 0) 0 427595) 1 99724) 2 18935) 3 474565) 4 609900110) 5 294) 6 176741) 7 409072) 8 12748485) 9 464660) 10 21252599) 11 772144) 12 1279278) 13 8029764) 14 763528) 15 3199080) 16 6759166361))))] := hD
  refine lv_dup hx hb dX10_init_122 rfl ?_
  refine lv_bipush (v := 17) hx hb dX10_init_123 (by decide) ?_
  refine lv_ldc2 hx hb hown (hts _ q188) dX10_init_125 ?_
  refine va_last hx hb hK hP hD hS 1 2 rfl rfl (vp_in_c (by decide)) dX10_init_128 (fun H locs hP hD hS => ?_)
  have hP : va_P D vwCl [(h, .inr (10, [.null, .null, .int 0, .int 0, .int 0, .int 0, .int 0, .int 0, .int 0, .int 0, .int 0, .null, .null, .null, .null, .null, .null, .null, .null, .null, .null, .null, .null, .null, .int 0, .int 0, .int 0, .int 0, .int 0, .int 0, .null, .null, .null, .int 0, .null, .null, .int 0, .int 0, .int 0, .null, .null, .null, .null, .int 0, .null, .null, .null, .null, .null, .int 0, .null, .null, .null, .null, .null, .null, .null, .null, .null, .null, .null, .int 0, .int 0, .int 0, .int 0, .int 0, .null, .null, .null, .null, .null, .null, .null, .null, .int 0, .null, .null, .null, .null, .int 0, .null, .null, .null, .int 0, .int 0, .int 0, .int 0, .int 0, .null, .null, .null, .null, .int 0, .int 0, .null, .int 0])), (qq1, .inl (g 2, 21, .inr (.inl (vp_updL (vp_updL (vp_updL (vp_updL (vp_updL (vp_updL (vp_updL (vp_updL (vp_updL (vp_updL (vp_updL (vp_updL (vp_updL (vp_updL (vp_updL (vp_updL (vp_updL (vp_updL (fun _ => 0) 0 427595) 1 99724) 2 18935) 3 474565) 4 609900110) 5 294) 6 176741) 7 409072) 8 12748485) 9 464660) 10 21252599) 11 772144) 12 1279278) 13 8029764) 14 763528) 15 3199080) 16 6759166361) 17 632645))))] H := hP
  have hD : va_D A [(h, .inr (10, [.null, .null, .int 0, .int 0, .int 0, .int 0, .int 0, .int 0, .int 0, .int 0, .int 0, .null, .null, .null, .null, .null, .null, .null, .null, .null, .null, .null, .null, .null, .int 0, .int 0, .int 0, .int 0, .int 0, .int 0, .null, .null, .null, .int 0, .null, .null, .int 0, .int 0, .int 0, .null, .null, .null, .null, .int 0, .null, .null, .null, .null, .null, .int 0, .null, .null, .null, .null, .null, .null, .null, .null, .null, .null, .null, .int 0, .int 0, .int 0, .int 0, .int 0, .null, .null, .null, .null, .null, .null, .null, .null, .int 0, .null, .null, .null, .null, .int 0, .null, .null, .null, .int 0, .int 0, .int 0, .int 0, .int 0, .null, .null, .null, .null, .int 0, .int 0, .null, .int 0])), (qq1, .inl (g 2, 21, .inr (.inl (vp_updL (vp_updL (vp_updL (vp_updL (vp_updL (vp_updL (vp_updL (vp_updL (vp_updL (vp_updL (vp_updL (vp_updL (vp_updL (vp_updL (vp_updL (vp_updL (vp_updL (vp_updL (fun _ => 0) 0 427595) 1 99724) 2 18935) 3 474565) 4 609900110) 5 294) 6 176741) 7 409072) 8 12748485) 9 464660) 10 21252599) 11 772144) 12 1279278) 13 8029764) 14 763528) 15 3199080) 16 6759166361) 17 632645))))] := hD
  refine lv_dup hx hb dX10_init_129 rfl ?_
  refine lv_bipush (v := 18) hx hb dX10_init_130 (by decide) ?_
  refine lv_ldc2 hx hb hown (hts _ q189) dX10_init_132 ?_
  refine va_last hx hb hK hP hD hS 1 2 rfl rfl (vp_in_c (by decide)) dX10_init_135 (fun H locs hP hD hS => ?_)
  have hP : va_P D vwCl [(h, .inr (10, [.null, .null, .int 0, .int 0, .int 0, .int 0, .int 0, .int 0, .int 0, .int 0, .int 0, .null, .null, .null, .null, .null, .null, .null, .null, .null, .null, .null, .null, .null, .int 0, .int 0, .int 0, .int 0, .int 0, .int 0, .null, .null, .null, .int 0, .null, .null, .int 0, .int 0, .int 0, .null, .null, .null, .null, .int 0, .null, .null, .null, .null, .null, .int 0, .null, .null, .null, .null, .null, .null, .null, .null, .null, .null, .null, .int 0, .int 0, .int 0, .int 0, .int 0, .null, .null, .null, .null, .null, .null, .null, .null, .int 0, .null, .null, .null, .null, .int 0, .null, .null, .null, .int 0, .int 0, .int 0, .int 0, .int 0, .null, .null, .null, .null, .int 0, .int 0, .null, .int 0])), (qq1, .inl (g 2, 21, .inr (.inl (vp_updL (vp_updL (vp_updL (vp_updL (vp_updL (vp_updL (vp_updL (vp_updL (vp_updL (vp_updL (vp_updL (vp_updL (vp_updL (vp_updL (vp_updL (vp_updL (vp_updL (vp_updL (vp_updL (fun _ => 0) 0 427595) 1 99724) 2 18935) 3 474565) 4 609900110) 5 294) 6 176741) 7 409072) 8 12748485) 9 464660) 10 21252599) 11 772144) 12 1279278) 13 8029764) 14 763528) 15 3199080) 16 6759166361) 17 632645) 18 370116))))] H := hP
  have hD : va_D A [(h, .inr (10, [.null, .null, .int 0, .int 0, .int 0, .int 0, .int 0, .int 0, .int 0, .int 0, .int 0, .null, .null, .null, .null, .null, .null, .null, .null, .null, .null, .null, .null, .null, .int 0, .int 0, .int 0, .int 0, .int 0, .int 0, .null, .null, .null, .int 0, .null, .null, .int 0, .int 0, .int 0, .null, .null, .null, .null, .int 0, .null, .null, .null, .null, .null, .int 0, .null, .null, .null, .null, .null, .null, .null, .null, .null, .null, .null, .int 0, .int 0, .int 0, .int 0, .int 0, .null, .null, .null, .null, .null, .null, .null, .null, .int 0, .null, .null, .null, .null, .int 0, .null, .null, .null, .int 0, .int 0, .int 0, .int 0, .int 0, .null, .null, .null, .null, .int 0, .int 0, .null, .int 0])), (qq1, .inl (g 2, 21, .inr (.inl (vp_updL (vp_updL (vp_updL (vp_updL (vp_updL (vp_updL (vp_updL (vp_updL (vp_updL (vp_updL (vp_updL (vp_updL (vp_updL (vp_updL (vp_updL (vp_updL (vp_updL (vp_updL (vp_updL (fun _ => 0) 0 427595) 1 99724) 2 18935) 3 474565) 4 609900110) 5 294) 6 176741) 7 409072) 8 12748485) 9 464660) 10 21252599) 11 772144) 12 1279278) 13 8029764) 14 763528) 15 3199080) 16 6759166361) 17 632645) 18 370116))))] := hD
  refine lv_dup hx hb dX10_init_136 rfl ?_
  refine lv_bipush (v := 19) hx hb dX10_init_137 (by decide) ?_
  refine lv_ldc2 hx hb hown (hts _ q190) dX10_init_139 ?_
  refine va_last hx hb hK hP hD hS 1 2 rfl rfl (vp_in_c (by decide)) dX10_init_142 (fun H locs hP hD hS => ?_)
  have hP : va_P D vwCl [(h, .inr (10, [.null, .null, .int 0, .int 0, .int 0, .int 0, .int 0, .int 0, .int 0, .int 0, .int 0, .null, .null, .null, .null, .null, .null, .null, .null, .null, .null, .null, .null, .null, .int 0, .int 0, .int 0, .int 0, .int 0, .int 0, .null, .null, .null, .int 0, .null, .null, .int 0, .int 0, .int 0, .null, .null, .null, .null, .int 0, .null, .null, .null, .null, .null, .int 0, .null, .null, .null, .null, .null, .null, .null, .null, .null, .null, .null, .int 0, .int 0, .int 0, .int 0, .int 0, .null, .null, .null, .null, .null, .null, .null, .null, .int 0, .null, .null, .null, .null, .int 0, .null, .null, .null, .int 0, .int 0, .int 0, .int 0, .int 0, .null, .null, .null, .null, .int 0, .int 0, .null, .int 0])), (qq1, .inl (g 2, 21, .inr (.inl (vp_updL (vp_updL (vp_updL (vp_updL (vp_updL (vp_updL (vp_updL (vp_updL (vp_updL (vp_updL (vp_updL (vp_updL (vp_updL (vp_updL (vp_updL (vp_updL (vp_updL (vp_updL (vp_updL (vp_updL (fun _ => 0) 0 427595) 1 99724) 2 18935) 3 474565) 4 609900110) 5 294) 6 176741) 7 409072) 8 12748485) 9 464660) 10 21252599) 11 772144) 12 1279278) 13 8029764) 14 763528) 15 3199080) 16 6759166361) 17 632645) 18 370116) 19 22483122))))] H := hP
  have hD : va_D A [(h, .inr (10, [.null, .null, .int 0, .int 0, .int 0, .int 0, .int 0, .int 0, .int 0, .int 0, .int 0, .null, .null, .null, .null, .null, .null, .null, .null, .null, .null, .null, .null, .null, .int 0, .int 0, .int 0, .int 0, .int 0, .int 0, .null, .null, .null, .int 0, .null, .null, .int 0, .int 0, .int 0, .null, .null, .null, .null, .int 0, .null, .null, .null, .null, .null, .int 0, .null, .null, .null, .null, .null, .null, .null, .null, .null, .null, .null, .int 0, .int 0, .int 0, .int 0, .int 0, .null, .null, .null, .null, .null, .null, .null, .null, .int 0, .null, .null, .null, .null, .int 0, .null, .null, .null, .int 0, .int 0, .int 0, .int 0, .int 0, .null, .null, .null, .null, .int 0, .int 0, .null, .int 0])), (qq1, .inl (g 2, 21, .inr (.inl (vp_updL (vp_updL (vp_updL (vp_updL (vp_updL (vp_updL (vp_updL (vp_updL (vp_updL (vp_updL (vp_updL (vp_updL (vp_updL (vp_updL (vp_updL (vp_updL (vp_updL (vp_updL (vp_updL (vp_updL (fun _ => 0) 0 427595) 1 99724) 2 18935) 3 474565) 4 609900110) 5 294) 6 176741) 7 409072) 8 12748485) 9 464660) 10 21252599) 11 772144) 12 1279278) 13 8029764) 14 763528) 15 3199080) 16 6759166361) 17 632645) 18 370116) 19 22483122))))] := hD
  refine lv_dup hx hb dX10_init_143 rfl ?_
  refine lv_bipush (v := 20) hx hb dX10_init_144 (by decide) ?_
  refine lv_ldc2 hx hb hown (hts _ q191) dX10_init_146 ?_
  refine va_last hx hb hK hP hD hS 1 2 rfl rfl (vp_in_c (by decide)) dX10_init_149 (fun H locs hP hD hS => ?_)
  have hP : va_P D vwCl [(h, .inr (10, [.null, .null, .int 0, .int 0, .int 0, .int 0, .int 0, .int 0, .int 0, .int 0, .int 0, .null, .null, .null, .null, .null, .null, .null, .null, .null, .null, .null, .null, .null, .int 0, .int 0, .int 0, .int 0, .int 0, .int 0, .null, .null, .null, .int 0, .null, .null, .int 0, .int 0, .int 0, .null, .null, .null, .null, .int 0, .null, .null, .null, .null, .null, .int 0, .null, .null, .null, .null, .null, .null, .null, .null, .null, .null, .null, .int 0, .int 0, .int 0, .int 0, .int 0, .null, .null, .null, .null, .null, .null, .null, .null, .int 0, .null, .null, .null, .null, .int 0, .null, .null, .null, .int 0, .int 0, .int 0, .int 0, .int 0, .null, .null, .null, .null, .int 0, .int 0, .null, .int 0])), (qq1, .inl (g 2, 21, .inr (.inl (vp_updL (vp_updL (vp_updL (vp_updL (vp_updL (vp_updL (vp_updL (vp_updL (vp_updL (vp_updL (vp_updL (vp_updL (vp_updL (vp_updL (vp_updL (vp_updL (vp_updL (vp_updL (vp_updL (vp_updL (vp_updL (fun _ => 0) 0 427595) 1 99724) 2 18935) 3 474565) 4 609900110) 5 294) 6 176741) 7 409072) 8 12748485) 9 464660) 10 21252599) 11 772144) 12 1279278) 13 8029764) 14 763528) 15 3199080) 16 6759166361) 17 632645) 18 370116) 19 22483122) 20 442114532))))] H := hP
  have hD : va_D A [(h, .inr (10, [.null, .null, .int 0, .int 0, .int 0, .int 0, .int 0, .int 0, .int 0, .int 0, .int 0, .null, .null, .null, .null, .null, .null, .null, .null, .null, .null, .null, .null, .null, .int 0, .int 0, .int 0, .int 0, .int 0, .int 0, .null, .null, .null, .int 0, .null, .null, .int 0, .int 0, .int 0, .null, .null, .null, .null, .int 0, .null, .null, .null, .null, .null, .int 0, .null, .null, .null, .null, .null, .null, .null, .null, .null, .null, .null, .int 0, .int 0, .int 0, .int 0, .int 0, .null, .null, .null, .null, .null, .null, .null, .null, .int 0, .null, .null, .null, .null, .int 0, .null, .null, .null, .int 0, .int 0, .int 0, .int 0, .int 0, .null, .null, .null, .null, .int 0, .int 0, .null, .int 0])), (qq1, .inl (g 2, 21, .inr (.inl (vp_updL (vp_updL (vp_updL (vp_updL (vp_updL (vp_updL (vp_updL (vp_updL (vp_updL (vp_updL (vp_updL (vp_updL (vp_updL (vp_updL (vp_updL (vp_updL (vp_updL (vp_updL (vp_updL (vp_updL (vp_updL (fun _ => 0) 0 427595) 1 99724) 2 18935) 3 474565) 4 609900110) 5 294) 6 176741) 7 409072) 8 12748485) 9 464660) 10 21252599) 11 772144) 12 1279278) 13 8029764) 14 763528) 15 3199080) 16 6759166361) 17 632645) 18 370116) 19 22483122) 20 442114532))))] := hD
  refine va_putF (D := D) (ci := 10) (v := .ref qq1) (ty := .array .long) (C := RX10) (T := TX10) (N := 96) hx hb hts inlX10 tyX10 tyX10_ok nmX10 hown hK hP hD hS 0 rfl rfl 0 (by decide) (hts _ q192) (fun _ h => h) rfl hin rfl (by decide +kernel) rfl rfl (Nat.le_of_ble_eq_true rfl) dX10_init_150 (fun H locs hP hD hS => ?_)
  refine lv_aload_n hx hb dX10_init_153 rfl (lv_at hl 0 rfl) ?_
  refine lv_sipush (v := 1000) hx hb dX10_init_154 (by decide) ?_
  refine vz_newa (t0 := 1) (atype := .byte) (ty := .byte) (a0 := (1000, .inl (fun _ => 0))) hx hb (hts _ q193) rfl rfl (fun _ _ h => h) hK hP hD hS hA (fun _ => rfl) (by decide) (by decide) (by decide) (Nat.le_of_ble_eq_true rfl) (Nat.le_of_ble_eq_true rfl) dX10_init_157 (fun qq2 H hP hD hS => ?_)
  refine W.cs (cells' := 2) (slots' := 1021) rfl rfl ?_
  refine va_putF (D := D) (ci := 10) (v := .ref qq2) (ty := .array .byte) (C := RX10) (T := TX10) (N := 96) hx hb hts inlX10 tyX10 tyX10_ok nmX10 hown hK hP hD hS 0 rfl rfl 1 (by decide) (hts _ q194) (fun _ h => h) rfl hin rfl (by decide +kernel) rfl rfl (Nat.le_of_ble_eq_true rfl) dX10_init_159 (fun H locs hP hD hS => ?_)
  refine lv_aload_n hx hb dX10_init_162 rfl (lv_at hl 0 rfl) ?_
  refine lv_sipush (v := 2560) hx hb dX10_init_163 (by decide) ?_
  refine vz_newa (t0 := 0) (atype := .int) (ty := .int) (a0 := (2560, .inl (fun _ => 0))) hx hb (hts _ q70) rfl rfl (fun _ _ h => h) hK hP hD hS hA (fun _ => rfl) (by decide) (by decide) (by decide) (Nat.le_of_ble_eq_true rfl) (Nat.le_of_ble_eq_true rfl) dX10_init_166 (fun qq3 H hP hD hS => ?_)
  refine W.cs (cells' := 3) (slots' := 3581) rfl rfl ?_
  refine va_putF (D := D) (ci := 10) (v := .ref qq3) (ty := .array .int) (C := RX10) (T := TX10) (N := 96) hx hb hts inlX10 tyX10 tyX10_ok nmX10 hown hK hP hD hS 0 rfl rfl 11 (by decide) (hts _ q195) (fun _ h => h) rfl hin rfl (by decide +kernel) rfl rfl (Nat.le_of_ble_eq_true rfl) dX10_init_168 (fun H locs hP hD hS => ?_)
  refine lv_aload_n hx hb dX10_init_171 rfl (lv_at hl 0 rfl) ?_
  refine lv_iconst (v := 2) hx hb dX10_init_172 (by decide) ?_
  refine vz_newa (t0 := 0) (atype := .int) (ty := .int) (a0 := (2, .inl (fun _ => 0))) hx hb (hts _ q70) rfl rfl (fun _ _ h => h) hK hP hD hS hA (fun _ => rfl) (by decide) (by decide) (by decide) (Nat.le_of_ble_eq_true rfl) (Nat.le_of_ble_eq_true rfl) dX10_init_173 (fun qq4 H hP hD hS => ?_)
  refine W.cs (cells' := 4) (slots' := 3583) rfl rfl ?_
  refine va_putF (D := D) (ci := 10) (v := .ref qq4) (ty := .array .int) (C := RX10) (T := TX10) (N := 96) hx hb hts inlX10 tyX10 tyX10_ok nmX10 hown hK hP hD hS 0 rfl rfl 12 (by decide) (hts _ q196) (fun _ h => h) rfl hin rfl (by decide +kernel) rfl rfl (Nat.le_of_ble_eq_true rfl) dX10_init_175 (fun H locs hP hD hS => ?_)
  refine lv_aload_n hx hb dX10_init_178 rfl (lv_at hl 0 rfl) ?_
  refine lv_sipush (v := 2200) hx hb dX10_init_179 (by decide) ?_
  refine vz_newa (t0 := 0) (atype := .int) (ty := .int) (a0 := (2200, .inl (fun _ => 0))) hx hb (hts _ q70) rfl rfl (fun _ _ h => h) hK hP hD hS hA (fun _ => rfl) (by decide) (by decide) (by decide) (Nat.le_of_ble_eq_true rfl) (Nat.le_of_ble_eq_true rfl) dX10_init_182 (fun qq5 H hP hD hS => ?_)
  refine W.cs (cells' := 5) (slots' := 5783) rfl rfl ?_
  refine va_putF (D := D) (ci := 10) (v := .ref qq5) (ty := .array .int) (C := RX10) (T := TX10) (N := 96) hx hb hts inlX10 tyX10 tyX10_ok nmX10 hown hK hP hD hS 0 rfl rfl 13 (by decide) (hts _ q197) (fun _ h => h) rfl hin rfl (by decide +kernel) rfl rfl (Nat.le_of_ble_eq_true rfl) dX10_init_184 (fun H locs hP hD hS => ?_)
  refine lv_aload_n hx hb dX10_init_187 rfl (lv_at hl 0 rfl) ?_
  refine lv_sipush (v := 2200) hx hb dX10_init_188 (by decide) ?_
  refine vz_newa (t0 := 0) (atype := .int) (ty := .int) (a0 := (2200, .inl (fun _ => 0))) hx hb (hts _ q70) rfl rfl (fun _ _ h => h) hK hP hD hS hA (fun _ => rfl) (by decide) (by decide) (by decide) (Nat.le_of_ble_eq_true rfl) (Nat.le_of_ble_eq_true rfl) dX10_init_191 (fun qq6 H hP hD hS => ?_)
  refine W.cs (cells' := 6) (slots' := 7983) rfl rfl ?_
  refine va_putF (D := D) (ci := 10) (v := .ref qq6) (ty := .array .int) (C := RX10) (T := TX10) (N := 96) hx hb hts inlX10 tyX10 tyX10_ok nmX10 hown hK hP hD hS 0 rfl rfl 14 (by decide) (hts _ q198) (fun _ h => h) rfl hin rfl (by decide +kernel) rfl rfl (Nat.le_of_ble_eq_true rfl) dX10_init_193 (fun H locs hP hD hS => ?_)
  refine lv_aload_n hx hb dX10_init_196 rfl (lv_at hl 0 rfl) ?_
  refine lv_sipush (v := 800) hx hb dX10_init_197 (by decide) ?_
  refine vz_newa (t0 := 0) (atype := .int) (ty := .int) (a0 := (800, .inl (fun _ => 0))) hx hb (hts _ q70) rfl rfl (fun _ _ h => h) hK hP hD hS hA (fun _ => rfl) (by decide) (by decide) (by decide) (Nat.le_of_ble_eq_true rfl) (Nat.le_of_ble_eq_true rfl) dX10_init_200 (fun qq7 H hP hD hS => ?_)
  refine W.cs (cells' := 7) (slots' := 8783) rfl rfl ?_
  refine va_putF (D := D) (ci := 10) (v := .ref qq7) (ty := .array .int) (C := RX10) (T := TX10) (N := 96) hx hb hts inlX10 tyX10 tyX10_ok nmX10 hown hK hP hD hS 0 rfl rfl 15 (by decide) (hts _ q199) (fun _ h => h) rfl hin rfl (by decide +kernel) rfl rfl (Nat.le_of_ble_eq_true rfl) dX10_init_202 (fun H locs hP hD hS => ?_)
  refine lv_aload_n hx hb dX10_init_205 rfl (lv_at hl 0 rfl) ?_
  refine lv_sipush (v := 320) hx hb dX10_init_206 (by decide) ?_
  refine vz_newa (t0 := 0) (atype := .int) (ty := .int) (a0 := (320, .inl (fun _ => 0))) hx hb (hts _ q70) rfl rfl (fun _ _ h => h) hK hP hD hS hA (fun _ => rfl) (by decide) (by decide) (by decide) (Nat.le_of_ble_eq_true rfl) (Nat.le_of_ble_eq_true rfl) dX10_init_209 (fun qq8 H hP hD hS => ?_)
  refine W.cs (cells' := 8) (slots' := 9103) rfl rfl ?_
  refine va_putF (D := D) (ci := 10) (v := .ref qq8) (ty := .array .int) (C := RX10) (T := TX10) (N := 96) hx hb hts inlX10 tyX10 tyX10_ok nmX10 hown hK hP hD hS 0 rfl rfl 16 (by decide) (hts _ q200) (fun _ h => h) rfl hin rfl (by decide +kernel) rfl rfl (Nat.le_of_ble_eq_true rfl) dX10_init_211 (fun H locs hP hD hS => ?_)
  refine lv_aload_n hx hb dX10_init_214 rfl (lv_at hl 0 rfl) ?_
  refine lv_sipush (v := 320) hx hb dX10_init_215 (by decide) ?_
  refine vz_newa (t0 := 0) (atype := .int) (ty := .int) (a0 := (320, .inl (fun _ => 0))) hx hb (hts _ q70) rfl rfl (fun _ _ h => h) hK hP hD hS hA (fun _ => rfl) (by decide) (by decide) (by decide) (Nat.le_of_ble_eq_true rfl) (Nat.le_of_ble_eq_true rfl) dX10_init_218 (fun qq9 H hP hD hS => ?_)
  refine W.cs (cells' := 9) (slots' := 9423) rfl rfl ?_
  refine va_putF (D := D) (ci := 10) (v := .ref qq9) (ty := .array .int) (C := RX10) (T := TX10) (N := 96) hx hb hts inlX10 tyX10 tyX10_ok nmX10 hown hK hP hD hS 0 rfl rfl 17 (by decide) (hts _ q201) (fun _ h => h) rfl hin rfl (by decide +kernel) rfl rfl (Nat.le_of_ble_eq_true rfl) dX10_init_220 (fun H locs hP hD hS => ?_)
  refine lv_aload_n hx hb dX10_init_223 rfl (lv_at hl 0 rfl) ?_
  refine lv_sipush (v := 320) hx hb dX10_init_224 (by decide) ?_
  refine vz_newa (t0 := 0) (atype := .int) (ty := .int) (a0 := (320, .inl (fun _ => 0))) hx hb (hts _ q70) rfl rfl (fun _ _ h => h) hK hP hD hS hA (fun _ => rfl) (by decide) (by decide) (by decide) (Nat.le_of_ble_eq_true rfl) (Nat.le_of_ble_eq_true rfl) dX10_init_227 (fun qq10 H hP hD hS => ?_)
  refine W.cs (cells' := 10) (slots' := 9743) rfl rfl ?_
  refine va_putF (D := D) (ci := 10) (v := .ref qq10) (ty := .array .int) (C := RX10) (T := TX10) (N := 96) hx hb hts inlX10 tyX10 tyX10_ok nmX10 hown hK hP hD hS 0 rfl rfl 18 (by decide) (hts _ q202) (fun _ h => h) rfl hin rfl (by decide +kernel) rfl rfl (Nat.le_of_ble_eq_true rfl) dX10_init_229 (fun H locs hP hD hS => ?_)
  refine lv_aload_n hx hb dX10_init_232 rfl (lv_at hl 0 rfl) ?_
  refine lv_iconst (v := 2) hx hb dX10_init_233 (by decide) ?_
  refine vz_newa (t0 := 0) (atype := .int) (ty := .int) (a0 := (2, .inl (fun _ => 0))) hx hb (hts _ q70) rfl rfl (fun _ _ h => h) hK hP hD hS hA (fun _ => rfl) (by decide) (by decide) (by decide) (Nat.le_of_ble_eq_true rfl) (Nat.le_of_ble_eq_true rfl) dX10_init_234 (fun qq11 H hP hD hS => ?_)
  refine W.cs (cells' := 11) (slots' := 9745) rfl rfl ?_
  refine va_putF (D := D) (ci := 10) (v := .ref qq11) (ty := .array .int) (C := RX10) (T := TX10) (N := 96) hx hb hts inlX10 tyX10 tyX10_ok nmX10 hown hK hP hD hS 0 rfl rfl 19 (by decide) (hts _ q203) (fun _ h => h) rfl hin rfl (by decide +kernel) rfl rfl (Nat.le_of_ble_eq_true rfl) dX10_init_236 (fun H locs hP hD hS => ?_)
  refine lv_aload_n hx hb dX10_init_239 rfl (lv_at hl 0 rfl) ?_
  refine lv_bipush (v := 16) hx hb dX10_init_240 (by decide) ?_
  refine vz_newa (t0 := 0) (atype := .int) (ty := .int) (a0 := (16, .inl (fun _ => 0))) hx hb (hts _ q70) rfl rfl (fun _ _ h => h) hK hP hD hS hA (fun _ => rfl) (by decide) (by decide) (by decide) (Nat.le_of_ble_eq_true rfl) (Nat.le_of_ble_eq_true rfl) dX10_init_242 (fun qq12 H hP hD hS => ?_)
  refine W.cs (cells' := 12) (slots' := 9761) rfl rfl ?_
  refine va_putF (D := D) (ci := 10) (v := .ref qq12) (ty := .array .int) (C := RX10) (T := TX10) (N := 96) hx hb hts inlX10 tyX10 tyX10_ok nmX10 hown hK hP hD hS 0 rfl rfl 20 (by decide) (hts _ q204) (fun _ h => h) rfl hin rfl (by decide +kernel) rfl rfl (Nat.le_of_ble_eq_true rfl) dX10_init_244 (fun H locs hP hD hS => ?_)
  refine lv_aload_n hx hb dX10_init_247 rfl (lv_at hl 0 rfl) ?_
  refine lv_iconst (v := 2) hx hb dX10_init_248 (by decide) ?_
  refine vz_newa (t0 := 0) (atype := .int) (ty := .int) (a0 := (2, .inl (fun _ => 0))) hx hb (hts _ q70) rfl rfl (fun _ _ h => h) hK hP hD hS hA (fun _ => rfl) (by decide) (by decide) (by decide) (Nat.le_of_ble_eq_true rfl) (Nat.le_of_ble_eq_true rfl) dX10_init_249 (fun qq13 H hP hD hS => ?_)
  refine W.cs (cells' := 13) (slots' := 9763) rfl rfl ?_
  refine va_putF (D := D) (ci := 10) (v := .ref qq13) (ty := .array .int) (C := RX10) (T := TX10) (N := 96) hx hb hts inlX10 tyX10 tyX10_ok nmX10 hown hK hP hD hS 0 rfl rfl 21 (by decide) (hts _ q205) (fun _ h => h) rfl hin rfl (by decide +kernel) rfl rfl (Nat.le_of_ble_eq_true rfl) dX10_init_251 (fun H locs hP hD hS => ?_)
  refine lv_aload_n hx hb dX10_init_254 rfl (lv_at hl 0 rfl) ?_
  refine lv_bipush (v := 32) hx hb dX10_init_255 (by decide) ?_
  refine vz_newa (t0 := 0) (atype := .int) (ty := .int) (a0 := (32, .inl (fun _ => 0))) hx hb (hts _ q70) rfl rfl (fun _ _ h => h) hK hP hD hS hA (fun _ => rfl) (by decide) (by decide) (by decide) (Nat.le_of_ble_eq_true rfl) (Nat.le_of_ble_eq_true rfl) dX10_init_257 (fun qq14 H hP hD hS => ?_)
  refine W.cs (cells' := 14) (slots' := 9795) rfl rfl ?_
  refine va_putF (D := D) (ci := 10) (v := .ref qq14) (ty := .array .int) (C := RX10) (T := TX10) (N := 96) hx hb hts inlX10 tyX10 tyX10_ok nmX10 hown hK hP hD hS 0 rfl rfl 22 (by decide) (hts _ q206) (fun _ h => h) rfl hin rfl (by decide +kernel) rfl rfl (Nat.le_of_ble_eq_true rfl) dX10_init_259 (fun H locs hP hD hS => ?_)
  refine lv_aload_n hx hb dX10_init_262 rfl (lv_at hl 0 rfl) ?_
  refine lv_iconst (v := 2) hx hb dX10_init_263 (by decide) ?_
  refine vz_newa (t0 := 0) (atype := .int) (ty := .int) (a0 := (2, .inl (fun _ => 0))) hx hb (hts _ q70) rfl rfl (fun _ _ h => h) hK hP hD hS hA (fun _ => rfl) (by decide) (by decide) (by decide) (Nat.le_of_ble_eq_true rfl) (Nat.le_of_ble_eq_true rfl) dX10_init_264 (fun qq15 H hP hD hS => ?_)
  refine W.cs (cells' := 15) (slots' := 9797) rfl rfl ?_
  refine va_putF (D := D) (ci := 10) (v := .ref qq15) (ty := .array .int) (C := RX10) (T := TX10) (N := 96) hx hb hts inlX10 tyX10 tyX10_ok nmX10 hown hK hP hD hS 0 rfl rfl 23 (by decide) (hts _ q207) (fun _ h => h) rfl hin rfl (by decide +kernel) rfl rfl (Nat.le_of_ble_eq_true rfl) dX10_init_266 (fun H locs hP hD hS => ?_)
  refine lv_aload_n hx hb dX10_init_269 rfl (lv_at hl 0 rfl) ?_
  refine lv_sipush (v := 500) hx hb dX10_init_270 (by decide) ?_
  refine vz_newa (t0 := 0) (atype := .int) (ty := .int) (a0 := (500, .inl (fun _ => 0))) hx hb (hts _ q70) rfl rfl (fun _ _ h => h) hK hP hD hS hA (fun _ => rfl) (by decide) (by decide) (by decide) (Nat.le_of_ble_eq_true rfl) (Nat.le_of_ble_eq_true rfl) dX10_init_273 (fun qq16 H hP hD hS => ?_)
  refine W.cs (cells' := 16) (slots' := 10297) rfl rfl ?_
  refine va_putF (D := D) (ci := 10) (v := .ref qq16) (ty := .array .int) (C := RX10) (T := TX10) (N := 96) hx hb hts inlX10 tyX10 tyX10_ok nmX10 hown hK hP hD hS 0 rfl rfl 30 (by decide) (hts _ q208) (fun _ h => h) rfl hin rfl (by decide +kernel) rfl rfl (Nat.le_of_ble_eq_true rfl) dX10_init_275 (fun H locs hP hD hS => ?_)
  refine lv_aload_n hx hb dX10_init_278 rfl (lv_at hl 0 rfl) ?_
  refine lv_sipush (v := 500) hx hb dX10_init_279 (by decide) ?_
  refine vz_newa (t0 := 0) (atype := .int) (ty := .int) (a0 := (500, .inl (fun _ => 0))) hx hb (hts _ q70) rfl rfl (fun _ _ h => h) hK hP hD hS hA (fun _ => rfl) (by decide) (by decide) (by decide) (Nat.le_of_ble_eq_true rfl) (Nat.le_of_ble_eq_true rfl) dX10_init_282 (fun qq17 H hP hD hS => ?_)
  refine W.cs (cells' := 17) (slots' := 10797) rfl rfl ?_
  refine va_putF (D := D) (ci := 10) (v := .ref qq17) (ty := .array .int) (C := RX10) (T := TX10) (N := 96) hx hb hts inlX10 tyX10 tyX10_ok nmX10 hown hK hP hD hS 0 rfl rfl 31 (by decide) (hts _ q209) (fun _ h => h) rfl hin rfl (by decide +kernel) rfl rfl (Nat.le_of_ble_eq_true rfl) dX10_init_284 (fun H locs hP hD hS => ?_)
  refine lv_aload_n hx hb dX10_init_287 rfl (lv_at hl 0 rfl) ?_
  refine lv_sipush (v := 500) hx hb dX10_init_288 (by decide) ?_
  refine vz_newa (t0 := 0) (atype := .int) (ty := .int) (a0 := (500, .inl (fun _ => 0))) hx hb (hts _ q70) rfl rfl (fun _ _ h => h) hK hP hD hS hA (fun _ => rfl) (by decide) (by decide) (by decide) (Nat.le_of_ble_eq_true rfl) (Nat.le_of_ble_eq_true rfl) dX10_init_291 (fun qq18 H hP hD hS => ?_)
  refine W.cs (cells' := 18) (slots' := 11297) rfl rfl ?_
  refine va_putF (D := D) (ci := 10) (v := .ref qq18) (ty := .array .int) (C := RX10) (T := TX10) (N := 96) hx hb hts inlX10 tyX10 tyX10_ok nmX10 hown hK hP hD hS 0 rfl rfl 32 (by decide) (hts _ q210) (fun _ h => h) rfl hin rfl (by decide +kernel) rfl rfl (Nat.le_of_ble_eq_true rfl) dX10_init_293 (fun H locs hP hD hS => ?_)
  refine lv_aload_n hx hb dX10_init_296 rfl (lv_at hl 0 rfl) ?_
  refine lv_sipush (v := 1000) hx hb dX10_init_297 (by decide) ?_
  refine vz_newa (t0 := 0) (atype := .int) (ty := .int) (a0 := (1000, .inl (fun _ => 0))) hx hb (hts _ q70) rfl rfl (fun _ _ h => h) hK hP hD hS hA (fun _ => rfl) (by decide) (by decide) (by decide) (Nat.le_of_ble_eq_true rfl) (Nat.le_of_ble_eq_true rfl) dX10_init_300 (fun qq19 H hP hD hS => ?_)
  refine W.cs (cells' := 19) (slots' := 12297) rfl rfl ?_
  refine va_putF (D := D) (ci := 10) (v := .ref qq19) (ty := .array .int) (C := RX10) (T := TX10) (N := 96) hx hb hts inlX10 tyX10 tyX10_ok nmX10 hown hK hP hD hS 0 rfl rfl 34 (by decide) (hts _ q211) (fun _ h => h) rfl hin rfl (by decide +kernel) rfl rfl (Nat.le_of_ble_eq_true rfl) dX10_init_302 (fun H locs hP hD hS => ?_)
  refine lv_aload_n hx hb dX10_init_305 rfl (lv_at hl 0 rfl) ?_
  refine lv_sipush (v := 1000) hx hb dX10_init_306 (by decide) ?_
  refine vz_newa (t0 := 0) (atype := .int) (ty := .int) (a0 := (1000, .inl (fun _ => 0))) hx hb (hts _ q70) rfl rfl (fun _ _ h => h) hK hP hD hS hA (fun _ => rfl) (by decide) (by decide) (by decide) (Nat.le_of_ble_eq_true rfl) (Nat.le_of_ble_eq_true rfl) dX10_init_309 (fun qq20 H hP hD hS => ?_)
  refine W.cs (cells' := 20) (slots' := 13297) rfl rfl ?_
  refine va_putF (D := D) (ci := 10) (v := .ref qq20) (ty := .array .int) (C := RX10) (T := TX10) (N := 96) hx hb hts inlX10 tyX10 tyX10_ok nmX10 hown hK hP hD hS 0 rfl rfl 35 (by decide) (hts _ q212) (fun _ h => h) rfl hin rfl (by decide +kernel) rfl rfl (Nat.le_of_ble_eq_true rfl) dX10_init_311 (fun H locs hP hD hS => ?_)
  refine lv_aload_n hx hb dX10_init_314 rfl (lv_at hl 0 rfl) ?_
  refine lv_bipush (v := 12) hx hb dX10_init_315 (by decide) ?_
  refine vz_newa (t0 := 0) (atype := .int) (ty := .int) (a0 := (12, .inl (fun _ => 0))) hx hb (hts _ q70) rfl rfl (fun _ _ h => h) hK hP hD hS hA (fun _ => rfl) (by decide) (by decide) (by decide) (Nat.le_of_ble_eq_true rfl) (Nat.le_of_ble_eq_true rfl) dX10_init_317 (fun qq21 H hP hD hS => ?_)
  refine W.cs (cells' := 21) (slots' := 13309) rfl rfl ?_
  refine va_putF (D := D) (ci := 10) (v := .ref qq21) (ty := .array .int) (C := RX10) (T := TX10) (N := 96) hx hb hts inlX10 tyX10 tyX10_ok nmX10 hown hK hP hD hS 0 rfl rfl 39 (by decide) (hts _ q213) (fun _ h => h) rfl hin rfl (by decide +kernel) rfl rfl (Nat.le_of_ble_eq_true rfl) dX10_init_319 (fun H locs hP hD hS => ?_)
  refine lv_aload_n hx hb dX10_init_322 rfl (lv_at hl 0 rfl) ?_
  refine lv_bipush (v := 12) hx hb dX10_init_323 (by decide) ?_
  refine vz_newa (t0 := 0) (atype := .int) (ty := .int) (a0 := (12, .inl (fun _ => 0))) hx hb (hts _ q70) rfl rfl (fun _ _ h => h) hK hP hD hS hA (fun _ => rfl) (by decide) (by decide) (by decide) (Nat.le_of_ble_eq_true rfl) (Nat.le_of_ble_eq_true rfl) dX10_init_325 (fun qq22 H hP hD hS => ?_)
  refine W.cs (cells' := 22) (slots' := 13321) rfl rfl ?_
  refine va_putF (D := D) (ci := 10) (v := .ref qq22) (ty := .array .int) (C := RX10) (T := TX10) (N := 96) hx hb hts inlX10 tyX10 tyX10_ok nmX10 hown hK hP hD hS 0 rfl rfl 40 (by decide) (hts _ q214) (fun _ h => h) rfl hin rfl (by decide +kernel) rfl rfl (Nat.le_of_ble_eq_true rfl) dX10_init_327 (fun H locs hP hD hS => ?_)
  refine lv_aload_n hx hb dX10_init_330 rfl (lv_at hl 0 rfl) ?_
  refine lv_bipush (v := 12) hx hb dX10_init_331 (by decide) ?_
  refine vz_newa (t0 := 0) (atype := .int) (ty := .int) (a0 := (12, .inl (fun _ => 0))) hx hb (hts _ q70) rfl rfl (fun _ _ h => h) hK hP hD hS hA (fun _ => rfl) (by decide) (by decide) (by decide) (Nat.le_of_ble_eq_true rfl) (Nat.le_of_ble_eq_true rfl) dX10_init_333 (fun qq23 H hP hD hS => ?_)
  refine W.cs (cells' := 23) (slots' := 13333) rfl rfl ?_
  refine va_putF (D := D) (ci := 10) (v := .ref qq23) (ty := .array .int) (C := RX10) (T := TX10) (N := 96) hx hb hts inlX10 tyX10 tyX10_ok nmX10 hown hK hP hD hS 0 rfl rfl 41 (by decide) (hts _ q215) (fun _ h => h) rfl hin rfl (by decide +kernel) rfl rfl (Nat.le_of_ble_eq_true rfl) dX10_init_335 (fun H locs hP hD hS => ?_)
  refine lv_aload_n hx hb dX10_init_338 rfl (lv_at hl 0 rfl) ?_
  refine lv_bipush (v := 12) hx hb dX10_init_339 (by decide) ?_
  refine vz_newa (t0 := 0) (atype := .int) (ty := .int) (a0 := (12, .inl (fun _ => 0))) hx hb (hts _ q70) rfl rfl (fun _ _ h => h) hK hP hD hS hA (fun _ => rfl) (by decide) (by decide) (by decide) (Nat.le_of_ble_eq_true rfl) (Nat.le_of_ble_eq_true rfl) dX10_init_341 (fun qq24 H hP hD hS => ?_)
  refine W.cs (cells' := 24) (slots' := 13345) rfl rfl ?_
  refine va_putF (D := D) (ci := 10) (v := .ref qq24) (ty := .array .int) (C := RX10) (T := TX10) (N := 96) hx hb hts inlX10 tyX10 tyX10_ok nmX10 hown hK hP hD hS 0 rfl rfl 42 (by decide) (hts _ q216) (fun _ h => h) rfl hin rfl (by decide +kernel) rfl rfl (Nat.le_of_ble_eq_true rfl) dX10_init_343 (fun H locs hP hD hS => ?_)
  refine lv_aload_n hx hb dX10_init_346 rfl (lv_at hl 0 rfl) ?_
  refine lv_bipush (v := 30) hx hb dX10_init_347 (by decide) ?_
  refine vz_newa (t0 := 0) (atype := .int) (ty := .int) (a0 := (30, .inl (fun _ => 0))) hx hb (hts _ q70) rfl rfl (fun _ _ h => h) hK hP hD hS hA (fun _ => rfl) (by decide) (by decide) (by decide) (Nat.le_of_ble_eq_true rfl) (Nat.le_of_ble_eq_true rfl) dX10_init_349 (fun qq25 H hP hD hS => ?_)
  refine W.cs (cells' := 25) (slots' := 13375) rfl rfl ?_
  refine va_putF (D := D) (ci := 10) (v := .ref qq25) (ty := .array .int) (C := RX10) (T := TX10) (N := 96) hx hb hts inlX10 tyX10 tyX10_ok nmX10 hown hK hP hD hS 0 rfl rfl 44 (by decide) (hts _ q217) (fun _ h => h) rfl hin rfl (by decide +kernel) rfl rfl (Nat.le_of_ble_eq_true rfl) dX10_init_351 (fun H locs hP hD hS => ?_)
  refine lv_aload_n hx hb dX10_init_354 rfl (lv_at hl 0 rfl) ?_
  refine lv_bipush (v := 30) hx hb dX10_init_355 (by decide) ?_
  refine vz_newa (t0 := 0) (atype := .int) (ty := .int) (a0 := (30, .inl (fun _ => 0))) hx hb (hts _ q70) rfl rfl (fun _ _ h => h) hK hP hD hS hA (fun _ => rfl) (by decide) (by decide) (by decide) (Nat.le_of_ble_eq_true rfl) (Nat.le_of_ble_eq_true rfl) dX10_init_357 (fun qq26 H hP hD hS => ?_)
  refine W.cs (cells' := 26) (slots' := 13405) rfl rfl ?_
  refine va_putF (D := D) (ci := 10) (v := .ref qq26) (ty := .array .int) (C := RX10) (T := TX10) (N := 96) hx hb hts inlX10 tyX10 tyX10_ok nmX10 hown hK hP hD hS 0 rfl rfl 45 (by decide) (hts _ q218) (fun _ h => h) rfl hin rfl (by decide +kernel) rfl rfl (Nat.le_of_ble_eq_true rfl) dX10_init_359 (fun H locs hP hD hS => ?_)
  refine lv_aload_n hx hb dX10_init_362 rfl (lv_at hl 0 rfl) ?_
  refine lv_bipush (v := 30) hx hb dX10_init_363 (by decide) ?_
  refine vz_newa (t0 := 0) (atype := .int) (ty := .int) (a0 := (30, .inl (fun _ => 0))) hx hb (hts _ q70) rfl rfl (fun _ _ h => h) hK hP hD hS hA (fun _ => rfl) (by decide) (by decide) (by decide) (Nat.le_of_ble_eq_true rfl) (Nat.le_of_ble_eq_true rfl) dX10_init_365 (fun qq27 H hP hD hS => ?_)
  refine W.cs (cells' := 27) (slots' := 13435) rfl rfl ?_
  refine va_putF (D := D) (ci := 10) (v := .ref qq27) (ty := .array .int) (C := RX10) (T := TX10) (N := 96) hx hb hts inlX10 tyX10 tyX10_ok nmX10 hown hK hP hD hS 0 rfl rfl 46 (by decide) (hts _ q219) (fun _ h => h) rfl hin rfl (by decide +kernel) rfl rfl (Nat.le_of_ble_eq_true rfl) dX10_init_367 (fun H locs hP hD hS => ?_)
  refine lv_aload_n hx hb dX10_init_370 rfl (lv_at hl 0 rfl) ?_
  refine lv_bipush (v := 30) hx hb dX10_init_371 (by decide) ?_
  refine vz_newa (t0 := 0) (atype := .int) (ty := .int) (a0 := (30, .inl (fun _ => 0))) hx hb (hts _ q70) rfl rfl (fun _ _ h => h) hK hP hD hS hA (fun _ => rfl) (by decide) (by decide) (by decide) (Nat.le_of_ble_eq_true rfl) (Nat.le_of_ble_eq_true rfl) dX10_init_373 (fun qq28 H hP hD hS => ?_)
  refine W.cs (cells' := 28) (slots' := 13465) rfl rfl ?_
  refine va_putF (D := D) (ci := 10) (v := .ref qq28) (ty := .array .int) (C := RX10) (T := TX10) (N := 96) hx hb hts inlX10 tyX10 tyX10_ok nmX10 hown hK hP hD hS 0 rfl rfl 47 (by decide) (hts _ q220) (fun _ h => h) rfl hin rfl (by decide +kernel) rfl rfl (Nat.le_of_ble_eq_true rfl) dX10_init_375 (fun H locs hP hD hS => ?_)
  refine lv_aload_n hx hb dX10_init_378 rfl (lv_at hl 0 rfl) ?_
  refine lv_iconst (v := 2) hx hb dX10_init_379 (by decide) ?_
  refine vz_newa (t0 := 3) (atype := .boolean) (ty := .boolean) (a0 := (2, .inl (fun _ => 0))) hx hb (hts _ q221) rfl rfl (fun _ _ h => h) hK hP hD hS hA (fun _ => rfl) (by decide) (by decide) (by decide) (Nat.le_of_ble_eq_true rfl) (Nat.le_of_ble_eq_true rfl) dX10_init_380 (fun qq29 H hP hD hS => ?_)
  refine W.cs (cells' := 29) (slots' := 13467) rfl rfl ?_
  refine va_putF (D := D) (ci := 10) (v := .ref qq29) (ty := .array .boolean) (C := RX10) (T := TX10) (N := 96) hx hb hts inlX10 tyX10 tyX10_ok nmX10 hown hK hP hD hS 0 rfl rfl 48 (by decide) (hts _ q222) (fun _ h => h) rfl hin rfl (by decide +kernel) rfl rfl (Nat.le_of_ble_eq_true rfl) dX10_init_382 (fun H locs hP hD hS => ?_)
  refine lv_aload_n hx hb dX10_init_385 rfl (lv_at hl 0 rfl) ?_
  refine lv_bipush (v := 30) hx hb dX10_init_386 (by decide) ?_
  refine vz_newa (t0 := 0) (atype := .int) (ty := .int) (a0 := (30, .inl (fun _ => 0))) hx hb (hts _ q70) rfl rfl (fun _ _ h => h) hK hP hD hS hA (fun _ => rfl) (by decide) (by decide) (by decide) (Nat.le_of_ble_eq_true rfl) (Nat.le_of_ble_eq_true rfl) dX10_init_388 (fun qq30 H hP hD hS => ?_)
  refine W.cs (cells' := 30) (slots' := 13497) rfl rfl ?_
  refine va_putF (D := D) (ci := 10) (v := .ref qq30) (ty := .array .int) (C := RX10) (T := TX10) (N := 96) hx hb hts inlX10 tyX10 tyX10_ok nmX10 hown hK hP hD hS 0 rfl rfl 50 (by decide) (hts _ q223) (fun _ h => h) rfl hin rfl (by decide +kernel) rfl rfl (Nat.le_of_ble_eq_true rfl) dX10_init_390 (fun H locs hP hD hS => ?_)
  refine lv_aload_n hx hb dX10_init_393 rfl (lv_at hl 0 rfl) ?_
  refine lv_sipush (v := 1230) hx hb dX10_init_394 (by decide) ?_
  refine vz_newa (t0 := 0) (atype := .int) (ty := .int) (a0 := (1230, .inl (fun _ => 0))) hx hb (hts _ q70) rfl rfl (fun _ _ h => h) hK hP hD hS hA (fun _ => rfl) (by decide) (by decide) (by decide) (Nat.le_of_ble_eq_true rfl) (Nat.le_of_ble_eq_true rfl) dX10_init_397 (fun qq31 H hP hD hS => ?_)
  refine W.cs (cells' := 31) (slots' := 14727) rfl rfl ?_
  refine va_putF (D := D) (ci := 10) (v := .ref qq31) (ty := .array .int) (C := RX10) (T := TX10) (N := 96) hx hb hts inlX10 tyX10 tyX10_ok nmX10 hown hK hP hD hS 0 rfl rfl 51 (by decide) (hts _ q224) (fun _ h => h) rfl hin rfl (by decide +kernel) rfl rfl (Nat.le_of_ble_eq_true rfl) dX10_init_399 (fun H locs hP hD hS => ?_)
  refine lv_aload_n hx hb dX10_init_402 rfl (lv_at hl 0 rfl) ?_
  refine lv_sipush (v := 1260) hx hb dX10_init_403 (by decide) ?_
  refine vz_newa (t0 := 0) (atype := .int) (ty := .int) (a0 := (1260, .inl (fun _ => 0))) hx hb (hts _ q70) rfl rfl (fun _ _ h => h) hK hP hD hS hA (fun _ => rfl) (by decide) (by decide) (by decide) (Nat.le_of_ble_eq_true rfl) (Nat.le_of_ble_eq_true rfl) dX10_init_406 (fun qq32 H hP hD hS => ?_)
  refine W.cs (cells' := 32) (slots' := 15987) rfl rfl ?_
  refine va_putF (D := D) (ci := 10) (v := .ref qq32) (ty := .array .int) (C := RX10) (T := TX10) (N := 96) hx hb hts inlX10 tyX10 tyX10_ok nmX10 hown hK hP hD hS 0 rfl rfl 52 (by decide) (hts _ q225) (fun _ h => h) rfl hin rfl (by decide +kernel) rfl rfl (Nat.le_of_ble_eq_true rfl) dX10_init_408 (fun H locs hP hD hS => ?_)
  refine lv_aload_n hx hb dX10_init_411 rfl (lv_at hl 0 rfl) ?_
  refine lv_sipush (v := 1260) hx hb dX10_init_412 (by decide) ?_
  refine vz_newa (t0 := 0) (atype := .int) (ty := .int) (a0 := (1260, .inl (fun _ => 0))) hx hb (hts _ q70) rfl rfl (fun _ _ h => h) hK hP hD hS hA (fun _ => rfl) (by decide) (by decide) (by decide) (Nat.le_of_ble_eq_true rfl) (Nat.le_of_ble_eq_true rfl) dX10_init_415 (fun qq33 H hP hD hS => ?_)
  refine W.cs (cells' := 33) (slots' := 17247) rfl rfl ?_
  refine va_putF (D := D) (ci := 10) (v := .ref qq33) (ty := .array .int) (C := RX10) (T := TX10) (N := 96) hx hb hts inlX10 tyX10 tyX10_ok nmX10 hown hK hP hD hS 0 rfl rfl 53 (by decide) (hts _ q226) (fun _ h => h) rfl hin rfl (by decide +kernel) rfl rfl (Nat.le_of_ble_eq_true rfl) dX10_init_417 (fun H locs hP hD hS => ?_)
  refine lv_aload_n hx hb dX10_init_420 rfl (lv_at hl 0 rfl) ?_
  refine lv_sipush (v := 1260) hx hb dX10_init_421 (by decide) ?_
  refine vz_newa (t0 := 0) (atype := .int) (ty := .int) (a0 := (1260, .inl (fun _ => 0))) hx hb (hts _ q70) rfl rfl (fun _ _ h => h) hK hP hD hS hA (fun _ => rfl) (by decide) (by decide) (by decide) (Nat.le_of_ble_eq_true rfl) (Nat.le_of_ble_eq_true rfl) dX10_init_424 (fun qq34 H hP hD hS => ?_)
  refine W.cs (cells' := 34) (slots' := 18507) rfl rfl ?_
  refine va_putF (D := D) (ci := 10) (v := .ref qq34) (ty := .array .int) (C := RX10) (T := TX10) (N := 96) hx hb hts inlX10 tyX10 tyX10_ok nmX10 hown hK hP hD hS 0 rfl rfl 54 (by decide) (hts _ q227) (fun _ h => h) rfl hin rfl (by decide +kernel) rfl rfl (Nat.le_of_ble_eq_true rfl) dX10_init_426 (fun H locs hP hD hS => ?_)
  refine lv_aload_n hx hb dX10_init_429 rfl (lv_at hl 0 rfl) ?_
  refine lv_sipush (v := 1260) hx hb dX10_init_430 (by decide) ?_
  refine vz_newa (t0 := 0) (atype := .int) (ty := .int) (a0 := (1260, .inl (fun _ => 0))) hx hb (hts _ q70) rfl rfl (fun _ _ h => h) hK hP hD hS hA (fun _ => rfl) (by decide) (by decide) (by decide) (Nat.le_of_ble_eq_true rfl) (Nat.le_of_ble_eq_true rfl) dX10_init_433 (fun qq35 H hP hD hS => ?_)
  refine W.cs (cells' := 35) (slots' := 19767) rfl rfl ?_
  refine va_putF (D := D) (ci := 10) (v := .ref qq35) (ty := .array .int) (C := RX10) (T := TX10) (N := 96) hx hb hts inlX10 tyX10 tyX10_ok nmX10 hown hK hP hD hS 0 rfl rfl 55 (by decide) (hts _ q228) (fun _ h => h) rfl hin rfl (by decide +kernel) rfl rfl (Nat.le_of_ble_eq_true rfl) dX10_init_435 (fun H locs hP hD hS => ?_)
  refine lv_aload_n hx hb dX10_init_438 rfl (lv_at hl 0 rfl) ?_
  refine lv_sipush (v := 1260) hx hb dX10_init_439 (by decide) ?_
  refine vz_newa (t0 := 0) (atype := .int) (ty := .int) (a0 := (1260, .inl (fun _ => 0))) hx hb (hts _ q70) rfl rfl (fun _ _ h => h) hK hP hD hS hA (fun _ => rfl) (by decide) (by decide) (by decide) (Nat.le_of_ble_eq_true rfl) (Nat.le_of_ble_eq_true rfl) dX10_init_442 (fun qq36 H hP hD hS => ?_)
  refine W.cs (cells' := 36) (slots' := 21027) rfl rfl ?_
  refine va_putF (D := D) (ci := 10) (v := .ref qq36) (ty := .array .int) (C := RX10) (T := TX10) (N := 96) hx hb hts inlX10 tyX10 tyX10_ok nmX10 hown hK hP hD hS 0 rfl rfl 56 (by decide) (hts _ q229) (fun _ h => h) rfl hin rfl (by decide +kernel) rfl rfl (Nat.le_of_ble_eq_true rfl) dX10_init_444 (fun H locs hP hD hS => ?_)
  refine lv_aload_n hx hb dX10_init_447 rfl (lv_at hl 0 rfl) ?_
  refine lv_sipush (v := 1260) hx hb dX10_init_448 (by decide) ?_
  refine vz_newa (t0 := 0) (atype := .int) (ty := .int) (a0 := (1260, .inl (fun _ => 0))) hx hb (hts _ q70) rfl rfl (fun _ _ h => h) hK hP hD hS hA (fun _ => rfl) (by decide) (by decide) (by decide) (Nat.le_of_ble_eq_true rfl) (Nat.le_of_ble_eq_true rfl) dX10_init_451 (fun qq37 H hP hD hS => ?_)
  refine W.cs (cells' := 37) (slots' := 22287) rfl rfl ?_
  refine va_putF (D := D) (ci := 10) (v := .ref qq37) (ty := .array .int) (C := RX10) (T := TX10) (N := 96) hx hb hts inlX10 tyX10 tyX10_ok nmX10 hown hK hP hD hS 0 rfl rfl 57 (by decide) (hts _ q230) (fun _ h => h) rfl hin rfl (by decide +kernel) rfl rfl (Nat.le_of_ble_eq_true rfl) dX10_init_453 (fun H locs hP hD hS => ?_)
  refine lv_aload_n hx hb dX10_init_456 rfl (lv_at hl 0 rfl) ?_
  refine lv_sipush (v := 15120) hx hb dX10_init_457 (by decide) ?_
  refine vz_newa (t0 := 0) (atype := .int) (ty := .int) (a0 := (15120, .inl (fun _ => 0))) hx hb (hts _ q70) rfl rfl (fun _ _ h => h) hK hP hD hS hA (fun _ => rfl) (by decide) (by decide) (by decide) (Nat.le_of_ble_eq_true rfl) (Nat.le_of_ble_eq_true rfl) dX10_init_460 (fun qq38 H hP hD hS => ?_)
  refine W.cs (cells' := 38) (slots' := 37407) rfl rfl ?_
  refine va_putF (D := D) (ci := 10) (v := .ref qq38) (ty := .array .int) (C := RX10) (T := TX10) (N := 96) hx hb hts inlX10 tyX10 tyX10_ok nmX10 hown hK hP hD hS 0 rfl rfl 58 (by decide) (hts _ q231) (fun _ h => h) rfl hin rfl (by decide +kernel) rfl rfl (Nat.le_of_ble_eq_true rfl) dX10_init_462 (fun H locs hP hD hS => ?_)
  refine lv_aload_n hx hb dX10_init_465 rfl (lv_at hl 0 rfl) ?_
  refine lv_sipush (v := 1230) hx hb dX10_init_466 (by decide) ?_
  refine vz_newa (t0 := 0) (atype := .int) (ty := .int) (a0 := (1230, .inl (fun _ => 0))) hx hb (hts _ q70) rfl rfl (fun _ _ h => h) hK hP hD hS hA (fun _ => rfl) (by decide) (by decide) (by decide) (Nat.le_of_ble_eq_true rfl) (Nat.le_of_ble_eq_true rfl) dX10_init_469 (fun qq39 H hP hD hS => ?_)
  refine W.cs (cells' := 39) (slots' := 38637) rfl rfl ?_
  refine va_putF (D := D) (ci := 10) (v := .ref qq39) (ty := .array .int) (C := RX10) (T := TX10) (N := 96) hx hb hts inlX10 tyX10 tyX10_ok nmX10 hown hK hP hD hS 0 rfl rfl 59 (by decide) (hts _ q232) (fun _ h => h) rfl hin rfl (by decide +kernel) rfl rfl (Nat.le_of_ble_eq_true rfl) dX10_init_471 (fun H locs hP hD hS => ?_)
  refine lv_aload_n hx hb dX10_init_474 rfl (lv_at hl 0 rfl) ?_
  refine lv_sipush (v := 240) hx hb dX10_init_475 (by decide) ?_
  refine vz_newa (t0 := 0) (atype := .int) (ty := .int) (a0 := (240, .inl (fun _ => 0))) hx hb (hts _ q70) rfl rfl (fun _ _ h => h) hK hP hD hS hA (fun _ => rfl) (by decide) (by decide) (by decide) (Nat.le_of_ble_eq_true rfl) (Nat.le_of_ble_eq_true rfl) dX10_init_478 (fun qq40 H hP hD hS => ?_)
  refine W.cs (cells' := 40) (slots' := 38877) rfl rfl ?_
  refine va_putF (D := D) (ci := 10) (v := .ref qq40) (ty := .array .int) (C := RX10) (T := TX10) (N := 96) hx hb hts inlX10 tyX10 tyX10_ok nmX10 hown hK hP hD hS 0 rfl rfl 60 (by decide) (hts _ q233) (fun _ h => h) rfl hin rfl (by decide +kernel) rfl rfl (Nat.le_of_ble_eq_true rfl) dX10_init_480 (fun H locs hP hD hS => ?_)
  refine lv_aload_n hx hb dX10_init_483 rfl (lv_at hl 0 rfl) ?_
  refine lv_sipush (v := 400) hx hb dX10_init_484 (by decide) ?_
  refine vz_newa (t0 := 0) (atype := .int) (ty := .int) (a0 := (400, .inl (fun _ => 0))) hx hb (hts _ q70) rfl rfl (fun _ _ h => h) hK hP hD hS hA (fun _ => rfl) (by decide) (by decide) (by decide) (Nat.le_of_ble_eq_true rfl) (Nat.le_of_ble_eq_true rfl) dX10_init_487 (fun qq41 H hP hD hS => ?_)
  refine W.cs (cells' := 41) (slots' := 39277) rfl rfl ?_
  refine va_putF (D := D) (ci := 10) (v := .ref qq41) (ty := .array .int) (C := RX10) (T := TX10) (N := 96) hx hb hts inlX10 tyX10 tyX10_ok nmX10 hown hK hP hD hS 0 rfl rfl 66 (by decide) (hts _ q234) (fun _ h => h) rfl hin rfl (by decide +kernel) rfl rfl (Nat.le_of_ble_eq_true rfl) dX10_init_489 (fun H locs hP hD hS => ?_)
  refine lv_aload_n hx hb dX10_init_492 rfl (lv_at hl 0 rfl) ?_
  refine lv_sipush (v := 400) hx hb dX10_init_493 (by decide) ?_
  refine vz_newa (t0 := 0) (atype := .int) (ty := .int) (a0 := (400, .inl (fun _ => 0))) hx hb (hts _ q70) rfl rfl (fun _ _ h => h) hK hP hD hS hA (fun _ => rfl) (by decide) (by decide) (by decide) (Nat.le_of_ble_eq_true rfl) (Nat.le_of_ble_eq_true rfl) dX10_init_496 (fun qq42 H hP hD hS => ?_)
  refine W.cs (cells' := 42) (slots' := 39677) rfl rfl ?_
  refine va_putF (D := D) (ci := 10) (v := .ref qq42) (ty := .array .int) (C := RX10) (T := TX10) (N := 96) hx hb hts inlX10 tyX10 tyX10_ok nmX10 hown hK hP hD hS 0 rfl rfl 67 (by decide) (hts _ q235) (fun _ h => h) rfl hin rfl (by decide +kernel) rfl rfl (Nat.le_of_ble_eq_true rfl) dX10_init_498 (fun H locs hP hD hS => ?_)
  refine lv_aload_n hx hb dX10_init_501 rfl (lv_at hl 0 rfl) ?_
  refine lv_sipush (v := 400) hx hb dX10_init_502 (by decide) ?_
  refine vz_newa (t0 := 0) (atype := .int) (ty := .int) (a0 := (400, .inl (fun _ => 0))) hx hb (hts _ q70) rfl rfl (fun _ _ h => h) hK hP hD hS hA (fun _ => rfl) (by decide) (by decide) (by decide) (Nat.le_of_ble_eq_true rfl) (Nat.le_of_ble_eq_true rfl) dX10_init_505 (fun qq43 H hP hD hS => ?_)
  refine W.cs (cells' := 43) (slots' := 40077) rfl rfl ?_
  refine va_putF (D := D) (ci := 10) (v := .ref qq43) (ty := .array .int) (C := RX10) (T := TX10) (N := 96) hx hb hts inlX10 tyX10 tyX10_ok nmX10 hown hK hP hD hS 0 rfl rfl 68 (by decide) (hts _ q236) (fun _ h => h) rfl hin rfl (by decide +kernel) rfl rfl (Nat.le_of_ble_eq_true rfl) dX10_init_507 (fun H locs hP hD hS => ?_)
  refine lv_aload_n hx hb dX10_init_510 rfl (lv_at hl 0 rfl) ?_
  refine lv_sipush (v := 400) hx hb dX10_init_511 (by decide) ?_
  refine vz_newa (t0 := 0) (atype := .int) (ty := .int) (a0 := (400, .inl (fun _ => 0))) hx hb (hts _ q70) rfl rfl (fun _ _ h => h) hK hP hD hS hA (fun _ => rfl) (by decide) (by decide) (by decide) (Nat.le_of_ble_eq_true rfl) (Nat.le_of_ble_eq_true rfl) dX10_init_514 (fun qq44 H hP hD hS => ?_)
  refine W.cs (cells' := 44) (slots' := 40477) rfl rfl ?_
  refine va_putF (D := D) (ci := 10) (v := .ref qq44) (ty := .array .int) (C := RX10) (T := TX10) (N := 96) hx hb hts inlX10 tyX10 tyX10_ok nmX10 hown hK hP hD hS 0 rfl rfl 69 (by decide) (hts _ q237) (fun _ h => h) rfl hin rfl (by decide +kernel) rfl rfl (Nat.le_of_ble_eq_true rfl) dX10_init_516 (fun H locs hP hD hS => ?_)
  refine lv_aload_n hx hb dX10_init_519 rfl (lv_at hl 0 rfl) ?_
  refine lv_sipush (v := 400) hx hb dX10_init_520 (by decide) ?_
  refine vz_newa (t0 := 0) (atype := .int) (ty := .int) (a0 := (400, .inl (fun _ => 0))) hx hb (hts _ q70) rfl rfl (fun _ _ h => h) hK hP hD hS hA (fun _ => rfl) (by decide) (by decide) (by decide) (Nat.le_of_ble_eq_true rfl) (Nat.le_of_ble_eq_true rfl) dX10_init_523 (fun qq45 H hP hD hS => ?_)
  refine W.cs (cells' := 45) (slots' := 40877) rfl rfl ?_
  refine va_putF (D := D) (ci := 10) (v := .ref qq45) (ty := .array .int) (C := RX10) (T := TX10) (N := 96) hx hb hts inlX10 tyX10 tyX10_ok nmX10 hown hK hP hD hS 0 rfl rfl 70 (by decide) (hts _ q238) (fun _ h => h) rfl hin rfl (by decide +kernel) rfl rfl (Nat.le_of_ble_eq_true rfl) dX10_init_525 (fun H locs hP hD hS => ?_)
  refine lv_aload_n hx hb dX10_init_528 rfl (lv_at hl 0 rfl) ?_
  refine lv_sipush (v := 400) hx hb dX10_init_529 (by decide) ?_
  refine vz_newa (t0 := 0) (atype := .int) (ty := .int) (a0 := (400, .inl (fun _ => 0))) hx hb (hts _ q70) rfl rfl (fun _ _ h => h) hK hP hD hS hA (fun _ => rfl) (by decide) (by decide) (by decide) (Nat.le_of_ble_eq_true rfl) (Nat.le_of_ble_eq_true rfl) dX10_init_532 (fun qq46 H hP hD hS => ?_)
  refine W.cs (cells' := 46) (slots' := 41277) rfl rfl ?_
  refine va_putF (D := D) (ci := 10) (v := .ref qq46) (ty := .array .int) (C := RX10) (T := TX10) (N := 96) hx hb hts inlX10 tyX10 tyX10_ok nmX10 hown hK hP hD hS 0 rfl rfl 71 (by decide) (hts _ q239) (fun _ h => h) rfl hin rfl (by decide +kernel) rfl rfl (Nat.le_of_ble_eq_true rfl) dX10_init_534 (fun H locs hP hD hS => ?_)
  refine lv_aload_n hx hb dX10_init_537 rfl (lv_at hl 0 rfl) ?_
  refine lv_sipush (v := 400) hx hb dX10_init_538 (by decide) ?_
  refine vz_newa (t0 := 0) (atype := .int) (ty := .int) (a0 := (400, .inl (fun _ => 0))) hx hb (hts _ q70) rfl rfl (fun _ _ h => h) hK hP hD hS hA (fun _ => rfl) (by decide) (by decide) (by decide) (Nat.le_of_ble_eq_true rfl) (Nat.le_of_ble_eq_true rfl) dX10_init_541 (fun qq47 H hP hD hS => ?_)
  refine W.cs (cells' := 47) (slots' := 41677) rfl rfl ?_
  refine va_putF (D := D) (ci := 10) (v := .ref qq47) (ty := .array .int) (C := RX10) (T := TX10) (N := 96) hx hb hts inlX10 tyX10 tyX10_ok nmX10 hown hK hP hD hS 0 rfl rfl 72 (by decide) (hts _ q240) (fun _ h => h) rfl hin rfl (by decide +kernel) rfl rfl (Nat.le_of_ble_eq_true rfl) dX10_init_543 (fun H locs hP hD hS => ?_)
  refine lv_aload_n hx hb dX10_init_546 rfl (lv_at hl 0 rfl) ?_
  refine lv_sipush (v := 400) hx hb dX10_init_547 (by decide) ?_
  refine vz_newa (t0 := 0) (atype := .int) (ty := .int) (a0 := (400, .inl (fun _ => 0))) hx hb (hts _ q70) rfl rfl (fun _ _ h => h) hK hP hD hS hA (fun _ => rfl) (by decide) (by decide) (by decide) (Nat.le_of_ble_eq_true rfl) (Nat.le_of_ble_eq_true rfl) dX10_init_550 (fun qq48 H hP hD hS => ?_)
  refine W.cs (cells' := 48) (slots' := 42077) rfl rfl ?_
  refine va_putF (D := D) (ci := 10) (v := .ref qq48) (ty := .array .int) (C := RX10) (T := TX10) (N := 96) hx hb hts inlX10 tyX10 tyX10_ok nmX10 hown hK hP hD hS 0 rfl rfl 73 (by decide) (hts _ q241) (fun _ h => h) rfl hin rfl (by decide +kernel) rfl rfl (Nat.le_of_ble_eq_true rfl) dX10_init_552 (fun H locs hP hD hS => ?_)
  refine lv_aload_n hx hb dX10_init_555 rfl (lv_at hl 0 rfl) ?_
  refine lv_bipush (v := 72) hx hb dX10_init_556 (by decide) ?_
  refine vz_newa (t0 := 0) (atype := .int) (ty := .int) (a0 := (72, .inl (fun _ => 0))) hx hb (hts _ q70) rfl rfl (fun _ _ h => h) hK hP hD hS hA (fun _ => rfl) (by decide) (by decide) (by decide) (Nat.le_of_ble_eq_true rfl) (Nat.le_of_ble_eq_true rfl) dX10_init_558 (fun qq49 H hP hD hS => ?_)
  refine W.cs (cells' := 49) (slots' := 42149) rfl rfl ?_
  refine va_putF (D := D) (ci := 10) (v := .ref qq49) (ty := .array .int) (C := RX10) (T := TX10) (N := 96) hx hb hts inlX10 tyX10 tyX10_ok nmX10 hown hK hP hD hS 0 rfl rfl 75 (by decide) (hts _ q242) (fun _ h => h) rfl hin rfl (by decide +kernel) rfl rfl (Nat.le_of_ble_eq_true rfl) dX10_init_560 (fun H locs hP hD hS => ?_)
  refine lv_aload_n hx hb dX10_init_563 rfl (lv_at hl 0 rfl) ?_
  refine lv_bipush (v := 36) hx hb dX10_init_564 (by decide) ?_
  refine vz_newa (t0 := 0) (atype := .int) (ty := .int) (a0 := (36, .inl (fun _ => 0))) hx hb (hts _ q70) rfl rfl (fun _ _ h => h) hK hP hD hS hA (fun _ => rfl) (by decide) (by decide) (by decide) (Nat.le_of_ble_eq_true rfl) (Nat.le_of_ble_eq_true rfl) dX10_init_566 (fun qq50 H hP hD hS => ?_)
  refine W.cs (cells' := 50) (slots' := 42185) rfl rfl ?_
  refine va_putF (D := D) (ci := 10) (v := .ref qq50) (ty := .array .int) (C := RX10) (T := TX10) (N := 96) hx hb hts inlX10 tyX10 tyX10_ok nmX10 hown hK hP hD hS 0 rfl rfl 76 (by decide) (hts _ q243) (fun _ h => h) rfl hin rfl (by decide +kernel) rfl rfl (Nat.le_of_ble_eq_true rfl) dX10_init_568 (fun H locs hP hD hS => ?_)
  refine lv_aload_n hx hb dX10_init_571 rfl (lv_at hl 0 rfl) ?_
  refine lv_bipush (v := 12) hx hb dX10_init_572 (by decide) ?_
  refine vz_newa (t0 := 0) (atype := .int) (ty := .int) (a0 := (12, .inl (fun _ => 0))) hx hb (hts _ q70) rfl rfl (fun _ _ h => h) hK hP hD hS hA (fun _ => rfl) (by decide) (by decide) (by decide) (Nat.le_of_ble_eq_true rfl) (Nat.le_of_ble_eq_true rfl) dX10_init_574 (fun qq51 H hP hD hS => ?_)
  refine W.cs (cells' := 51) (slots' := 42197) rfl rfl ?_
  refine va_putF (D := D) (ci := 10) (v := .ref qq51) (ty := .array .int) (C := RX10) (T := TX10) (N := 96) hx hb hts inlX10 tyX10 tyX10_ok nmX10 hown hK hP hD hS 0 rfl rfl 77 (by decide) (hts _ q244) (fun _ h => h) rfl hin rfl (by decide +kernel) rfl rfl (Nat.le_of_ble_eq_true rfl) dX10_init_576 (fun H locs hP hD hS => ?_)
  refine lv_aload_n hx hb dX10_init_579 rfl (lv_at hl 0 rfl) ?_
  refine lv_bipush (v := 12) hx hb dX10_init_580 (by decide) ?_
  refine vz_newa (t0 := 0) (atype := .int) (ty := .int) (a0 := (12, .inl (fun _ => 0))) hx hb (hts _ q70) rfl rfl (fun _ _ h => h) hK hP hD hS hA (fun _ => rfl) (by decide) (by decide) (by decide) (Nat.le_of_ble_eq_true rfl) (Nat.le_of_ble_eq_true rfl) dX10_init_582 (fun qq52 H hP hD hS => ?_)
  refine W.cs (cells' := 52) (slots' := 42209) rfl rfl ?_
  refine va_putF (D := D) (ci := 10) (v := .ref qq52) (ty := .array .int) (C := RX10) (T := TX10) (N := 96) hx hb hts inlX10 tyX10 tyX10_ok nmX10 hown hK hP hD hS 0 rfl rfl 78 (by decide) (hts _ q245) (fun _ h => h) rfl hin rfl (by decide +kernel) rfl rfl (Nat.le_of_ble_eq_true rfl) dX10_init_584 (fun H locs hP hD hS => ?_)
  refine lv_aload_n hx hb dX10_init_587 rfl (lv_at hl 0 rfl) ?_
  refine lv_sipush (v := 420) hx hb dX10_init_588 (by decide) ?_
  refine vz_newa (t0 := 0) (atype := .int) (ty := .int) (a0 := (420, .inl (fun _ => 0))) hx hb (hts _ q70) rfl rfl (fun _ _ h => h) hK hP hD hS hA (fun _ => rfl) (by decide) (by decide) (by decide) (Nat.le_of_ble_eq_true rfl) (Nat.le_of_ble_eq_true rfl) dX10_init_591 (fun qq53 H hP hD hS => ?_)
  refine W.cs (cells' := 53) (slots' := 42629) rfl rfl ?_
  refine va_putF (D := D) (ci := 10) (v := .ref qq53) (ty := .array .int) (C := RX10) (T := TX10) (N := 96) hx hb hts inlX10 tyX10 tyX10_ok nmX10 hown hK hP hD hS 0 rfl rfl 80 (by decide) (hts _ q246) (fun _ h => h) rfl hin rfl (by decide +kernel) rfl rfl (Nat.le_of_ble_eq_true rfl) dX10_init_593 (fun H locs hP hD hS => ?_)
  refine lv_aload_n hx hb dX10_init_596 rfl (lv_at hl 0 rfl) ?_
  refine lv_sipush (v := 3360) hx hb dX10_init_597 (by decide) ?_
  refine vz_newa (t0 := 0) (atype := .int) (ty := .int) (a0 := (3360, .inl (fun _ => 0))) hx hb (hts _ q70) rfl rfl (fun _ _ h => h) hK hP hD hS hA (fun _ => rfl) (by decide) (by decide) (by decide) (Nat.le_of_ble_eq_true rfl) (Nat.le_of_ble_eq_true rfl) dX10_init_600 (fun qq54 H hP hD hS => ?_)
  refine W.cs (cells' := 54) (slots' := 45989) rfl rfl ?_
  refine va_putF (D := D) (ci := 10) (v := .ref qq54) (ty := .array .int) (C := RX10) (T := TX10) (N := 96) hx hb hts inlX10 tyX10 tyX10_ok nmX10 hown hK hP hD hS 0 rfl rfl 81 (by decide) (hts _ q247) (fun _ h => h) rfl hin rfl (by decide +kernel) rfl rfl (Nat.le_of_ble_eq_true rfl) dX10_init_602 (fun H locs hP hD hS => ?_)
  refine lv_aload_n hx hb dX10_init_605 rfl (lv_at hl 0 rfl) ?_
  refine lv_sipush (v := 560) hx hb dX10_init_606 (by decide) ?_
  refine vz_newa (t0 := 0) (atype := .int) (ty := .int) (a0 := (560, .inl (fun _ => 0))) hx hb (hts _ q70) rfl rfl (fun _ _ h => h) hK hP hD hS hA (fun _ => rfl) (by decide) (by decide) (by decide) (Nat.le_of_ble_eq_true rfl) (Nat.le_of_ble_eq_true rfl) dX10_init_609 (fun qq55 H hP hD hS => ?_)
  refine W.cs (cells' := 55) (slots' := 46549) rfl rfl ?_
  refine va_putF (D := D) (ci := 10) (v := .ref qq55) (ty := .array .int) (C := RX10) (T := TX10) (N := 96) hx hb hts inlX10 tyX10 tyX10_ok nmX10 hown hK hP hD hS 0 rfl rfl 82 (by decide) (hts _ q248) (fun _ h => h) rfl hin rfl (by decide +kernel) rfl rfl (Nat.le_of_ble_eq_true rfl) dX10_init_611 (fun H locs hP hD hS => ?_)
  refine lv_aload_n hx hb dX10_init_614 rfl (lv_at hl 0 rfl) ?_
  refine lv_bipush (v := 60) hx hb dX10_init_615 (by decide) ?_
  refine vz_newa (t0 := 0) (atype := .int) (ty := .int) (a0 := (60, .inl (fun _ => 0))) hx hb (hts _ q70) rfl rfl (fun _ _ h => h) hK hP hD hS hA (fun _ => rfl) (by decide) (by decide) (by decide) (Nat.le_of_ble_eq_true rfl) (Nat.le_of_ble_eq_true rfl) dX10_init_617 (fun qq56 H hP hD hS => ?_)
  refine W.cs (cells' := 56) (slots' := 46609) rfl rfl ?_
  refine va_putF (D := D) (ci := 10) (v := .ref qq56) (ty := .array .int) (C := RX10) (T := TX10) (N := 96) hx hb hts inlX10 tyX10 tyX10_ok nmX10 hown hK hP hD hS 0 rfl rfl 88 (by decide) (hts _ q249) (fun _ h => h) rfl hin rfl (by decide +kernel) rfl rfl (Nat.le_of_ble_eq_true rfl) dX10_init_619 (fun H locs hP hD hS => ?_)
  refine lv_aload_n hx hb dX10_init_622 rfl (lv_at hl 0 rfl) ?_
  refine lv_bipush (v := 60) hx hb dX10_init_623 (by decide) ?_
  refine vz_newa (t0 := 0) (atype := .int) (ty := .int) (a0 := (60, .inl (fun _ => 0))) hx hb (hts _ q70) rfl rfl (fun _ _ h => h) hK hP hD hS hA (fun _ => rfl) (by decide) (by decide) (by decide) (Nat.le_of_ble_eq_true rfl) (Nat.le_of_ble_eq_true rfl) dX10_init_625 (fun qq57 H hP hD hS => ?_)
  refine W.cs (cells' := 57) (slots' := 46669) rfl rfl ?_
  refine va_putF (D := D) (ci := 10) (v := .ref qq57) (ty := .array .int) (C := RX10) (T := TX10) (N := 96) hx hb hts inlX10 tyX10 tyX10_ok nmX10 hown hK hP hD hS 0 rfl rfl 89 (by decide) (hts _ q250) (fun _ h => h) rfl hin rfl (by decide +kernel) rfl rfl (Nat.le_of_ble_eq_true rfl) dX10_init_627 (fun H locs hP hD hS => ?_)
  refine lv_aload_n hx hb dX10_init_630 rfl (lv_at hl 0 rfl) ?_
  refine lv_bipush (v := 60) hx hb dX10_init_631 (by decide) ?_
  refine vz_newa (t0 := 0) (atype := .int) (ty := .int) (a0 := (60, .inl (fun _ => 0))) hx hb (hts _ q70) rfl rfl (fun _ _ h => h) hK hP hD hS hA (fun _ => rfl) (by decide) (by decide) (by decide) (Nat.le_of_ble_eq_true rfl) (Nat.le_of_ble_eq_true rfl) dX10_init_633 (fun qq58 H hP hD hS => ?_)
  refine W.cs (cells' := 58) (slots' := 46729) rfl rfl ?_
  refine va_putF (D := D) (ci := 10) (v := .ref qq58) (ty := .array .int) (C := RX10) (T := TX10) (N := 96) hx hb hts inlX10 tyX10 tyX10_ok nmX10 hown hK hP hD hS 0 rfl rfl 90 (by decide) (hts _ q251) (fun _ h => h) rfl hin rfl (by decide +kernel) rfl rfl (Nat.le_of_ble_eq_true rfl) dX10_init_635 (fun H locs hP hD hS => ?_)
  refine lv_aload_n hx hb dX10_init_638 rfl (lv_at hl 0 rfl) ?_
  refine lv_sipush (v := 1100) hx hb dX10_init_639 (by decide) ?_
  refine vz_newa (t0 := 0) (atype := .int) (ty := .int) (a0 := (1100, .inl (fun _ => 0))) hx hb (hts _ q70) rfl rfl (fun _ _ h => h) hK hP hD hS hA (fun _ => rfl) (by decide) (by decide) (by decide) (Nat.le_of_ble_eq_true rfl) (Nat.le_of_ble_eq_true rfl) dX10_init_642 (fun qq59 H hP hD hS => ?_)
  refine W.cs (cells' := 59) (slots' := 47829) rfl rfl ?_
  refine va_putF (D := D) (ci := 10) (v := .ref qq59) (ty := .array .int) (C := RX10) (T := TX10) (N := 96) hx hb hts inlX10 tyX10 tyX10_ok nmX10 hown hK hP hD hS 0 rfl rfl 91 (by decide) (hts _ q252) (fun _ h => h) rfl hin rfl (by decide +kernel) rfl rfl (Nat.le_of_ble_eq_true rfl) dX10_init_644 (fun H locs hP hD hS => ?_)
  refine lv_aload_n hx hb dX10_init_647 rfl (lv_at hl 0 rfl) ?_
  refine lv_sipush (v := 244) hx hb dX10_init_648 (by decide) ?_
  refine vz_newa (t0 := 0) (atype := .int) (ty := .int) (a0 := (244, .inl (fun _ => 0))) hx hb (hts _ q70) rfl rfl (fun _ _ h => h) hK hP hD hS hA (fun _ => rfl) (by decide) (by decide) (by decide) (Nat.le_of_ble_eq_true rfl) (Nat.le_of_ble_eq_true rfl) dX10_init_651 (fun qq60 H hP hD hS => ?_)
  refine W.cs (cells' := 60) (slots' := 48073) rfl rfl ?_
  refine va_putF (D := D) (ci := 10) (v := .ref qq60) (ty := .array .int) (C := RX10) (T := TX10) (N := 96) hx hb hts inlX10 tyX10 tyX10_ok nmX10 hown hK hP hD hS 0 rfl rfl 94 (by decide) (hts _ q253) (fun _ h => h) rfl hin rfl (by decide +kernel) rfl rfl (Nat.le_of_ble_eq_true rfl) dX10_init_653 (fun H locs hP hD hS => ?_)
  refine lv_aload_n hx hb dX10_init_656 rfl (lv_at hl 0 rfl) ?_
  refine lv_iconst (v := 0) hx hb dX10_init_657 (by decide) ?_
  refine va_put (D := D) (ci := 10) (v := .int 0) (ty := .int) (C := RX10) (T := TX10) (N := 96) hx hb hts inlX10 tyX10 tyX10_ok nmX10 hown hK hP hD hS 0 rfl rfl 8 (by decide) (hts _ q254) (fun _ h => h) rfl (by decide +kernel) rfl rfl (Nat.le_of_ble_eq_true rfl) dX10_init_658 (fun H locs hP hD hS => ?_)
  exact vz_vret hx hb hr hlk hK hP hD hS (fun k => [qq1, qq2, qq3, qq4, qq5, qq6, qq7, qq8, qq9, qq10, qq11, qq12, qq13, qq14, qq15, qq16, qq17, qq18, qq19, qq20, qq21, qq22, qq23, qq24, qq25, qq26, qq27, qq28, qq29, qq30, qq31, qq32, qq33, qq34, qq35, qq36, qq37, qq38, qq39, qq40, qq41, qq42, qq43, qq44, qq45, qq46, qq47, qq48, qq49, qq50, qq51, qq52, qq53, qq54, qq55, qq56, qq57, qq58, qq59, qq60].getD k 0) trivial [0, 1, 2, 3, 4, 5, 6, 7, 8, 9, 10, 11, 12, 13, 14, 15, 16, 17, 18, 19, 20, 21, 22, 23, 24, 25, 26, 27, 28, 29, 30, 31, 32, 33, 34, 35, 36, 37, 38, 39, 40, 41, 42, 43, 44, 45, 46, 47, 48, 49, 50, 51, 52, 53, 54, 55, 56, 57, 58, 59, 60] rfl (by decide) (Nat.le_of_ble_eq_true rfl) (Nat.le_of_ble_eq_true rfl) dX10_init_661
