theorem dX7_init_0 : decode cX7_init 0 = .ok (.aload_n 0, 1) := by decide +kernel
theorem dX7_init_1 : decode cX7_init 1 = .ok (.invokespecial 1, 3) := by decide +kernel
theorem dX7_init_4 : decode cX7_init 4 = .ok (.aload_n 0, 1) := by decide +kernel
theorem dX7_init_5 : decode cX7_init 5 = .ok (.sipush 256, 3) := by decide +kernel
theorem dX7_init_8 : decode cX7_init 8 = .ok (.newarray .int, 2) := by decide +kernel
theorem dX7_init_10 : decode cX7_init 10 = .ok (.putfield 7, 3) := by decide +kernel
theorem dX7_init_13 : decode cX7_init 13 = .ok (.aload_n 0, 1) := by decide +kernel
theorem dX7_init_14 : decode cX7_init 14 = .ok (.sipush 5120, 3) := by decide +kernel
theorem dX7_init_17 : decode cX7_init 17 = .ok (.newarray .int, 2) := by decide +kernel
theorem dX7_init_19 : decode cX7_init 19 = .ok (.putfield 13, 3) := by decide +kernel
theorem dX7_init_22 : decode cX7_init 22 = .ok (.aload_n 0, 1) := by decide +kernel
theorem dX7_init_23 : decode cX7_init 23 = .ok (.sipush 256, 3) := by decide +kernel
theorem dX7_init_26 : decode cX7_init 26 = .ok (.newarray .boolean, 2) := by decide +kernel
theorem dX7_init_28 : decode cX7_init 28 = .ok (.putfield 16, 3) := by decide +kernel
theorem dX7_init_31 : decode cX7_init 31 = .ok (.aload_n 0, 1) := by decide +kernel
theorem dX7_init_32 : decode cX7_init 32 = .ok (.bipush 13, 2) := by decide +kernel
theorem dX7_init_34 : decode cX7_init 34 = .ok (.putfield 20, 3) := by decide +kernel
theorem dX7_init_37 : decode cX7_init 37 = .ok (.aload_n 0, 1) := by decide +kernel
theorem dX7_init_38 : decode cX7_init 38 = .ok (.bipush 8, 2) := by decide +kernel
theorem dX7_init_40 : decode cX7_init 40 = .ok (.newarray .int, 2) := by decide +kernel
theorem dX7_init_42 : decode cX7_init 42 = .ok (.putfield 24, 3) := by decide +kernel
theorem dX7_init_45 : decode cX7_init 45 = .ok (.aload_n 0, 1) := by decide +kernel
theorem dX7_init_46 : decode cX7_init 46 = .ok (.sipush 240, 3) := by decide +kernel
theorem dX7_init_49 : decode cX7_init 49 = .ok (.newarray .int, 2) := by decide +kernel
theorem dX7_init_51 : decode cX7_init 51 = .ok (.putfield 27, 3) := by decide +kernel
theorem dX7_init_54 : decode cX7_init 54 = .ok (.aload_n 0, 1) := by decide +kernel
theorem dX7_init_55 : decode cX7_init 55 = .ok (.sipush 28800, 3) := by decide +kernel
theorem dX7_init_58 : decode cX7_init 58 = .ok (.newarray .int, 2) := by decide +kernel
theorem dX7_init_60 : decode cX7_init 60 = .ok (.putfield 30, 3) := by decide +kernel
theorem dX7_init_63 : decode cX7_init 63 = .ok (.aload_n 0, 1) := by decide +kernel
theorem dX7_init_64 : decode cX7_init 64 = .ok (.bipush 6, 2) := by decide +kernel
theorem dX7_init_66 : decode cX7_init 66 = .ok (.newarray .int, 2) := by decide +kernel
theorem dX7_init_68 : decode cX7_init 68 = .ok (.putfield 33, 3) := by decide +kernel
theorem dX7_init_71 : decode cX7_init 71 = .ok (.aload_n 0, 1) := by decide +kernel
theorem dX7_init_72 : decode cX7_init 72 = .ok (.bipush 6, 2) := by decide +kernel
theorem dX7_init_74 : decode cX7_init 74 = .ok (.newarray .int, 2) := by decide +kernel
theorem dX7_init_76 : decode cX7_init 76 = .ok (.putfield 36, 3) := by decide +kernel
theorem dX7_init_79 : decode cX7_init 79 = .ok (.aload_n 0, 1) := by decide +kernel
theorem dX7_init_80 : decode cX7_init 80 = .ok (.sipush 768, 3) := by decide +kernel
theorem dX7_init_83 : decode cX7_init 83 = .ok (.newarray .int, 2) := by decide +kernel
theorem dX7_init_85 : decode cX7_init 85 = .ok (.putfield 39, 3) := by decide +kernel
theorem dX7_init_88 : decode cX7_init 88 = .ok (.aload_n 0, 1) := by decide +kernel
theorem dX7_init_89 : decode cX7_init 89 = .ok (.bipush 6, 2) := by decide +kernel
theorem dX7_init_91 : decode cX7_init 91 = .ok (.newarray .int, 2) := by decide +kernel
theorem dX7_init_93 : decode cX7_init 93 = .ok (.putfield 42, 3) := by decide +kernel
theorem dX7_init_96 : decode cX7_init 96 = .ok (.aload_n 0, 1) := by decide +kernel
theorem dX7_init_97 : decode cX7_init 97 = .ok (.bipush 6, 2) := by decide +kernel
theorem dX7_init_99 : decode cX7_init 99 = .ok (.newarray .int, 2) := by decide +kernel
theorem dX7_init_101 : decode cX7_init 101 = .ok (.putfield 45, 3) := by decide +kernel
theorem dX7_init_104 : decode cX7_init 104 = .ok (.aload_n 0, 1) := by decide +kernel
theorem dX7_init_105 : decode cX7_init 105 = .ok (.bipush 6, 2) := by decide +kernel
theorem dX7_init_107 : decode cX7_init 107 = .ok (.newarray .int, 2) := by decide +kernel
theorem dX7_init_109 : decode cX7_init 109 = .ok (.putfield 48, 3) := by decide +kernel
theorem dX7_init_112 : decode cX7_init 112 = .ok (.aload_n 0, 1) := by decide +kernel
theorem dX7_init_113 : decode cX7_init 113 = .ok (.bipush 6, 2) := by decide +kernel
theorem dX7_init_115 : decode cX7_init 115 = .ok (.newarray .boolean, 2) := by decide +kernel
theorem dX7_init_117 : decode cX7_init 117 = .ok (.putfield 51, 3) := by decide +kernel
theorem dX7_init_120 : decode cX7_init 120 = .ok (.aload_n 0, 1) := by decide +kernel
theorem dX7_init_121 : decode cX7_init 121 = .ok (.sipush 3600, 3) := by decide +kernel
theorem dX7_init_124 : decode cX7_init 124 = .ok (.newarray .int, 2) := by decide +kernel
theorem dX7_init_126 : decode cX7_init 126 = .ok (.putfield 54, 3) := by decide +kernel
theorem dX7_init_129 : decode cX7_init 129 = .ok (.aload_n 0, 1) := by decide +kernel
theorem dX7_init_130 : decode cX7_init 130 = .ok (.sipush 6000, 3) := by decide +kernel
theorem dX7_init_133 : decode cX7_init 133 = .ok (.newarray .int, 2) := by decide +kernel
theorem dX7_init_135 : decode cX7_init 135 = .ok (.putfield 57, 3) := by decide +kernel
theorem dX7_init_138 : decode cX7_init 138 = .ok (.aload_n 0, 1) := by decide +kernel
theorem dX7_init_139 : decode cX7_init 139 = .ok (.sipush 150, 3) := by decide +kernel
theorem dX7_init_142 : decode cX7_init 142 = .ok (.newarray .int, 2) := by decide +kernel
theorem dX7_init_144 : decode cX7_init 144 = .ok (.putfield 60, 3) := by decide +kernel
theorem dX7_init_147 : decode cX7_init 147 = .ok (.aload_n 0, 1) := by decide +kernel
theorem dX7_init_148 : decode cX7_init 148 = .ok (.sipush 300, 3) := by decide +kernel
theorem dX7_init_151 : decode cX7_init 151 = .ok (.newarray .int, 2) := by decide +kernel
theorem dX7_init_153 : decode cX7_init 153 = .ok (.putfield 63, 3) := by decide +kernel
theorem dX7_init_156 : decode cX7_init 156 = .ok (.aload_n 0, 1) := by decide +kernel
theorem dX7_init_157 : decode cX7_init 157 = .ok (.bipush 40, 2) := by decide +kernel
theorem dX7_init_159 : decode cX7_init 159 = .ok (.newarray .int, 2) := by decide +kernel
theorem dX7_init_161 : decode cX7_init 161 = .ok (.putfield 66, 3) := by decide +kernel
theorem dX7_init_164 : decode cX7_init 164 = .ok (.iconst 0, 1) := by decide +kernel
theorem dX7_init_165 : decode cX7_init 165 = .ok (.istore_n 1, 1) := by decide +kernel
theorem dX7_init_166 : decode cX7_init 166 = .ok (.iload_n 1, 1) := by decide +kernel
theorem dX7_init_167 : decode cX7_init 167 = .ok (.sipush 256, 3) := by decide +kernel
theorem dX7_init_170 : decode cX7_init 170 = .ok (.if_icmp .ge 56, 3) := by decide +kernel
theorem dX7_init_173 : decode cX7_init 173 = .ok (.iload_n 1, 1) := by decide +kernel
theorem dX7_init_174 : decode cX7_init 174 = .ok (.bipush 65, 2) := by decide +kernel
theorem dX7_init_176 : decode cX7_init 176 = .ok (.if_icmp .lt 9, 3) := by decide +kernel
theorem dX7_init_179 : decode cX7_init 179 = .ok (.iload_n 1, 1) := by decide +kernel
theorem dX7_init_180 : decode cX7_init 180 = .ok (.bipush 90, 2) := by decide +kernel
theorem dX7_init_182 : decode cX7_init 182 = .ok (.if_icmp .le 15, 3) := by decide +kernel
theorem dX7_init_185 : decode cX7_init 185 = .ok (.iload_n 1, 1) := by decide +kernel
theorem dX7_init_186 : decode cX7_init 186 = .ok (.bipush 97, 2) := by decide +kernel
theorem dX7_init_188 : decode cX7_init 188 = .ok (.if_icmp .lt 13, 3) := by decide +kernel
theorem dX7_init_191 : decode cX7_init 191 = .ok (.iload_n 1, 1) := by decide +kernel
theorem dX7_init_192 : decode cX7_init 192 = .ok (.bipush 122, 2) := by decide +kernel
theorem dX7_init_194 : decode cX7_init 194 = .ok (.if_icmp .gt 7, 3) := by decide +kernel
theorem dX7_init_197 : decode cX7_init 197 = .ok (.iconst 1, 1) := by decide +kernel
theorem dX7_init_198 : decode cX7_init 198 = .ok (.goto 4, 3) := by decide +kernel
theorem dX7_init_201 : decode cX7_init 201 = .ok (.iconst 0, 1) := by decide +kernel
theorem dX7_init_202 : decode cX7_init 202 = .ok (.istore_n 2, 1) := by decide +kernel
theorem dX7_init_203 : decode cX7_init 203 = .ok (.aload_n 0, 1) := by decide +kernel
theorem dX7_init_204 : decode cX7_init 204 = .ok (.getfield 7, 3) := by decide +kernel
theorem dX7_init_207 : decode cX7_init 207 = .ok (.iload_n 1, 1) := by decide +kernel
theorem dX7_init_208 : decode cX7_init 208 = .ok (.iload_n 2, 1) := by decide +kernel
theorem dX7_init_209 : decode cX7_init 209 = .ok (.ifCond .eq 8, 3) := by decide +kernel
theorem dX7_init_212 : decode cX7_init 212 = .ok (.bipush 11, 2) := by decide +kernel
theorem dX7_init_214 : decode cX7_init 214 = .ok (.goto 5, 3) := by decide +kernel
theorem dX7_init_217 : decode cX7_init 217 = .ok (.bipush 12, 2) := by decide +kernel
theorem dX7_init_219 : decode cX7_init 219 = .ok (.iastore, 1) := by decide +kernel
theorem dX7_init_220 : decode cX7_init 220 = .ok (.iinc 1 1, 3) := by decide +kernel
theorem dX7_init_223 : decode cX7_init 223 = .ok (.goto (-57), 3) := by decide +kernel
theorem dX7_init_226 : decode cX7_init 226 = .ok (.aload_n 0, 1) := by decide +kernel
theorem dX7_init_227 : decode cX7_init 227 = .ok (.getfield 7, 3) := by decide +kernel
theorem dX7_init_230 : decode cX7_init 230 = .ok (.bipush 92, 2) := by decide +kernel
theorem dX7_init_232 : decode cX7_init 232 = .ok (.iconst 0, 1) := by decide +kernel
theorem dX7_init_233 : decode cX7_init 233 = .ok (.iastore, 1) := by decide +kernel
theorem dX7_init_234 : decode cX7_init 234 = .ok (.aload_n 0, 1) := by decide +kernel
theorem dX7_init_235 : decode cX7_init 235 = .ok (.getfield 7, 3) := by decide +kernel
theorem dX7_init_238 : decode cX7_init 238 = .ok (.bipush 123, 2) := by decide +kernel
theorem dX7_init_240 : decode cX7_init 240 = .ok (.iconst 1, 1) := by decide +kernel
theorem dX7_init_241 : decode cX7_init 241 = .ok (.iastore, 1) := by decide +kernel
theorem dX7_init_242 : decode cX7_init 242 = .ok (.aload_n 0, 1) := by decide +kernel
theorem dX7_init_243 : decode cX7_init 243 = .ok (.getfield 7, 3) := by decide +kernel
theorem dX7_init_246 : decode cX7_init 246 = .ok (.bipush 125, 2) := by decide +kernel
theorem dX7_init_248 : decode cX7_init 248 = .ok (.iconst 2, 1) := by decide +kernel
theorem dX7_init_249 : decode cX7_init 249 = .ok (.iastore, 1) := by decide +kernel
theorem dX7_init_250 : decode cX7_init 250 = .ok (.aload_n 0, 1) := by decide +kernel
theorem dX7_init_251 : decode cX7_init 251 = .ok (.getfield 7, 3) := by decide +kernel
theorem dX7_init_254 : decode cX7_init 254 = .ok (.bipush 13, 2) := by decide +kernel
theorem dX7_init_256 : decode cX7_init 256 = .ok (.iconst 5, 1) := by decide +kernel
theorem dX7_init_257 : decode cX7_init 257 = .ok (.iastore, 1) := by decide +kernel
theorem dX7_init_258 : decode cX7_init 258 = .ok (.aload_n 0, 1) := by decide +kernel
theorem dX7_init_259 : decode cX7_init 259 = .ok (.getfield 7, 3) := by decide +kernel
theorem dX7_init_262 : decode cX7_init 262 = .ok (.bipush 94, 2) := by decide +kernel
theorem dX7_init_264 : decode cX7_init 264 = .ok (.bipush 7, 2) := by decide +kernel
theorem dX7_init_266 : decode cX7_init 266 = .ok (.iastore, 1) := by decide +kernel
theorem dX7_init_267 : decode cX7_init 267 = .ok (.aload_n 0, 1) := by decide +kernel
theorem dX7_init_268 : decode cX7_init 268 = .ok (.getfield 7, 3) := by decide +kernel
theorem dX7_init_271 : decode cX7_init 271 = .ok (.iconst 0, 1) := by decide +kernel
theorem dX7_init_272 : decode cX7_init 272 = .ok (.bipush 9, 2) := by decide +kernel
theorem dX7_init_274 : decode cX7_init 274 = .ok (.iastore, 1) := by decide +kernel
theorem dX7_init_275 : decode cX7_init 275 = .ok (.aload_n 0, 1) := by decide +kernel
theorem dX7_init_276 : decode cX7_init 276 = .ok (.getfield 7, 3) := by decide +kernel
theorem dX7_init_279 : decode cX7_init 279 = .ok (.bipush 32, 2) := by decide +kernel
theorem dX7_init_281 : decode cX7_init 281 = .ok (.bipush 10, 2) := by decide +kernel
theorem dX7_init_283 : decode cX7_init 283 = .ok (.iastore, 1) := by decide +kernel
theorem dX7_init_284 : decode cX7_init 284 = .ok (.aload_n 0, 1) := by decide +kernel
theorem dX7_init_285 : decode cX7_init 285 = .ok (.getfield 7, 3) := by decide +kernel
theorem dX7_init_288 : decode cX7_init 288 = .ok (.bipush 126, 2) := by decide +kernel
theorem dX7_init_290 : decode cX7_init 290 = .ok (.bipush 13, 2) := by decide +kernel
theorem dX7_init_292 : decode cX7_init 292 = .ok (.iastore, 1) := by decide +kernel
theorem dX7_init_293 : decode cX7_init 293 = .ok (.aload_n 0, 1) := by decide +kernel
theorem dX7_init_294 : decode cX7_init 294 = .ok (.getfield 7, 3) := by decide +kernel
theorem dX7_init_297 : decode cX7_init 297 = .ok (.bipush 37, 2) := by decide +kernel
theorem dX7_init_299 : decode cX7_init 299 = .ok (.bipush 14, 2) := by decide +kernel
theorem dX7_init_301 : decode cX7_init 301 = .ok (.iastore, 1) := by decide +kernel
theorem dX7_init_302 : decode cX7_init 302 = .ok (.aload_n 0, 1) := by decide +kernel
theorem dX7_init_303 : decode cX7_init 303 = .ok (.getfield 7, 3) := by decide +kernel
theorem dX7_init_306 : decode cX7_init 306 = .ok (.bipush 127, 2) := by decide +kernel
theorem dX7_init_308 : decode cX7_init 308 = .ok (.bipush 15, 2) := by decide +kernel
theorem dX7_init_310 : decode cX7_init 310 = .ok (.iastore, 1) := by decide +kernel
theorem dX7_init_311 : decode cX7_init 311 = .ok (.aload_n 0, 1) := by decide +kernel
theorem dX7_init_312 : decode cX7_init 312 = .ok (.iconst 1, 1) := by decide +kernel
theorem dX7_init_313 : decode cX7_init 313 = .ok (.putfield 69, 3) := by decide +kernel
theorem dX7_init_316 : decode cX7_init 316 = .ok (.aload_n 0, 1) := by decide +kernel
theorem dX7_init_317 : decode cX7_init 317 = .ok (.getfield 57, 3) := by decide +kernel
theorem dX7_init_320 : decode cX7_init 320 = .ok (.iconst 0, 1) := by decide +kernel
theorem dX7_init_321 : decode cX7_init 321 = .ok (.bipush 112, 2) := by decide +kernel
theorem dX7_init_323 : decode cX7_init 323 = .ok (.iastore, 1) := by decide +kernel
theorem dX7_init_324 : decode cX7_init 324 = .ok (.aload_n 0, 1) := by decide +kernel
theorem dX7_init_325 : decode cX7_init 325 = .ok (.getfield 57, 3) := by decide +kernel
theorem dX7_init_328 : decode cX7_init 328 = .ok (.iconst 1, 1) := by decide +kernel
theorem dX7_init_329 : decode cX7_init 329 = .ok (.bipush 97, 2) := by decide +kernel
theorem dX7_init_331 : decode cX7_init 331 = .ok (.iastore, 1) := by decide +kernel
theorem dX7_init_332 : decode cX7_init 332 = .ok (.aload_n 0, 1) := by decide +kernel
theorem dX7_init_333 : decode cX7_init 333 = .ok (.getfield 57, 3) := by decide +kernel
theorem dX7_init_336 : decode cX7_init 336 = .ok (.iconst 2, 1) := by decide +kernel
theorem dX7_init_337 : decode cX7_init 337 = .ok (.bipush 114, 2) := by decide +kernel
theorem dX7_init_339 : decode cX7_init 339 = .ok (.iastore, 1) := by decide +kernel
theorem dX7_init_340 : decode cX7_init 340 = .ok (.aload_n 0, 1) := by decide +kernel
theorem dX7_init_341 : decode cX7_init 341 = .ok (.getfield 60, 3) := by decide +kernel
theorem dX7_init_344 : decode cX7_init 344 = .ok (.iconst 0, 1) := by decide +kernel
theorem dX7_init_345 : decode cX7_init 345 = .ok (.iconst 3, 1) := by decide +kernel
theorem dX7_init_346 : decode cX7_init 346 = .ok (.iastore, 1) := by decide +kernel
theorem dX7_init_347 : decode cX7_init 347 = .ok (.return_, 1) := by decide +kernel
theorem dX7_thrown_0 : decode cX7_thrown 0 = .ok (.aload_n 0, 1) := by decide +kernel
theorem dX7_thrown_1 : decode cX7_thrown 1 = .ok (.getfield 72, 3) := by decide +kernel
theorem dX7_thrown_4 : decode cX7_thrown 4 = .ok (.ireturn, 1) := by decide +kernel
theorem dX7_isSign_0 : decode cX7_isSign 0 = .ok (.iload_n 0, 1) := by decide +kernel
theorem dX7_isSign_1 : decode cX7_isSign 1 = .ok (.ifCond .lt 14, 3) := by decide +kernel
theorem dX7_isSign_4 : decode cX7_isSign 4 = .ok (.iload_n 0, 1) := by decide +kernel
theorem dX7_isSign_5 : decode cX7_isSign 5 = .ok (.sipush 256, 3) := by decide +kernel
theorem dX7_isSign_8 : decode cX7_isSign 8 = .ok (.if_icmp .ge 7, 3) := by decide +kernel
theorem dX7_isSign_11 : decode cX7_isSign 11 = .ok (.iconst 1, 1) := by decide +kernel
theorem dX7_isSign_12 : decode cX7_isSign 12 = .ok (.goto 4, 3) := by decide +kernel
theorem dX7_isSign_15 : decode cX7_isSign 15 = .ok (.iconst 0, 1) := by decide +kernel
theorem dX7_isSign_16 : decode cX7_isSign 16 = .ok (.ireturn, 1) := by decide +kernel
theorem dX7_category_0 : decode cX7_category 0 = .ok (.aload_n 0, 1) := by decide +kernel
theorem dX7_category_1 : decode cX7_category 1 = .ok (.iconst 0, 1) := by decide +kernel
theorem dX7_category_2 : decode cX7_category 2 = .ok (.putfield 72, 3) := by decide +kernel
theorem dX7_category_5 : decode cX7_category 5 = .ok (.iload_n 1, 1) := by decide +kernel
theorem dX7_category_6 : decode cX7_category 6 = .ok (.invokestatic 75, 3) := by decide +kernel
theorem dX7_category_9 : decode cX7_category 9 = .ok (.ifCond .eq 13, 3) := by decide +kernel
theorem dX7_category_12 : decode cX7_category 12 = .ok (.iload_n 2, 1) := by decide +kernel
theorem dX7_category_13 : decode cX7_category 13 = .ok (.ifCond .lt 9, 3) := by decide +kernel
theorem dX7_category_16 : decode cX7_category 16 = .ok (.iload_n 2, 1) := by decide +kernel
theorem dX7_category_17 : decode cX7_category 17 = .ok (.bipush 15, 2) := by decide +kernel
theorem dX7_category_19 : decode cX7_category 19 = .ok (.if_icmp .le 6, 3) := by decide +kernel
theorem dX7_category_22 : decode cX7_category 22 = .ok (.bipush (-2), 2) := by decide +kernel
theorem dX7_category_24 : decode cX7_category 24 = .ok (.ireturn, 1) := by decide +kernel
theorem dX7_category_25 : decode cX7_category 25 = .ok (.aload_n 0, 1) := by decide +kernel
theorem dX7_category_26 : decode cX7_category 26 = .ok (.getfield 7, 3) := by decide +kernel
theorem dX7_category_29 : decode cX7_category 29 = .ok (.iload_n 1, 1) := by decide +kernel
theorem dX7_category_30 : decode cX7_category 30 = .ok (.iload_n 2, 1) := by decide +kernel
theorem dX7_category_31 : decode cX7_category 31 = .ok (.iastore, 1) := by decide +kernel
theorem dX7_category_32 : decode cX7_category 32 = .ok (.iconst 0, 1) := by decide +kernel
theorem dX7_category_33 : decode cX7_category 33 = .ok (.istore 4, 2) := by decide +kernel
theorem dX7_category_35 : decode cX7_category 35 = .ok (.iload 4, 2) := by decide +kernel
theorem dX7_category_37 : decode cX7_category 37 = .ok (.aload_n 0, 1) := by decide +kernel
theorem dX7_category_38 : decode cX7_category 38 = .ok (.getfield 79, 3) := by decide +kernel
theorem dX7_category_41 : decode cX7_category 41 = .ok (.if_icmp .ge 27, 3) := by decide +kernel
theorem dX7_category_44 : decode cX7_category 44 = .ok (.iload_n 3, 1) := by decide +kernel
theorem dX7_category_45 : decode cX7_category 45 = .ok (.ifCond .eq 23, 3) := by decide +kernel
theorem dX7_category_48 : decode cX7_category 48 = .ok (.aload_n 0, 1) := by decide +kernel
theorem dX7_category_49 : decode cX7_category 49 = .ok (.getfield 13, 3) := by decide +kernel
theorem dX7_category_52 : decode cX7_category 52 = .ok (.sipush 256, 3) := by decide +kernel
theorem dX7_category_55 : decode cX7_category 55 = .ok (.iload 4, 2) := by decide +kernel
theorem dX7_category_57 : decode cX7_category 57 = .ok (.imul, 1) := by decide +kernel
theorem dX7_category_58 : decode cX7_category 58 = .ok (.iload_n 1, 1) := by decide +kernel
theorem dX7_category_59 : decode cX7_category 59 = .ok (.iadd, 1) := by decide +kernel
theorem dX7_category_60 : decode cX7_category 60 = .ok (.iload_n 2, 1) := by decide +kernel
theorem dX7_category_61 : decode cX7_category 61 = .ok (.iastore, 1) := by decide +kernel
theorem dX7_category_62 : decode cX7_category 62 = .ok (.iinc 4 1, 3) := by decide +kernel
theorem dX7_category_65 : decode cX7_category 65 = .ok (.goto (-30), 3) := by decide +kernel
theorem dX7_category_68 : decode cX7_category 68 = .ok (.iconst 1, 1) := by decide +kernel
theorem dX7_category_69 : decode cX7_category 69 = .ok (.ireturn, 1) := by decide +kernel
theorem dX7_group_0 : decode cX7_group 0 = .ok (.aload_n 0, 1) := by decide +kernel
theorem dX7_group_1 : decode cX7_group 1 = .ok (.iconst 0, 1) := by decide +kernel
theorem dX7_group_2 : decode cX7_group 2 = .ok (.putfield 72, 3) := by decide +kernel
theorem dX7_group_5 : decode cX7_group 5 = .ok (.iload_n 1, 1) := by decide +kernel
theorem dX7_group_6 : decode cX7_group 6 = .ok (.ifCond .ne 13, 3) := by decide +kernel
theorem dX7_group_9 : decode cX7_group 9 = .ok (.aload_n 0, 1) := by decide +kernel
theorem dX7_group_10 : decode cX7_group 10 = .ok (.getfield 79, 3) := by decide +kernel
theorem dX7_group_13 : decode cX7_group 13 = .ok (.ifCond .ne 6, 3) := by decide +kernel
theorem dX7_group_16 : decode cX7_group 16 = .ok (.bipush (-3), 2) := by decide +kernel
theorem dX7_group_18 : decode cX7_group 18 = .ok (.ireturn, 1) := by decide +kernel
theorem dX7_group_19 : decode cX7_group 19 = .ok (.iload_n 1, 1) := by decide +kernel
theorem dX7_group_20 : decode cX7_group 20 = .ok (.ifCond .eq 15, 3) := by decide +kernel
theorem dX7_group_23 : decode cX7_group 23 = .ok (.aload_n 0, 1) := by decide +kernel
theorem dX7_group_24 : decode cX7_group 24 = .ok (.getfield 79, 3) := by decide +kernel
theorem dX7_group_27 : decode cX7_group 27 = .ok (.bipush 20, 2) := by decide +kernel
theorem dX7_group_29 : decode cX7_group 29 = .ok (.if_icmp .ne 6, 3) := by decide +kernel
theorem dX7_group_32 : decode cX7_group 32 = .ok (.bipush (-4), 2) := by decide +kernel
theorem dX7_group_34 : decode cX7_group 34 = .ok (.ireturn, 1) := by decide +kernel
theorem dX7_group_35 : decode cX7_group 35 = .ok (.aload_n 0, 1) := by decide +kernel
theorem dX7_group_36 : decode cX7_group 36 = .ok (.iload_n 1, 1) := by decide +kernel
theorem dX7_group_37 : decode cX7_group 37 = .ok (.ifCond .eq 10, 3) := by decide +kernel
theorem dX7_group_40 : decode cX7_group 40 = .ok (.aload_n 0, 1) := by decide +kernel
theorem dX7_group_41 : decode cX7_group 41 = .ok (.getfield 79, 3) := by decide +kernel
theorem dX7_group_44 : decode cX7_group 44 = .ok (.goto 9, 3) := by decide +kernel
theorem dX7_group_47 : decode cX7_group 47 = .ok (.aload_n 0, 1) := by decide +kernel
theorem dX7_group_48 : decode cX7_group 48 = .ok (.getfield 79, 3) := by decide +kernel
theorem dX7_group_51 : decode cX7_group 51 = .ok (.iconst 1, 1) := by decide +kernel
theorem dX7_group_52 : decode cX7_group 52 = .ok (.isub, 1) := by decide +kernel
theorem dX7_group_53 : decode cX7_group 53 = .ok (.putfield 79, 3) := by decide +kernel
theorem dX7_group_56 : decode cX7_group 56 = .ok (.iconst 0, 1) := by decide +kernel
theorem dX7_group_57 : decode cX7_group 57 = .ok (.istore_n 2, 1) := by decide +kernel
theorem dX7_group_58 : decode cX7_group 58 = .ok (.iload_n 2, 1) := by decide +kernel
theorem dX7_group_59 : decode cX7_group 59 = .ok (.sipush 256, 3) := by decide +kernel
theorem dX7_group_62 : decode cX7_group 62 = .ok (.if_icmp .ge 86, 3) := by decide +kernel
theorem dX7_group_65 : decode cX7_group 65 = .ok (.aload_n 0, 1) := by decide +kernel
theorem dX7_group_66 : decode cX7_group 66 = .ok (.getfield 13, 3) := by decide +kernel
theorem dX7_group_69 : decode cX7_group 69 = .ok (.sipush 256, 3) := by decide +kernel
theorem dX7_group_72 : decode cX7_group 72 = .ok (.aload_n 0, 1) := by decide +kernel
theorem dX7_group_73 : decode cX7_group 73 = .ok (.getfield 79, 3) := by decide +kernel
theorem dX7_group_76 : decode cX7_group 76 = .ok (.imul, 1) := by decide +kernel
theorem dX7_group_77 : decode cX7_group 77 = .ok (.iload_n 2, 1) := by decide +kernel
theorem dX7_group_78 : decode cX7_group 78 = .ok (.iadd, 1) := by decide +kernel
theorem dX7_group_79 : decode cX7_group 79 = .ok (.iload_n 1, 1) := by decide +kernel
theorem dX7_group_80 : decode cX7_group 80 = .ok (.ifCond .eq 12, 3) := by decide +kernel
theorem dX7_group_83 : decode cX7_group 83 = .ok (.aload_n 0, 1) := by decide +kernel
theorem dX7_group_84 : decode cX7_group 84 = .ok (.getfield 7, 3) := by decide +kernel
theorem dX7_group_87 : decode cX7_group 87 = .ok (.iload_n 2, 1) := by decide +kernel
theorem dX7_group_88 : decode cX7_group 88 = .ok (.iaload, 1) := by decide +kernel
theorem dX7_group_89 : decode cX7_group 89 = .ok (.goto 18, 3) := by decide +kernel
theorem dX7_group_92 : decode cX7_group 92 = .ok (.aload_n 0, 1) := by decide +kernel
theorem dX7_group_93 : decode cX7_group 93 = .ok (.getfield 13, 3) := by decide +kernel
theorem dX7_group_96 : decode cX7_group 96 = .ok (.sipush 256, 3) := by decide +kernel
theorem dX7_group_99 : decode cX7_group 99 = .ok (.aload_n 0, 1) := by decide +kernel
theorem dX7_group_100 : decode cX7_group 100 = .ok (.getfield 79, 3) := by decide +kernel
theorem dX7_group_103 : decode cX7_group 103 = .ok (.imul, 1) := by decide +kernel
theorem dX7_group_104 : decode cX7_group 104 = .ok (.iload_n 2, 1) := by decide +kernel
theorem dX7_group_105 : decode cX7_group 105 = .ok (.iadd, 1) := by decide +kernel
theorem dX7_group_106 : decode cX7_group 106 = .ok (.iaload, 1) := by decide +kernel
theorem dX7_group_107 : decode cX7_group 107 = .ok (.iastore, 1) := by decide +kernel
theorem dX7_group_108 : decode cX7_group 108 = .ok (.aload_n 0, 1) := by decide +kernel
theorem dX7_group_109 : decode cX7_group 109 = .ok (.getfield 7, 3) := by decide +kernel
theorem dX7_group_112 : decode cX7_group 112 = .ok (.iload_n 2, 1) := by decide +kernel
theorem dX7_group_113 : decode cX7_group 113 = .ok (.iload_n 1, 1) := by decide +kernel
theorem dX7_group_114 : decode cX7_group 114 = .ok (.ifCond .eq 12, 3) := by decide +kernel
theorem dX7_group_117 : decode cX7_group 117 = .ok (.aload_n 0, 1) := by decide +kernel
theorem dX7_group_118 : decode cX7_group 118 = .ok (.getfield 7, 3) := by decide +kernel
theorem dX7_group_121 : decode cX7_group 121 = .ok (.iload_n 2, 1) := by decide +kernel
theorem dX7_group_122 : decode cX7_group 122 = .ok (.iaload, 1) := by decide +kernel
theorem dX7_group_123 : decode cX7_group 123 = .ok (.goto 18, 3) := by decide +kernel
theorem dX7_group_126 : decode cX7_group 126 = .ok (.aload_n 0, 1) := by decide +kernel
theorem dX7_group_127 : decode cX7_group 127 = .ok (.getfield 13, 3) := by decide +kernel
theorem dX7_group_130 : decode cX7_group 130 = .ok (.sipush 256, 3) := by decide +kernel
theorem dX7_group_133 : decode cX7_group 133 = .ok (.aload_n 0, 1) := by decide +kernel
theorem dX7_group_134 : decode cX7_group 134 = .ok (.getfield 79, 3) := by decide +kernel
theorem dX7_group_137 : decode cX7_group 137 = .ok (.imul, 1) := by decide +kernel
theorem dX7_group_138 : decode cX7_group 138 = .ok (.iload_n 2, 1) := by decide +kernel
theorem dX7_group_139 : decode cX7_group 139 = .ok (.iadd, 1) := by decide +kernel
theorem dX7_group_140 : decode cX7_group 140 = .ok (.iaload, 1) := by decide +kernel
theorem dX7_group_141 : decode cX7_group 141 = .ok (.iastore, 1) := by decide +kernel
theorem dX7_group_142 : decode cX7_group 142 = .ok (.iinc 2 1, 3) := by decide +kernel
theorem dX7_group_145 : decode cX7_group 145 = .ok (.goto (-87), 3) := by decide +kernel
theorem dX7_group_148 : decode cX7_group 148 = .ok (.aload_n 0, 1) := by decide +kernel
theorem dX7_group_149 : decode cX7_group 149 = .ok (.iload_n 1, 1) := by decide +kernel
theorem dX7_group_150 : decode cX7_group 150 = .ok (.ifCond .eq 12, 3) := by decide +kernel
theorem dX7_group_153 : decode cX7_group 153 = .ok (.aload_n 0, 1) := by decide +kernel
theorem dX7_group_154 : decode cX7_group 154 = .ok (.getfield 79, 3) := by decide +kernel
theorem dX7_group_157 : decode cX7_group 157 = .ok (.iconst 1, 1) := by decide +kernel
theorem dX7_group_158 : decode cX7_group 158 = .ok (.iadd, 1) := by decide +kernel
theorem dX7_group_159 : decode cX7_group 159 = .ok (.goto 7, 3) := by decide +kernel
theorem dX7_group_162 : decode cX7_group 162 = .ok (.aload_n 0, 1) := by decide +kernel
theorem dX7_group_163 : decode cX7_group 163 = .ok (.getfield 79, 3) := by decide +kernel
theorem dX7_group_166 : decode cX7_group 166 = .ok (.putfield 79, 3) := by decide +kernel
theorem dX7_group_169 : decode cX7_group 169 = .ok (.aload_n 0, 1) := by decide +kernel
theorem dX7_group_170 : decode cX7_group 170 = .ok (.getfield 79, 3) := by decide +kernel
theorem dX7_group_173 : decode cX7_group 173 = .ok (.ireturn, 1) := by decide +kernel
theorem dX7_endSign_0 : decode cX7_endSign 0 = .ok (.aload_n 0, 1) := by decide +kernel
theorem dX7_endSign_1 : decode cX7_endSign 1 = .ok (.iconst 0, 1) := by decide +kernel
theorem dX7_endSign_2 : decode cX7_endSign 2 = .ok (.putfield 72, 3) := by decide +kernel
theorem dX7_endSign_5 : decode cX7_endSign 5 = .ok (.iload_n 1, 1) := by decide +kernel
theorem dX7_endSign_6 : decode cX7_endSign 6 = .ok (.iconst (-1), 1) := by decide +kernel
theorem dX7_endSign_7 : decode cX7_endSign 7 = .ok (.if_icmp .eq 13, 3) := by decide +kernel
theorem dX7_endSign_10 : decode cX7_endSign 10 = .ok (.iload_n 1, 1) := by decide +kernel
theorem dX7_endSign_11 : decode cX7_endSign 11 = .ok (.invokestatic 75, 3) := by decide +kernel
theorem dX7_endSign_14 : decode cX7_endSign 14 = .ok (.ifCond .ne 6, 3) := by decide +kernel
theorem dX7_endSign_17 : decode cX7_endSign 17 = .ok (.bipush (-2), 2) := by decide +kernel
theorem dX7_endSign_19 : decode cX7_endSign 19 = .ok (.ireturn, 1) := by decide +kernel
theorem dX7_endSign_20 : decode cX7_endSign 20 = .ok (.aload_n 0, 1) := by decide +kernel
theorem dX7_endSign_21 : decode cX7_endSign 21 = .ok (.iload_n 1, 1) := by decide +kernel
theorem dX7_endSign_22 : decode cX7_endSign 22 = .ok (.putfield 20, 3) := by decide +kernel
theorem dX7_endSign_25 : decode cX7_endSign 25 = .ok (.iconst 1, 1) := by decide +kernel
theorem dX7_endSign_26 : decode cX7_endSign 26 = .ok (.ireturn, 1) := by decide +kernel
theorem dX7_meaning_0 : decode cX7_meaning 0 = .ok (.aload_n 0, 1) := by decide +kernel
theorem dX7_meaning_1 : decode cX7_meaning 1 = .ok (.iconst 0, 1) := by decide +kernel
theorem dX7_meaning_2 : decode cX7_meaning 2 = .ok (.putfield 72, 3) := by decide +kernel
theorem dX7_meaning_5 : decode cX7_meaning 5 = .ok (.iload_n 1, 1) := by decide +kernel
theorem dX7_meaning_6 : decode cX7_meaning 6 = .ok (.invokestatic 75, 3) := by decide +kernel
theorem dX7_meaning_9 : decode cX7_meaning 9 = .ok (.ifCond .ne 6, 3) := by decide +kernel
theorem dX7_meaning_12 : decode cX7_meaning 12 = .ok (.bipush (-2), 2) := by decide +kernel
theorem dX7_meaning_14 : decode cX7_meaning 14 = .ok (.ireturn, 1) := by decide +kernel
theorem dX7_meaning_15 : decode cX7_meaning 15 = .ok (.aload_n 0, 1) := by decide +kernel
theorem dX7_meaning_16 : decode cX7_meaning 16 = .ok (.getfield 16, 3) := by decide +kernel
theorem dX7_meaning_19 : decode cX7_meaning 19 = .ok (.iload_n 1, 1) := by decide +kernel
theorem dX7_meaning_20 : decode cX7_meaning 20 = .ok (.iload_n 2, 1) := by decide +kernel
theorem dX7_meaning_21 : decode cX7_meaning 21 = .ok (.bastore, 1) := by decide +kernel
theorem dX7_meaning_22 : decode cX7_meaning 22 = .ok (.iconst 1, 1) := by decide +kernel
theorem dX7_meaning_23 : decode cX7_meaning 23 = .ok (.ireturn, 1) := by decide +kernel
theorem dX7_isFile_0 : decode cX7_isFile 0 = .ok (.iload_n 1, 1) := by decide +kernel
theorem dX7_isFile_1 : decode cX7_isFile 1 = .ok (.ifCond .lt 15, 3) := by decide +kernel
theorem dX7_isFile_4 : decode cX7_isFile 4 = .ok (.iload_n 1, 1) := by decide +kernel
theorem dX7_isFile_5 : decode cX7_isFile 5 = .ok (.aload_n 0, 1) := by decide +kernel
theorem dX7_isFile_6 : decode cX7_isFile 6 = .ok (.getfield 82, 3) := by decide +kernel
theorem dX7_isFile_9 : decode cX7_isFile 9 = .ok (.if_icmp .ge 7, 3) := by decide +kernel
theorem dX7_isFile_12 : decode cX7_isFile 12 = .ok (.iconst 1, 1) := by decide +kernel
theorem dX7_isFile_13 : decode cX7_isFile 13 = .ok (.goto 4, 3) := by decide +kernel
theorem dX7_isFile_16 : decode cX7_isFile 16 = .ok (.iconst 0, 1) := by decide +kernel
theorem dX7_isFile_17 : decode cX7_isFile 17 = .ok (.ireturn, 1) := by decide +kernel
theorem dX7_file_0 : decode cX7_file 0 = .ok (.aload_n 0, 1) := by decide +kernel
theorem dX7_file_1 : decode cX7_file 1 = .ok (.iconst 0, 1) := by decide +kernel
theorem dX7_file_2 : decode cX7_file 2 = .ok (.putfield 72, 3) := by decide +kernel
theorem dX7_file_5 : decode cX7_file 5 = .ok (.aload_n 0, 1) := by decide +kernel
theorem dX7_file_6 : decode cX7_file 6 = .ok (.getfield 82, 3) := by decide +kernel
theorem dX7_file_9 : decode cX7_file 9 = .ok (.bipush 8, 2) := by decide +kernel
theorem dX7_file_11 : decode cX7_file 11 = .ok (.if_icmp .ne 6, 3) := by decide +kernel
theorem dX7_file_14 : decode cX7_file 14 = .ok (.bipush (-4), 2) := by decide +kernel
theorem dX7_file_16 : decode cX7_file 16 = .ok (.ireturn, 1) := by decide +kernel
theorem dX7_file_17 : decode cX7_file 17 = .ok (.aload_n 0, 1) := by decide +kernel
theorem dX7_file_18 : decode cX7_file 18 = .ok (.dup, 1) := by decide +kernel
theorem dX7_file_19 : decode cX7_file 19 = .ok (.getfield 82, 3) := by decide +kernel
theorem dX7_file_22 : decode cX7_file 22 = .ok (.iconst 1, 1) := by decide +kernel
theorem dX7_file_23 : decode cX7_file 23 = .ok (.iadd, 1) := by decide +kernel
theorem dX7_file_24 : decode cX7_file 24 = .ok (.putfield 82, 3) := by decide +kernel
theorem dX7_file_27 : decode cX7_file 27 = .ok (.aload_n 0, 1) := by decide +kernel
theorem dX7_file_28 : decode cX7_file 28 = .ok (.getfield 82, 3) := by decide +kernel
theorem dX7_file_31 : decode cX7_file 31 = .ok (.iconst 1, 1) := by decide +kernel
theorem dX7_file_32 : decode cX7_file 32 = .ok (.isub, 1) := by decide +kernel
theorem dX7_file_33 : decode cX7_file 33 = .ok (.ireturn, 1) := by decide +kernel
theorem dX7_line_0 : decode cX7_line 0 = .ok (.aload_n 0, 1) := by decide +kernel
theorem dX7_line_1 : decode cX7_line 1 = .ok (.iconst 0, 1) := by decide +kernel
theorem dX7_line_2 : decode cX7_line 2 = .ok (.putfield 72, 3) := by decide +kernel
theorem dX7_line_5 : decode cX7_line 5 = .ok (.aload_n 0, 1) := by decide +kernel
theorem dX7_line_6 : decode cX7_line 6 = .ok (.iload_n 1, 1) := by decide +kernel
theorem dX7_line_7 : decode cX7_line 7 = .ok (.invokevirtual 85, 3) := by decide +kernel
theorem dX7_line_10 : decode cX7_line 10 = .ok (.ifCond .ne 5, 3) := by decide +kernel
theorem dX7_line_13 : decode cX7_line 13 = .ok (.iconst (-1), 1) := by decide +kernel
theorem dX7_line_14 : decode cX7_line 14 = .ok (.ireturn, 1) := by decide +kernel
theorem dX7_line_15 : decode cX7_line 15 = .ok (.aload_n 0, 1) := by decide +kernel
theorem dX7_line_16 : decode cX7_line 16 = .ok (.getfield 24, 3) := by decide +kernel
theorem dX7_line_19 : decode cX7_line 19 = .ok (.iload_n 1, 1) := by decide +kernel
theorem dX7_line_20 : decode cX7_line 20 = .ok (.iaload, 1) := by decide +kernel
theorem dX7_line_21 : decode cX7_line 21 = .ok (.bipush 30, 2) := by decide +kernel
theorem dX7_line_23 : decode cX7_line 23 = .ok (.if_icmp .ne 6, 3) := by decide +kernel
theorem dX7_line_26 : decode cX7_line 26 = .ok (.bipush (-4), 2) := by decide +kernel
theorem dX7_line_28 : decode cX7_line 28 = .ok (.ireturn, 1) := by decide +kernel
theorem dX7_line_29 : decode cX7_line 29 = .ok (.aload_n 0, 1) := by decide +kernel
theorem dX7_line_30 : decode cX7_line 30 = .ok (.getfield 24, 3) := by decide +kernel
theorem dX7_line_33 : decode cX7_line 33 = .ok (.iload_n 1, 1) := by decide +kernel
theorem dX7_line_34 : decode cX7_line 34 = .ok (.dup2, 1) := by decide +kernel
theorem dX7_line_35 : decode cX7_line 35 = .ok (.iaload, 1) := by decide +kernel
theorem dX7_line_36 : decode cX7_line 36 = .ok (.iconst 1, 1) := by decide +kernel
theorem dX7_line_37 : decode cX7_line 37 = .ok (.iadd, 1) := by decide +kernel
theorem dX7_line_38 : decode cX7_line 38 = .ok (.iastore, 1) := by decide +kernel
theorem dX7_line_39 : decode cX7_line 39 = .ok (.aload_n 0, 1) := by decide +kernel
theorem dX7_line_40 : decode cX7_line 40 = .ok (.getfield 24, 3) := by decide +kernel
theorem dX7_line_43 : decode cX7_line 43 = .ok (.iload_n 1, 1) := by decide +kernel
theorem dX7_line_44 : decode cX7_line 44 = .ok (.iaload, 1) := by decide +kernel
theorem dX7_line_45 : decode cX7_line 45 = .ok (.ireturn, 1) := by decide +kernel
theorem dX7_add_0 : decode cX7_add 0 = .ok (.aload_n 0, 1) := by decide +kernel
theorem dX7_add_1 : decode cX7_add 1 = .ok (.iconst 0, 1) := by decide +kernel
theorem dX7_add_2 : decode cX7_add 2 = .ok (.putfield 72, 3) := by decide +kernel
theorem dX7_add_5 : decode cX7_add 5 = .ok (.aload_n 0, 1) := by decide +kernel
theorem dX7_add_6 : decode cX7_add 6 = .ok (.iload_n 1, 1) := by decide +kernel
theorem dX7_add_7 : decode cX7_add 7 = .ok (.invokevirtual 85, 3) := by decide +kernel
theorem dX7_add_10 : decode cX7_add 10 = .ok (.ifCond .ne 5, 3) := by decide +kernel
theorem dX7_add_13 : decode cX7_add 13 = .ok (.iconst (-1), 1) := by decide +kernel
theorem dX7_add_14 : decode cX7_add 14 = .ok (.ireturn, 1) := by decide +kernel
theorem dX7_add_15 : decode cX7_add 15 = .ok (.iload 4, 2) := by decide +kernel
theorem dX7_add_17 : decode cX7_add 17 = .ok (.iconst 1, 1) := by decide +kernel
theorem dX7_add_18 : decode cX7_add 18 = .ok (.if_icmp .lt 10, 3) := by decide +kernel
theorem dX7_add_21 : decode cX7_add 21 = .ok (.iload 4, 2) := by decide +kernel
theorem dX7_add_23 : decode cX7_add 23 = .ok (.bipush 8, 2) := by decide +kernel
theorem dX7_add_25 : decode cX7_add 25 = .ok (.if_icmp .le 6, 3) := by decide +kernel
theorem dX7_add_28 : decode cX7_add 28 = .ok (.bipush (-2), 2) := by decide +kernel
theorem dX7_add_30 : decode cX7_add 30 = .ok (.ireturn, 1) := by decide +kernel
theorem dX7_add_31 : decode cX7_add 31 = .ok (.aload_n 0, 1) := by decide +kernel
theorem dX7_add_32 : decode cX7_add 32 = .ok (.getfield 24, 3) := by decide +kernel
theorem dX7_add_35 : decode cX7_add 35 = .ok (.iload_n 1, 1) := by decide +kernel
theorem dX7_add_36 : decode cX7_add 36 = .ok (.iaload, 1) := by decide +kernel
theorem dX7_add_37 : decode cX7_add 37 = .ok (.ifCond .ne 6, 3) := by decide +kernel
theorem dX7_add_40 : decode cX7_add 40 = .ok (.bipush (-3), 2) := by decide +kernel
theorem dX7_add_42 : decode cX7_add 42 = .ok (.ireturn, 1) := by decide +kernel
theorem dX7_add_43 : decode cX7_add 43 = .ok (.bipush 30, 2) := by decide +kernel
theorem dX7_add_45 : decode cX7_add 45 = .ok (.iload_n 1, 1) := by decide +kernel
theorem dX7_add_46 : decode cX7_add 46 = .ok (.imul, 1) := by decide +kernel
theorem dX7_add_47 : decode cX7_add 47 = .ok (.aload_n 0, 1) := by decide +kernel
theorem dX7_add_48 : decode cX7_add 48 = .ok (.getfield 24, 3) := by decide +kernel
theorem dX7_add_51 : decode cX7_add 51 = .ok (.iload_n 1, 1) := by decide +kernel
theorem dX7_add_52 : decode cX7_add 52 = .ok (.iaload, 1) := by decide +kernel
theorem dX7_add_53 : decode cX7_add 53 = .ok (.iadd, 1) := by decide +kernel
theorem dX7_add_54 : decode cX7_add 54 = .ok (.iconst 1, 1) := by decide +kernel
theorem dX7_add_55 : decode cX7_add 55 = .ok (.isub, 1) := by decide +kernel
theorem dX7_add_56 : decode cX7_add 56 = .ok (.istore 5, 2) := by decide +kernel
theorem dX7_add_58 : decode cX7_add 58 = .ok (.aload_n 0, 1) := by decide +kernel
theorem dX7_add_59 : decode cX7_add 59 = .ok (.getfield 27, 3) := by decide +kernel
theorem dX7_add_62 : decode cX7_add 62 = .ok (.iload 5, 2) := by decide +kernel
theorem dX7_add_64 : decode cX7_add 64 = .ok (.iaload, 1) := by decide +kernel
theorem dX7_add_65 : decode cX7_add 65 = .ok (.iload 4, 2) := by decide +kernel
theorem dX7_add_67 : decode cX7_add 67 = .ok (.iadd, 1) := by decide +kernel
theorem dX7_add_68 : decode cX7_add 68 = .ok (.bipush 120, 2) := by decide +kernel
theorem dX7_add_70 : decode cX7_add 70 = .ok (.if_icmp .le 6, 3) := by decide +kernel
theorem dX7_add_73 : decode cX7_add 73 = .ok (.bipush (-4), 2) := by decide +kernel
theorem dX7_add_75 : decode cX7_add 75 = .ok (.ireturn, 1) := by decide +kernel
theorem dX7_add_76 : decode cX7_add 76 = .ok (.iload 4, 2) := by decide +kernel
theorem dX7_add_78 : decode cX7_add 78 = .ok (.iconst 1, 1) := by decide +kernel
theorem dX7_add_79 : decode cX7_add 79 = .ok (.isub, 1) := by decide +kernel
theorem dX7_add_80 : decode cX7_add 80 = .ok (.istore 6, 2) := by decide +kernel
theorem dX7_add_82 : decode cX7_add 82 = .ok (.iload 6, 2) := by decide +kernel
theorem dX7_add_84 : decode cX7_add 84 = .ok (.ifCond .lt 50, 3) := by decide +kernel
theorem dX7_add_87 : decode cX7_add 87 = .ok (.aload_n 0, 1) := by decide +kernel
theorem dX7_add_88 : decode cX7_add 88 = .ok (.getfield 30, 3) := by decide +kernel
theorem dX7_add_91 : decode cX7_add 91 = .ok (.bipush 120, 2) := by decide +kernel
theorem dX7_add_93 : decode cX7_add 93 = .ok (.iload 5, 2) := by decide +kernel
theorem dX7_add_95 : decode cX7_add 95 = .ok (.imul, 1) := by decide +kernel
theorem dX7_add_96 : decode cX7_add 96 = .ok (.aload_n 0, 1) := by decide +kernel
theorem dX7_add_97 : decode cX7_add 97 = .ok (.getfield 27, 3) := by decide +kernel
theorem dX7_add_100 : decode cX7_add 100 = .ok (.iload 5, 2) := by decide +kernel
theorem dX7_add_102 : decode cX7_add 102 = .ok (.iaload, 1) := by decide +kernel
theorem dX7_add_103 : decode cX7_add 103 = .ok (.iadd, 1) := by decide +kernel
theorem dX7_add_104 : decode cX7_add 104 = .ok (.lload_n 2, 1) := by decide +kernel
theorem dX7_add_105 : decode cX7_add 105 = .ok (.bipush 8, 2) := by decide +kernel
theorem dX7_add_107 : decode cX7_add 107 = .ok (.iload 6, 2) := by decide +kernel
theorem dX7_add_109 : decode cX7_add 109 = .ok (.imul, 1) := by decide +kernel
theorem dX7_add_110 : decode cX7_add 110 = .ok (.lshr, 1) := by decide +kernel
theorem dX7_add_111 : decode cX7_add 111 = .ok (.ldc2_w 88, 3) := by decide +kernel
theorem dX7_add_114 : decode cX7_add 114 = .ok (.land, 1) := by decide +kernel
theorem dX7_add_115 : decode cX7_add 115 = .ok (.l2i, 1) := by decide +kernel
theorem dX7_add_116 : decode cX7_add 116 = .ok (.iastore, 1) := by decide +kernel
theorem dX7_add_117 : decode cX7_add 117 = .ok (.aload_n 0, 1) := by decide +kernel
theorem dX7_add_118 : decode cX7_add 118 = .ok (.getfield 27, 3) := by decide +kernel
theorem dX7_add_121 : decode cX7_add 121 = .ok (.iload 5, 2) := by decide +kernel
theorem dX7_add_123 : decode cX7_add 123 = .ok (.dup2, 1) := by decide +kernel
theorem dX7_add_124 : decode cX7_add 124 = .ok (.iaload, 1) := by decide +kernel
theorem dX7_add_125 : decode cX7_add 125 = .ok (.iconst 1, 1) := by decide +kernel
theorem dX7_add_126 : decode cX7_add 126 = .ok (.iadd, 1) := by decide +kernel
theorem dX7_add_127 : decode cX7_add 127 = .ok (.iastore, 1) := by decide +kernel
theorem dX7_add_128 : decode cX7_add 128 = .ok (.iinc 6 (-1), 3) := by decide +kernel
theorem dX7_add_131 : decode cX7_add 131 = .ok (.goto (-49), 3) := by decide +kernel
theorem dX7_add_134 : decode cX7_add 134 = .ok (.aload_n 0, 1) := by decide +kernel
theorem dX7_add_135 : decode cX7_add 135 = .ok (.getfield 27, 3) := by decide +kernel
theorem dX7_add_138 : decode cX7_add 138 = .ok (.iload 5, 2) := by decide +kernel
theorem dX7_add_140 : decode cX7_add 140 = .ok (.iaload, 1) := by decide +kernel
theorem dX7_add_141 : decode cX7_add 141 = .ok (.ireturn, 1) := by decide +kernel
theorem dX7_open_0 : decode cX7_open 0 = .ok (.aload_n 0, 1) := by decide +kernel
theorem dX7_open_1 : decode cX7_open 1 = .ok (.iconst 0, 1) := by decide +kernel
theorem dX7_open_2 : decode cX7_open 2 = .ok (.putfield 72, 3) := by decide +kernel
theorem dX7_open_5 : decode cX7_open 5 = .ok (.aload_n 0, 1) := by decide +kernel
theorem dX7_open_6 : decode cX7_open 6 = .ok (.iload_n 1, 1) := by decide +kernel
theorem dX7_open_7 : decode cX7_open 7 = .ok (.invokevirtual 85, 3) := by decide +kernel
theorem dX7_open_10 : decode cX7_open 10 = .ok (.ifCond .ne 5, 3) := by decide +kernel
theorem dX7_open_13 : decode cX7_open 13 = .ok (.iconst (-1), 1) := by decide +kernel
theorem dX7_open_14 : decode cX7_open 14 = .ok (.ireturn, 1) := by decide +kernel
theorem dX7_open_15 : decode cX7_open 15 = .ok (.aload_n 0, 1) := by decide +kernel
theorem dX7_open_16 : decode cX7_open 16 = .ok (.getfield 90, 3) := by decide +kernel
theorem dX7_open_19 : decode cX7_open 19 = .ok (.bipush 6, 2) := by decide +kernel
theorem dX7_open_21 : decode cX7_open 21 = .ok (.if_icmp .ne 6, 3) := by decide +kernel
theorem dX7_open_24 : decode cX7_open 24 = .ok (.bipush (-4), 2) := by decide +kernel
theorem dX7_open_26 : decode cX7_open 26 = .ok (.ireturn, 1) := by decide +kernel
theorem dX7_open_27 : decode cX7_open 27 = .ok (.aload_n 0, 1) := by decide +kernel
theorem dX7_open_28 : decode cX7_open 28 = .ok (.getfield 33, 3) := by decide +kernel
theorem dX7_open_31 : decode cX7_open 31 = .ok (.aload_n 0, 1) := by decide +kernel
theorem dX7_open_32 : decode cX7_open 32 = .ok (.getfield 90, 3) := by decide +kernel
theorem dX7_open_35 : decode cX7_open 35 = .ok (.iload_n 1, 1) := by decide +kernel
theorem dX7_open_36 : decode cX7_open 36 = .ok (.iastore, 1) := by decide +kernel
theorem dX7_open_37 : decode cX7_open 37 = .ok (.aload_n 0, 1) := by decide +kernel
theorem dX7_open_38 : decode cX7_open 38 = .ok (.getfield 36, 3) := by decide +kernel
theorem dX7_open_41 : decode cX7_open 41 = .ok (.aload_n 0, 1) := by decide +kernel
theorem dX7_open_42 : decode cX7_open 42 = .ok (.getfield 90, 3) := by decide +kernel
theorem dX7_open_45 : decode cX7_open 45 = .ok (.iconst (-1), 1) := by decide +kernel
theorem dX7_open_46 : decode cX7_open 46 = .ok (.iastore, 1) := by decide +kernel
theorem dX7_open_47 : decode cX7_open 47 = .ok (.aload_n 0, 1) := by decide +kernel
theorem dX7_open_48 : decode cX7_open 48 = .ok (.getfield 48, 3) := by decide +kernel
theorem dX7_open_51 : decode cX7_open 51 = .ok (.aload_n 0, 1) := by decide +kernel
theorem dX7_open_52 : decode cX7_open 52 = .ok (.getfield 90, 3) := by decide +kernel
theorem dX7_open_55 : decode cX7_open 55 = .ok (.iconst (-1), 1) := by decide +kernel
theorem dX7_open_56 : decode cX7_open 56 = .ok (.iastore, 1) := by decide +kernel
theorem dX7_open_57 : decode cX7_open 57 = .ok (.aload_n 0, 1) := by decide +kernel
theorem dX7_open_58 : decode cX7_open 58 = .ok (.getfield 51, 3) := by decide +kernel
theorem dX7_open_61 : decode cX7_open 61 = .ok (.aload_n 0, 1) := by decide +kernel
theorem dX7_open_62 : decode cX7_open 62 = .ok (.getfield 90, 3) := by decide +kernel
theorem dX7_open_65 : decode cX7_open 65 = .ok (.iconst 0, 1) := by decide +kernel
theorem dX7_open_66 : decode cX7_open 66 = .ok (.bastore, 1) := by decide +kernel
theorem dX7_open_67 : decode cX7_open 67 = .ok (.aload_n 0, 1) := by decide +kernel
theorem dX7_open_68 : decode cX7_open 68 = .ok (.dup, 1) := by decide +kernel
theorem dX7_open_69 : decode cX7_open 69 = .ok (.getfield 90, 3) := by decide +kernel
theorem dX7_open_72 : decode cX7_open 72 = .ok (.iconst 1, 1) := by decide +kernel
theorem dX7_open_73 : decode cX7_open 73 = .ok (.iadd, 1) := by decide +kernel
theorem dX7_open_74 : decode cX7_open 74 = .ok (.putfield 90, 3) := by decide +kernel
theorem dX7_open_77 : decode cX7_open 77 = .ok (.aload_n 0, 1) := by decide +kernel
theorem dX7_open_78 : decode cX7_open 78 = .ok (.getfield 90, 3) := by decide +kernel
theorem dX7_open_81 : decode cX7_open 81 = .ok (.ireturn, 1) := by decide +kernel
theorem dX7_close_0 : decode cX7_close 0 = .ok (.aload_n 0, 1) := by decide +kernel
theorem dX7_close_1 : decode cX7_close 1 = .ok (.iconst 0, 1) := by decide +kernel
theorem dX7_close_2 : decode cX7_close 2 = .ok (.putfield 72, 3) := by decide +kernel
theorem dX7_close_5 : decode cX7_close 5 = .ok (.aload_n 0, 1) := by decide +kernel
theorem dX7_close_6 : decode cX7_close 6 = .ok (.getfield 90, 3) := by decide +kernel
theorem dX7_close_9 : decode cX7_close 9 = .ok (.ifCond .ne 6, 3) := by decide +kernel
theorem dX7_close_12 : decode cX7_close 12 = .ok (.bipush (-3), 2) := by decide +kernel
theorem dX7_close_14 : decode cX7_close 14 = .ok (.ireturn, 1) := by decide +kernel
theorem dX7_close_15 : decode cX7_close 15 = .ok (.aload_n 0, 1) := by decide +kernel
theorem dX7_close_16 : decode cX7_close 16 = .ok (.getfield 51, 3) := by decide +kernel
theorem dX7_close_19 : decode cX7_close 19 = .ok (.aload_n 0, 1) := by decide +kernel
theorem dX7_close_20 : decode cX7_close 20 = .ok (.getfield 90, 3) := by decide +kernel
theorem dX7_close_23 : decode cX7_close 23 = .ok (.iconst 1, 1) := by decide +kernel
theorem dX7_close_24 : decode cX7_close 24 = .ok (.isub, 1) := by decide +kernel
theorem dX7_close_25 : decode cX7_close 25 = .ok (.iconst 1, 1) := by decide +kernel
theorem dX7_close_26 : decode cX7_close 26 = .ok (.bastore, 1) := by decide +kernel
theorem dX7_close_27 : decode cX7_close 27 = .ok (.iconst 1, 1) := by decide +kernel
theorem dX7_close_28 : decode cX7_close 28 = .ok (.ireturn, 1) := by decide +kernel
theorem dX7_hasLine_0 : decode cX7_hasLine 0 = .ok (.aload_n 0, 1) := by decide +kernel
theorem dX7_hasLine_1 : decode cX7_hasLine 1 = .ok (.getfield 90, 3) := by decide +kernel
theorem dX7_hasLine_4 : decode cX7_hasLine 4 = .ok (.ifCond .le 99, 3) := by decide +kernel
theorem dX7_hasLine_7 : decode cX7_hasLine 7 = .ok (.aload_n 0, 1) := by decide +kernel
theorem dX7_hasLine_8 : decode cX7_hasLine 8 = .ok (.getfield 48, 3) := by decide +kernel
theorem dX7_hasLine_11 : decode cX7_hasLine 11 = .ok (.aload_n 0, 1) := by decide +kernel
theorem dX7_hasLine_12 : decode cX7_hasLine 12 = .ok (.getfield 90, 3) := by decide +kernel
theorem dX7_hasLine_15 : decode cX7_hasLine 15 = .ok (.iconst 1, 1) := by decide +kernel
theorem dX7_hasLine_16 : decode cX7_hasLine 16 = .ok (.isub, 1) := by decide +kernel
theorem dX7_hasLine_17 : decode cX7_hasLine 17 = .ok (.iaload, 1) := by decide +kernel
theorem dX7_hasLine_18 : decode cX7_hasLine 18 = .ok (.ifCond .ge 85, 3) := by decide +kernel
theorem dX7_hasLine_21 : decode cX7_hasLine 21 = .ok (.aload_n 0, 1) := by decide +kernel
theorem dX7_hasLine_22 : decode cX7_hasLine 22 = .ok (.getfield 90, 3) := by decide +kernel
theorem dX7_hasLine_25 : decode cX7_hasLine 25 = .ok (.iconst 1, 1) := by decide +kernel
theorem dX7_hasLine_26 : decode cX7_hasLine 26 = .ok (.isub, 1) := by decide +kernel
theorem dX7_hasLine_27 : decode cX7_hasLine 27 = .ok (.istore_n 1, 1) := by decide +kernel
theorem dX7_hasLine_28 : decode cX7_hasLine 28 = .ok (.aload_n 0, 1) := by decide +kernel
theorem dX7_hasLine_29 : decode cX7_hasLine 29 = .ok (.getfield 33, 3) := by decide +kernel
theorem dX7_hasLine_32 : decode cX7_hasLine 32 = .ok (.iload_n 1, 1) := by decide +kernel
theorem dX7_hasLine_33 : decode cX7_hasLine 33 = .ok (.iaload, 1) := by decide +kernel
theorem dX7_hasLine_34 : decode cX7_hasLine 34 = .ok (.istore_n 2, 1) := by decide +kernel
theorem dX7_hasLine_35 : decode cX7_hasLine 35 = .ok (.aload_n 0, 1) := by decide +kernel
theorem dX7_hasLine_36 : decode cX7_hasLine 36 = .ok (.getfield 51, 3) := by decide +kernel
theorem dX7_hasLine_39 : decode cX7_hasLine 39 = .ok (.iload_n 1, 1) := by decide +kernel
theorem dX7_hasLine_40 : decode cX7_hasLine 40 = .ok (.baload, 1) := by decide +kernel
theorem dX7_hasLine_41 : decode cX7_hasLine 41 = .ok (.ifCond .ne 20, 3) := by decide +kernel
theorem dX7_hasLine_44 : decode cX7_hasLine 44 = .ok (.aload_n 0, 1) := by decide +kernel
theorem dX7_hasLine_45 : decode cX7_hasLine 45 = .ok (.getfield 36, 3) := by decide +kernel
theorem dX7_hasLine_48 : decode cX7_hasLine 48 = .ok (.iload_n 1, 1) := by decide +kernel
theorem dX7_hasLine_49 : decode cX7_hasLine 49 = .ok (.iaload, 1) := by decide +kernel
theorem dX7_hasLine_50 : decode cX7_hasLine 50 = .ok (.iconst 1, 1) := by decide +kernel
theorem dX7_hasLine_51 : decode cX7_hasLine 51 = .ok (.iadd, 1) := by decide +kernel
theorem dX7_hasLine_52 : decode cX7_hasLine 52 = .ok (.aload_n 0, 1) := by decide +kernel
theorem dX7_hasLine_53 : decode cX7_hasLine 53 = .ok (.getfield 24, 3) := by decide +kernel
theorem dX7_hasLine_56 : decode cX7_hasLine 56 = .ok (.iload_n 2, 1) := by decide +kernel
theorem dX7_hasLine_57 : decode cX7_hasLine 57 = .ok (.iaload, 1) := by decide +kernel
theorem dX7_hasLine_58 : decode cX7_hasLine 58 = .ok (.if_icmp .lt 16, 3) := by decide +kernel
theorem dX7_hasLine_61 : decode cX7_hasLine 61 = .ok (.aload_n 0, 1) := by decide +kernel
theorem dX7_hasLine_62 : decode cX7_hasLine 62 = .ok (.dup, 1) := by decide +kernel
theorem dX7_hasLine_63 : decode cX7_hasLine 63 = .ok (.getfield 90, 3) := by decide +kernel
theorem dX7_hasLine_66 : decode cX7_hasLine 66 = .ok (.iconst 1, 1) := by decide +kernel
theorem dX7_hasLine_67 : decode cX7_hasLine 67 = .ok (.isub, 1) := by decide +kernel
theorem dX7_hasLine_68 : decode cX7_hasLine 68 = .ok (.putfield 90, 3) := by decide +kernel
theorem dX7_hasLine_71 : decode cX7_hasLine 71 = .ok (.goto 29, 3) := by decide +kernel
theorem dX7_hasLine_74 : decode cX7_hasLine 74 = .ok (.aload_n 0, 1) := by decide +kernel
theorem dX7_hasLine_75 : decode cX7_hasLine 75 = .ok (.getfield 36, 3) := by decide +kernel
theorem dX7_hasLine_78 : decode cX7_hasLine 78 = .ok (.iload_n 1, 1) := by decide +kernel
theorem dX7_hasLine_79 : decode cX7_hasLine 79 = .ok (.dup2, 1) := by decide +kernel
theorem dX7_hasLine_80 : decode cX7_hasLine 80 = .ok (.iaload, 1) := by decide +kernel
theorem dX7_hasLine_81 : decode cX7_hasLine 81 = .ok (.iconst 1, 1) := by decide +kernel
theorem dX7_hasLine_82 : decode cX7_hasLine 82 = .ok (.iadd, 1) := by decide +kernel
theorem dX7_hasLine_83 : decode cX7_hasLine 83 = .ok (.iastore, 1) := by decide +kernel
theorem dX7_hasLine_84 : decode cX7_hasLine 84 = .ok (.aload_n 0, 1) := by decide +kernel
theorem dX7_hasLine_85 : decode cX7_hasLine 85 = .ok (.iload_n 1, 1) := by decide +kernel
theorem dX7_hasLine_86 : decode cX7_hasLine 86 = .ok (.bipush 30, 2) := by decide +kernel
theorem dX7_hasLine_88 : decode cX7_hasLine 88 = .ok (.iload_n 2, 1) := by decide +kernel
theorem dX7_hasLine_89 : decode cX7_hasLine 89 = .ok (.imul, 1) := by decide +kernel
theorem dX7_hasLine_90 : decode cX7_hasLine 90 = .ok (.aload_n 0, 1) := by decide +kernel
theorem dX7_hasLine_91 : decode cX7_hasLine 91 = .ok (.getfield 36, 3) := by decide +kernel
theorem dX7_hasLine_94 : decode cX7_hasLine 94 = .ok (.iload_n 1, 1) := by decide +kernel
theorem dX7_hasLine_95 : decode cX7_hasLine 95 = .ok (.iaload, 1) := by decide +kernel
theorem dX7_hasLine_96 : decode cX7_hasLine 96 = .ok (.iadd, 1) := by decide +kernel
theorem dX7_hasLine_97 : decode cX7_hasLine 97 = .ok (.invokevirtual 93, 3) := by decide +kernel
theorem dX7_hasLine_100 : decode cX7_hasLine 100 = .ok (.goto (-100), 3) := by decide +kernel
theorem dX7_hasLine_103 : decode cX7_hasLine 103 = .ok (.aload_n 0, 1) := by decide +kernel
theorem dX7_hasLine_104 : decode cX7_hasLine 104 = .ok (.getfield 90, 3) := by decide +kernel
theorem dX7_hasLine_107 : decode cX7_hasLine 107 = .ok (.ifCond .le 7, 3) := by decide +kernel
theorem dX7_hasLine_110 : decode cX7_hasLine 110 = .ok (.iconst 1, 1) := by decide +kernel
theorem dX7_hasLine_111 : decode cX7_hasLine 111 = .ok (.goto 4, 3) := by decide +kernel
theorem dX7_hasLine_114 : decode cX7_hasLine 114 = .ok (.iconst 0, 1) := by decide +kernel
theorem dX7_hasLine_115 : decode cX7_hasLine 115 = .ok (.ireturn, 1) := by decide +kernel
theorem dX7_begin_0 : decode cX7_begin 0 = .ok (.aload_n 0, 1) := by decide +kernel
theorem dX7_begin_1 : decode cX7_begin 1 = .ok (.getfield 27, 3) := by decide +kernel
theorem dX7_begin_4 : decode cX7_begin 4 = .ok (.iload_n 2, 1) := by decide +kernel
theorem dX7_begin_5 : decode cX7_begin 5 = .ok (.iaload, 1) := by decide +kernel
theorem dX7_begin_6 : decode cX7_begin 6 = .ok (.istore_n 3, 1) := by decide +kernel
theorem dX7_begin_7 : decode cX7_begin 7 = .ok (.iload_n 3, 1) := by decide +kernel
theorem dX7_begin_8 : decode cX7_begin 8 = .ok (.ifCond .le 27, 3) := by decide +kernel
theorem dX7_begin_11 : decode cX7_begin 11 = .ok (.aload_n 0, 1) := by decide +kernel
theorem dX7_begin_12 : decode cX7_begin 12 = .ok (.getfield 30, 3) := by decide +kernel
theorem dX7_begin_15 : decode cX7_begin 15 = .ok (.bipush 120, 2) := by decide +kernel
theorem dX7_begin_17 : decode cX7_begin 17 = .ok (.iload_n 2, 1) := by decide +kernel
theorem dX7_begin_18 : decode cX7_begin 18 = .ok (.imul, 1) := by decide +kernel
theorem dX7_begin_19 : decode cX7_begin 19 = .ok (.iload_n 3, 1) := by decide +kernel
theorem dX7_begin_20 : decode cX7_begin 20 = .ok (.iadd, 1) := by decide +kernel
theorem dX7_begin_21 : decode cX7_begin 21 = .ok (.iconst 1, 1) := by decide +kernel
theorem dX7_begin_22 : decode cX7_begin 22 = .ok (.isub, 1) := by decide +kernel
theorem dX7_begin_23 : decode cX7_begin 23 = .ok (.iaload, 1) := by decide +kernel
theorem dX7_begin_24 : decode cX7_begin 24 = .ok (.bipush 32, 2) := by decide +kernel
theorem dX7_begin_26 : decode cX7_begin 26 = .ok (.if_icmp .ne 9, 3) := by decide +kernel
theorem dX7_begin_29 : decode cX7_begin 29 = .ok (.iinc 3 (-1), 3) := by decide +kernel
theorem dX7_begin_32 : decode cX7_begin 32 = .ok (.goto (-25), 3) := by decide +kernel
theorem dX7_begin_35 : decode cX7_begin 35 = .ok (.iconst 0, 1) := by decide +kernel
theorem dX7_begin_36 : decode cX7_begin 36 = .ok (.istore 4, 2) := by decide +kernel
theorem dX7_begin_38 : decode cX7_begin 38 = .ok (.iload 4, 2) := by decide +kernel
theorem dX7_begin_40 : decode cX7_begin 40 = .ok (.iload_n 3, 1) := by decide +kernel
theorem dX7_begin_41 : decode cX7_begin 41 = .ok (.if_icmp .ge 34, 3) := by decide +kernel
theorem dX7_begin_44 : decode cX7_begin 44 = .ok (.aload_n 0, 1) := by decide +kernel
theorem dX7_begin_45 : decode cX7_begin 45 = .ok (.getfield 39, 3) := by decide +kernel
theorem dX7_begin_48 : decode cX7_begin 48 = .ok (.sipush 128, 3) := by decide +kernel
theorem dX7_begin_51 : decode cX7_begin 51 = .ok (.iload_n 1, 1) := by decide +kernel
theorem dX7_begin_52 : decode cX7_begin 52 = .ok (.imul, 1) := by decide +kernel
theorem dX7_begin_53 : decode cX7_begin 53 = .ok (.iload 4, 2) := by decide +kernel
theorem dX7_begin_55 : decode cX7_begin 55 = .ok (.iadd, 1) := by decide +kernel
theorem dX7_begin_56 : decode cX7_begin 56 = .ok (.aload_n 0, 1) := by decide +kernel
theorem dX7_begin_57 : decode cX7_begin 57 = .ok (.getfield 30, 3) := by decide +kernel
theorem dX7_begin_60 : decode cX7_begin 60 = .ok (.bipush 120, 2) := by decide +kernel
theorem dX7_begin_62 : decode cX7_begin 62 = .ok (.iload_n 2, 1) := by decide +kernel
theorem dX7_begin_63 : decode cX7_begin 63 = .ok (.imul, 1) := by decide +kernel
theorem dX7_begin_64 : decode cX7_begin 64 = .ok (.iload 4, 2) := by decide +kernel
theorem dX7_begin_66 : decode cX7_begin 66 = .ok (.iadd, 1) := by decide +kernel
theorem dX7_begin_67 : decode cX7_begin 67 = .ok (.iaload, 1) := by decide +kernel
theorem dX7_begin_68 : decode cX7_begin 68 = .ok (.iastore, 1) := by decide +kernel
theorem dX7_begin_69 : decode cX7_begin 69 = .ok (.iinc 4 1, 3) := by decide +kernel
theorem dX7_begin_72 : decode cX7_begin 72 = .ok (.goto (-34), 3) := by decide +kernel
theorem dX7_begin_75 : decode cX7_begin 75 = .ok (.aload_n 0, 1) := by decide +kernel
theorem dX7_begin_76 : decode cX7_begin 76 = .ok (.getfield 20, 3) := by decide +kernel
theorem dX7_begin_79 : decode cX7_begin 79 = .ok (.ifCond .lt 22, 3) := by decide +kernel
theorem dX7_begin_82 : decode cX7_begin 82 = .ok (.aload_n 0, 1) := by decide +kernel
theorem dX7_begin_83 : decode cX7_begin 83 = .ok (.getfield 39, 3) := by decide +kernel
theorem dX7_begin_86 : decode cX7_begin 86 = .ok (.sipush 128, 3) := by decide +kernel
theorem dX7_begin_89 : decode cX7_begin 89 = .ok (.iload_n 1, 1) := by decide +kernel
theorem dX7_begin_90 : decode cX7_begin 90 = .ok (.imul, 1) := by decide +kernel
theorem dX7_begin_91 : decode cX7_begin 91 = .ok (.iload_n 3, 1) := by decide +kernel
theorem dX7_begin_92 : decode cX7_begin 92 = .ok (.iadd, 1) := by decide +kernel
theorem dX7_begin_93 : decode cX7_begin 93 = .ok (.aload_n 0, 1) := by decide +kernel
theorem dX7_begin_94 : decode cX7_begin 94 = .ok (.getfield 20, 3) := by decide +kernel
theorem dX7_begin_97 : decode cX7_begin 97 = .ok (.iastore, 1) := by decide +kernel
theorem dX7_begin_98 : decode cX7_begin 98 = .ok (.iinc 3 1, 3) := by decide +kernel
theorem dX7_begin_101 : decode cX7_begin 101 = .ok (.aload_n 0, 1) := by decide +kernel
theorem dX7_begin_102 : decode cX7_begin 102 = .ok (.getfield 42, 3) := by decide +kernel
theorem dX7_begin_105 : decode cX7_begin 105 = .ok (.iload_n 1, 1) := by decide +kernel
theorem dX7_begin_106 : decode cX7_begin 106 = .ok (.iload_n 3, 1) := by decide +kernel
theorem dX7_begin_107 : decode cX7_begin 107 = .ok (.iastore, 1) := by decide +kernel
theorem dX7_begin_108 : decode cX7_begin 108 = .ok (.aload_n 0, 1) := by decide +kernel
theorem dX7_begin_109 : decode cX7_begin 109 = .ok (.getfield 45, 3) := by decide +kernel
theorem dX7_begin_112 : decode cX7_begin 112 = .ok (.iload_n 1, 1) := by decide +kernel
theorem dX7_begin_113 : decode cX7_begin 113 = .ok (.iconst 0, 1) := by decide +kernel
theorem dX7_begin_114 : decode cX7_begin 114 = .ok (.iastore, 1) := by decide +kernel
theorem dX7_begin_115 : decode cX7_begin 115 = .ok (.aload_n 0, 1) := by decide +kernel
theorem dX7_begin_116 : decode cX7_begin 116 = .ok (.getfield 48, 3) := by decide +kernel
theorem dX7_begin_119 : decode cX7_begin 119 = .ok (.iload_n 1, 1) := by decide +kernel
theorem dX7_begin_120 : decode cX7_begin 120 = .ok (.iconst 0, 1) := by decide +kernel
theorem dX7_begin_121 : decode cX7_begin 121 = .ok (.iastore, 1) := by decide +kernel
theorem dX7_begin_122 : decode cX7_begin 122 = .ok (.aload_n 0, 1) := by decide +kernel
theorem dX7_begin_123 : decode cX7_begin 123 = .ok (.dup, 1) := by decide +kernel
theorem dX7_begin_124 : decode cX7_begin 124 = .ok (.getfield 97, 3) := by decide +kernel
theorem dX7_begin_127 : decode cX7_begin 127 = .ok (.iconst 1, 1) := by decide +kernel
theorem dX7_begin_128 : decode cX7_begin 128 = .ok (.iadd, 1) := by decide +kernel
theorem dX7_begin_129 : decode cX7_begin 129 = .ok (.putfield 97, 3) := by decide +kernel
theorem dX7_begin_132 : decode cX7_begin 132 = .ok (.return_, 1) := by decide +kernel
theorem dX7_standing_0 : decode cX7_standing 0 = .ok (.aload_n 0, 1) := by decide +kernel
theorem dX7_standing_1 : decode cX7_standing 1 = .ok (.getfield 90, 3) := by decide +kernel
theorem dX7_standing_4 : decode cX7_standing 4 = .ok (.iconst 1, 1) := by decide +kernel
theorem dX7_standing_5 : decode cX7_standing 5 = .ok (.isub, 1) := by decide +kernel
theorem dX7_standing_6 : decode cX7_standing 6 = .ok (.istore_n 2, 1) := by decide +kernel
theorem dX7_standing_7 : decode cX7_standing 7 = .ok (.iload_n 1, 1) := by decide +kernel
theorem dX7_standing_8 : decode cX7_standing 8 = .ok (.aload_n 0, 1) := by decide +kernel
theorem dX7_standing_9 : decode cX7_standing 9 = .ok (.getfield 42, 3) := by decide +kernel
theorem dX7_standing_12 : decode cX7_standing 12 = .ok (.iload_n 2, 1) := by decide +kernel
theorem dX7_standing_13 : decode cX7_standing 13 = .ok (.iaload, 1) := by decide +kernel
theorem dX7_standing_14 : decode cX7_standing 14 = .ok (.if_icmp .ge 18, 3) := by decide +kernel
theorem dX7_standing_17 : decode cX7_standing 17 = .ok (.aload_n 0, 1) := by decide +kernel
theorem dX7_standing_18 : decode cX7_standing 18 = .ok (.getfield 39, 3) := by decide +kernel
theorem dX7_standing_21 : decode cX7_standing 21 = .ok (.sipush 128, 3) := by decide +kernel
theorem dX7_standing_24 : decode cX7_standing 24 = .ok (.iload_n 2, 1) := by decide +kernel
theorem dX7_standing_25 : decode cX7_standing 25 = .ok (.imul, 1) := by decide +kernel
theorem dX7_standing_26 : decode cX7_standing 26 = .ok (.iload_n 1, 1) := by decide +kernel
theorem dX7_standing_27 : decode cX7_standing 27 = .ok (.iadd, 1) := by decide +kernel
theorem dX7_standing_28 : decode cX7_standing 28 = .ok (.iaload, 1) := by decide +kernel
theorem dX7_standing_29 : decode cX7_standing 29 = .ok (.goto 4, 3) := by decide +kernel
theorem dX7_standing_32 : decode cX7_standing 32 = .ok (.iconst (-1), 1) := by decide +kernel
theorem dX7_standing_33 : decode cX7_standing 33 = .ok (.ireturn, 1) := by decide +kernel
theorem dX7_digit_0 : decode cX7_digit 0 = .ok (.iload_n 0, 1) := by decide +kernel
theorem dX7_digit_1 : decode cX7_digit 1 = .ok (.bipush 48, 2) := by decide +kernel
theorem dX7_digit_3 : decode cX7_digit 3 = .ok (.if_icmp .lt 16, 3) := by decide +kernel
theorem dX7_digit_6 : decode cX7_digit 6 = .ok (.iload_n 0, 1) := by decide +kernel
theorem dX7_digit_7 : decode cX7_digit 7 = .ok (.bipush 57, 2) := by decide +kernel
theorem dX7_digit_9 : decode cX7_digit 9 = .ok (.if_icmp .gt 10, 3) := by decide +kernel
theorem dX7_digit_12 : decode cX7_digit 12 = .ok (.iload_n 0, 1) := by decide +kernel
theorem dX7_digit_13 : decode cX7_digit 13 = .ok (.bipush 48, 2) := by decide +kernel
theorem dX7_digit_15 : decode cX7_digit 15 = .ok (.isub, 1) := by decide +kernel
theorem dX7_digit_16 : decode cX7_digit 16 = .ok (.goto 23, 3) := by decide +kernel
theorem dX7_digit_19 : decode cX7_digit 19 = .ok (.iload_n 0, 1) := by decide +kernel
theorem dX7_digit_20 : decode cX7_digit 20 = .ok (.bipush 97, 2) := by decide +kernel
theorem dX7_digit_22 : decode cX7_digit 22 = .ok (.if_icmp .lt 16, 3) := by decide +kernel
theorem dX7_digit_25 : decode cX7_digit 25 = .ok (.iload_n 0, 1) := by decide +kernel
theorem dX7_digit_26 : decode cX7_digit 26 = .ok (.bipush 102, 2) := by decide +kernel
theorem dX7_digit_28 : decode cX7_digit 28 = .ok (.if_icmp .gt 10, 3) := by decide +kernel
theorem dX7_digit_31 : decode cX7_digit 31 = .ok (.iload_n 0, 1) := by decide +kernel
theorem dX7_digit_32 : decode cX7_digit 32 = .ok (.bipush 87, 2) := by decide +kernel
theorem dX7_digit_34 : decode cX7_digit 34 = .ok (.isub, 1) := by decide +kernel
theorem dX7_digit_35 : decode cX7_digit 35 = .ok (.goto 4, 3) := by decide +kernel
theorem dX7_digit_38 : decode cX7_digit 38 = .ok (.iconst (-1), 1) := by decide +kernel
theorem dX7_digit_39 : decode cX7_digit 39 = .ok (.ireturn, 1) := by decide +kernel
theorem dX7_see_0 : decode cX7_see 0 = .ok (.aload_n 0, 1) := by decide +kernel
theorem dX7_see_1 : decode cX7_see 1 = .ok (.aload_n 0, 1) := by decide +kernel
theorem dX7_see_2 : decode cX7_see 2 = .ok (.iload_n 1, 1) := by decide +kernel
theorem dX7_see_3 : decode cX7_see 3 = .ok (.invokevirtual 100, 3) := by decide +kernel
theorem dX7_see_6 : decode cX7_see 6 = .ok (.putfield 104, 3) := by decide +kernel
theorem dX7_see_9 : decode cX7_see 9 = .ok (.aload_n 0, 1) := by decide +kernel
theorem dX7_see_10 : decode cX7_see 10 = .ok (.iconst 1, 1) := by decide +kernel
theorem dX7_see_11 : decode cX7_see 11 = .ok (.putfield 107, 3) := by decide +kernel
theorem dX7_see_14 : decode cX7_see 14 = .ok (.aload_n 0, 1) := by decide +kernel
theorem dX7_see_15 : decode cX7_see 15 = .ok (.getfield 7, 3) := by decide +kernel
theorem dX7_see_18 : decode cX7_see 18 = .ok (.aload_n 0, 1) := by decide +kernel
theorem dX7_see_19 : decode cX7_see 19 = .ok (.getfield 104, 3) := by decide +kernel
theorem dX7_see_22 : decode cX7_see 22 = .ok (.iaload, 1) := by decide +kernel
theorem dX7_see_23 : decode cX7_see 23 = .ok (.bipush 7, 2) := by decide +kernel
theorem dX7_see_25 : decode cX7_see 25 = .ok (.if_icmp .ne 141, 3) := by decide +kernel
theorem dX7_see_28 : decode cX7_see 28 = .ok (.aload_n 0, 1) := by decide +kernel
theorem dX7_see_29 : decode cX7_see 29 = .ok (.iload_n 1, 1) := by decide +kernel
theorem dX7_see_30 : decode cX7_see 30 = .ok (.aload_n 0, 1) := by decide +kernel
theorem dX7_see_31 : decode cX7_see 31 = .ok (.getfield 107, 3) := by decide +kernel
theorem dX7_see_34 : decode cX7_see 34 = .ok (.iadd, 1) := by decide +kernel
theorem dX7_see_35 : decode cX7_see 35 = .ok (.invokevirtual 100, 3) := by decide +kernel
theorem dX7_see_38 : decode cX7_see 38 = .ok (.aload_n 0, 1) := by decide +kernel
theorem dX7_see_39 : decode cX7_see 39 = .ok (.getfield 104, 3) := by decide +kernel
theorem dX7_see_42 : decode cX7_see 42 = .ok (.if_icmp .ne 124, 3) := by decide +kernel
theorem dX7_see_45 : decode cX7_see 45 = .ok (.aload_n 0, 1) := by decide +kernel
theorem dX7_see_46 : decode cX7_see 46 = .ok (.iload_n 1, 1) := by decide +kernel
theorem dX7_see_47 : decode cX7_see 47 = .ok (.aload_n 0, 1) := by decide +kernel
theorem dX7_see_48 : decode cX7_see 48 = .ok (.getfield 107, 3) := by decide +kernel
theorem dX7_see_51 : decode cX7_see 51 = .ok (.iadd, 1) := by decide +kernel
theorem dX7_see_52 : decode cX7_see 52 = .ok (.iconst 1, 1) := by decide +kernel
theorem dX7_see_53 : decode cX7_see 53 = .ok (.iadd, 1) := by decide +kernel
theorem dX7_see_54 : decode cX7_see 54 = .ok (.invokevirtual 100, 3) := by decide +kernel
theorem dX7_see_57 : decode cX7_see 57 = .ok (.invokestatic 110, 3) := by decide +kernel
theorem dX7_see_60 : decode cX7_see 60 = .ok (.ifCond .eq 106, 3) := by decide +kernel
theorem dX7_see_63 : decode cX7_see 63 = .ok (.aload_n 0, 1) := by decide +kernel
theorem dX7_see_64 : decode cX7_see 64 = .ok (.iload_n 1, 1) := by decide +kernel
theorem dX7_see_65 : decode cX7_see 65 = .ok (.aload_n 0, 1) := by decide +kernel
theorem dX7_see_66 : decode cX7_see 66 = .ok (.getfield 107, 3) := by decide +kernel
theorem dX7_see_69 : decode cX7_see 69 = .ok (.iadd, 1) := by decide +kernel
theorem dX7_see_70 : decode cX7_see 70 = .ok (.iconst 1, 1) := by decide +kernel
theorem dX7_see_71 : decode cX7_see 71 = .ok (.iadd, 1) := by decide +kernel
theorem dX7_see_72 : decode cX7_see 72 = .ok (.invokevirtual 100, 3) := by decide +kernel
theorem dX7_see_75 : decode cX7_see 75 = .ok (.istore_n 2, 1) := by decide +kernel
theorem dX7_see_76 : decode cX7_see 76 = .ok (.aload_n 0, 1) := by decide +kernel
theorem dX7_see_77 : decode cX7_see 77 = .ok (.iload_n 1, 1) := by decide +kernel
theorem dX7_see_78 : decode cX7_see 78 = .ok (.aload_n 0, 1) := by decide +kernel
theorem dX7_see_79 : decode cX7_see 79 = .ok (.getfield 107, 3) := by decide +kernel
theorem dX7_see_82 : decode cX7_see 82 = .ok (.iadd, 1) := by decide +kernel
theorem dX7_see_83 : decode cX7_see 83 = .ok (.iconst 2, 1) := by decide +kernel
theorem dX7_see_84 : decode cX7_see 84 = .ok (.iadd, 1) := by decide +kernel
theorem dX7_see_85 : decode cX7_see 85 = .ok (.invokevirtual 100, 3) := by decide +kernel
theorem dX7_see_88 : decode cX7_see 88 = .ok (.istore_n 3, 1) := by decide +kernel
theorem dX7_see_89 : decode cX7_see 89 = .ok (.iload_n 2, 1) := by decide +kernel
theorem dX7_see_90 : decode cX7_see 90 = .ok (.invokestatic 113, 3) := by decide +kernel
theorem dX7_see_93 : decode cX7_see 93 = .ok (.ifCond .lt 39, 3) := by decide +kernel
theorem dX7_see_96 : decode cX7_see 96 = .ok (.iload_n 3, 1) := by decide +kernel
theorem dX7_see_97 : decode cX7_see 97 = .ok (.invokestatic 113, 3) := by decide +kernel
theorem dX7_see_100 : decode cX7_see 100 = .ok (.ifCond .lt 32, 3) := by decide +kernel
theorem dX7_see_103 : decode cX7_see 103 = .ok (.aload_n 0, 1) := by decide +kernel
theorem dX7_see_104 : decode cX7_see 104 = .ok (.bipush 16, 2) := by decide +kernel
theorem dX7_see_106 : decode cX7_see 106 = .ok (.iload_n 2, 1) := by decide +kernel
theorem dX7_see_107 : decode cX7_see 107 = .ok (.invokestatic 113, 3) := by decide +kernel
theorem dX7_see_110 : decode cX7_see 110 = .ok (.imul, 1) := by decide +kernel
theorem dX7_see_111 : decode cX7_see 111 = .ok (.iload_n 3, 1) := by decide +kernel
theorem dX7_see_112 : decode cX7_see 112 = .ok (.invokestatic 113, 3) := by decide +kernel
theorem dX7_see_115 : decode cX7_see 115 = .ok (.iadd, 1) := by decide +kernel
theorem dX7_see_116 : decode cX7_see 116 = .ok (.putfield 104, 3) := by decide +kernel
theorem dX7_see_119 : decode cX7_see 119 = .ok (.aload_n 0, 1) := by decide +kernel
theorem dX7_see_120 : decode cX7_see 120 = .ok (.aload_n 0, 1) := by decide +kernel
theorem dX7_see_121 : decode cX7_see 121 = .ok (.getfield 107, 3) := by decide +kernel
theorem dX7_see_124 : decode cX7_see 124 = .ok (.iconst 3, 1) := by decide +kernel
theorem dX7_see_125 : decode cX7_see 125 = .ok (.iadd, 1) := by decide +kernel
theorem dX7_see_126 : decode cX7_see 126 = .ok (.putfield 107, 3) := by decide +kernel
theorem dX7_see_129 : decode cX7_see 129 = .ok (.goto 34, 3) := by decide +kernel
theorem dX7_see_132 : decode cX7_see 132 = .ok (.aload_n 0, 1) := by decide +kernel
theorem dX7_see_133 : decode cX7_see 133 = .ok (.iload_n 2, 1) := by decide +kernel
theorem dX7_see_134 : decode cX7_see 134 = .ok (.bipush 64, 2) := by decide +kernel
theorem dX7_see_136 : decode cX7_see 136 = .ok (.if_icmp .ge 10, 3) := by decide +kernel
theorem dX7_see_139 : decode cX7_see 139 = .ok (.iload_n 2, 1) := by decide +kernel
theorem dX7_see_140 : decode cX7_see 140 = .ok (.bipush 64, 2) := by decide +kernel
theorem dX7_see_142 : decode cX7_see 142 = .ok (.iadd, 1) := by decide +kernel
theorem dX7_see_143 : decode cX7_see 143 = .ok (.goto 7, 3) := by decide +kernel
theorem dX7_see_146 : decode cX7_see 146 = .ok (.iload_n 2, 1) := by decide +kernel
theorem dX7_see_147 : decode cX7_see 147 = .ok (.bipush 64, 2) := by decide +kernel
theorem dX7_see_149 : decode cX7_see 149 = .ok (.isub, 1) := by decide +kernel
theorem dX7_see_150 : decode cX7_see 150 = .ok (.putfield 104, 3) := by decide +kernel
theorem dX7_see_153 : decode cX7_see 153 = .ok (.aload_n 0, 1) := by decide +kernel
theorem dX7_see_154 : decode cX7_see 154 = .ok (.aload_n 0, 1) := by decide +kernel
theorem dX7_see_155 : decode cX7_see 155 = .ok (.getfield 107, 3) := by decide +kernel
theorem dX7_see_158 : decode cX7_see 158 = .ok (.iconst 2, 1) := by decide +kernel
theorem dX7_see_159 : decode cX7_see 159 = .ok (.iadd, 1) := by decide +kernel
theorem dX7_see_160 : decode cX7_see 160 = .ok (.putfield 107, 3) := by decide +kernel
theorem dX7_see_163 : decode cX7_see 163 = .ok (.goto (-149), 3) := by decide +kernel
theorem dX7_see_166 : decode cX7_see 166 = .ok (.return_, 1) := by decide +kernel
theorem dX7_isLow_0 : decode cX7_isLow 0 = .ok (.iload_n 0, 1) := by decide +kernel
theorem dX7_isLow_1 : decode cX7_isLow 1 = .ok (.ifCond .lt 14, 3) := by decide +kernel
theorem dX7_isLow_4 : decode cX7_isLow 4 = .ok (.iload_n 0, 1) := by decide +kernel
theorem dX7_isLow_5 : decode cX7_isLow 5 = .ok (.sipush 128, 3) := by decide +kernel
theorem dX7_isLow_8 : decode cX7_isLow 8 = .ok (.if_icmp .ge 7, 3) := by decide +kernel
theorem dX7_isLow_11 : decode cX7_isLow 11 = .ok (.iconst 1, 1) := by decide +kernel
theorem dX7_isLow_12 : decode cX7_isLow 12 = .ok (.goto 4, 3) := by decide +kernel
theorem dX7_isLow_15 : decode cX7_isLow 15 = .ok (.iconst 0, 1) := by decide +kernel
theorem dX7_isLow_16 : decode cX7_isLow 16 = .ok (.ireturn, 1) := by decide +kernel
theorem dX7_tell_0 : decode cX7_tell 0 = .ok (.aload_n 0, 1) := by decide +kernel
theorem dX7_tell_1 : decode cX7_tell 1 = .ok (.getfield 116, 3) := by decide +kernel
theorem dX7_tell_4 : decode cX7_tell 4 = .ok (.bipush 100, 2) := by decide +kernel
theorem dX7_tell_6 : decode cX7_tell 6 = .ok (.if_icmp .ge 46, 3) := by decide +kernel
theorem dX7_tell_9 : decode cX7_tell 9 = .ok (.aload_n 0, 1) := by decide +kernel
theorem dX7_tell_10 : decode cX7_tell 10 = .ok (.getfield 63, 3) := by decide +kernel
theorem dX7_tell_13 : decode cX7_tell 13 = .ok (.iconst 3, 1) := by decide +kernel
theorem dX7_tell_14 : decode cX7_tell 14 = .ok (.aload_n 0, 1) := by decide +kernel
theorem dX7_tell_15 : decode cX7_tell 15 = .ok (.getfield 116, 3) := by decide +kernel
theorem dX7_tell_18 : decode cX7_tell 18 = .ok (.imul, 1) := by decide +kernel
theorem dX7_tell_19 : decode cX7_tell 19 = .ok (.iload_n 1, 1) := by decide +kernel
theorem dX7_tell_20 : decode cX7_tell 20 = .ok (.iastore, 1) := by decide +kernel
theorem dX7_tell_21 : decode cX7_tell 21 = .ok (.aload_n 0, 1) := by decide +kernel
theorem dX7_tell_22 : decode cX7_tell 22 = .ok (.getfield 63, 3) := by decide +kernel
theorem dX7_tell_25 : decode cX7_tell 25 = .ok (.iconst 3, 1) := by decide +kernel
theorem dX7_tell_26 : decode cX7_tell 26 = .ok (.aload_n 0, 1) := by decide +kernel
theorem dX7_tell_27 : decode cX7_tell 27 = .ok (.getfield 116, 3) := by decide +kernel
theorem dX7_tell_30 : decode cX7_tell 30 = .ok (.imul, 1) := by decide +kernel
theorem dX7_tell_31 : decode cX7_tell 31 = .ok (.iconst 1, 1) := by decide +kernel
theorem dX7_tell_32 : decode cX7_tell 32 = .ok (.iadd, 1) := by decide +kernel
theorem dX7_tell_33 : decode cX7_tell 33 = .ok (.aload_n 0, 1) := by decide +kernel
theorem dX7_tell_34 : decode cX7_tell 34 = .ok (.getfield 119, 3) := by decide +kernel
theorem dX7_tell_37 : decode cX7_tell 37 = .ok (.iastore, 1) := by decide +kernel
theorem dX7_tell_38 : decode cX7_tell 38 = .ok (.aload_n 0, 1) := by decide +kernel
theorem dX7_tell_39 : decode cX7_tell 39 = .ok (.getfield 63, 3) := by decide +kernel
theorem dX7_tell_42 : decode cX7_tell 42 = .ok (.iconst 3, 1) := by decide +kernel
theorem dX7_tell_43 : decode cX7_tell 43 = .ok (.aload_n 0, 1) := by decide +kernel
theorem dX7_tell_44 : decode cX7_tell 44 = .ok (.getfield 116, 3) := by decide +kernel
theorem dX7_tell_47 : decode cX7_tell 47 = .ok (.imul, 1) := by decide +kernel
theorem dX7_tell_48 : decode cX7_tell 48 = .ok (.iconst 2, 1) := by decide +kernel
theorem dX7_tell_49 : decode cX7_tell 49 = .ok (.iadd, 1) := by decide +kernel
theorem dX7_tell_50 : decode cX7_tell 50 = .ok (.iload_n 2, 1) := by decide +kernel
theorem dX7_tell_51 : decode cX7_tell 51 = .ok (.iastore, 1) := by decide +kernel
theorem dX7_tell_52 : decode cX7_tell 52 = .ok (.aload_n 0, 1) := by decide +kernel
theorem dX7_tell_53 : decode cX7_tell 53 = .ok (.dup, 1) := by decide +kernel
theorem dX7_tell_54 : decode cX7_tell 54 = .ok (.getfield 116, 3) := by decide +kernel
theorem dX7_tell_57 : decode cX7_tell 57 = .ok (.iconst 1, 1) := by decide +kernel
theorem dX7_tell_58 : decode cX7_tell 58 = .ok (.iadd, 1) := by decide +kernel
theorem dX7_tell_59 : decode cX7_tell 59 = .ok (.putfield 116, 3) := by decide +kernel
theorem dX7_tell_62 : decode cX7_tell 62 = .ok (.return_, 1) := by decide +kernel
theorem dX7_keep_0 : decode cX7_keep 0 = .ok (.aload_n 0, 1) := by decide +kernel
theorem dX7_keep_1 : decode cX7_keep 1 = .ok (.getfield 90, 3) := by decide +kernel
theorem dX7_keep_4 : decode cX7_keep 4 = .ok (.iconst 1, 1) := by decide +kernel
theorem dX7_keep_5 : decode cX7_keep 5 = .ok (.isub, 1) := by decide +kernel
theorem dX7_keep_6 : decode cX7_keep 6 = .ok (.istore 5, 2) := by decide +kernel
theorem dX7_keep_8 : decode cX7_keep 8 = .ok (.aload_n 0, 1) := by decide +kernel
theorem dX7_keep_9 : decode cX7_keep 9 = .ok (.getfield 54, 3) := by decide +kernel
theorem dX7_keep_12 : decode cX7_keep 12 = .ok (.bipush 6, 2) := by decide +kernel
theorem dX7_keep_14 : decode cX7_keep 14 = .ok (.aload_n 0, 1) := by decide +kernel
theorem dX7_keep_15 : decode cX7_keep 15 = .ok (.getfield 119, 3) := by decide +kernel
theorem dX7_keep_18 : decode cX7_keep 18 = .ok (.imul, 1) := by decide +kernel
theorem dX7_keep_19 : decode cX7_keep 19 = .ok (.iload_n 1, 1) := by decide +kernel
theorem dX7_keep_20 : decode cX7_keep 20 = .ok (.iastore, 1) := by decide +kernel
theorem dX7_keep_21 : decode cX7_keep 21 = .ok (.aload_n 0, 1) := by decide +kernel
theorem dX7_keep_22 : decode cX7_keep 22 = .ok (.getfield 54, 3) := by decide +kernel
theorem dX7_keep_25 : decode cX7_keep 25 = .ok (.bipush 6, 2) := by decide +kernel
theorem dX7_keep_27 : decode cX7_keep 27 = .ok (.aload_n 0, 1) := by decide +kernel
theorem dX7_keep_28 : decode cX7_keep 28 = .ok (.getfield 119, 3) := by decide +kernel
theorem dX7_keep_31 : decode cX7_keep 31 = .ok (.imul, 1) := by decide +kernel
theorem dX7_keep_32 : decode cX7_keep 32 = .ok (.iconst 1, 1) := by decide +kernel
theorem dX7_keep_33 : decode cX7_keep 33 = .ok (.iadd, 1) := by decide +kernel
theorem dX7_keep_34 : decode cX7_keep 34 = .ok (.iload_n 2, 1) := by decide +kernel
theorem dX7_keep_35 : decode cX7_keep 35 = .ok (.iastore, 1) := by decide +kernel
theorem dX7_keep_36 : decode cX7_keep 36 = .ok (.aload_n 0, 1) := by decide +kernel
theorem dX7_keep_37 : decode cX7_keep 37 = .ok (.getfield 54, 3) := by decide +kernel
theorem dX7_keep_40 : decode cX7_keep 40 = .ok (.bipush 6, 2) := by decide +kernel
theorem dX7_keep_42 : decode cX7_keep 42 = .ok (.aload_n 0, 1) := by decide +kernel
theorem dX7_keep_43 : decode cX7_keep 43 = .ok (.getfield 119, 3) := by decide +kernel
theorem dX7_keep_46 : decode cX7_keep 46 = .ok (.imul, 1) := by decide +kernel
theorem dX7_keep_47 : decode cX7_keep 47 = .ok (.iconst 2, 1) := by decide +kernel
theorem dX7_keep_48 : decode cX7_keep 48 = .ok (.iadd, 1) := by decide +kernel
theorem dX7_keep_49 : decode cX7_keep 49 = .ok (.iload_n 3, 1) := by decide +kernel
theorem dX7_keep_50 : decode cX7_keep 50 = .ok (.iastore, 1) := by decide +kernel
theorem dX7_keep_51 : decode cX7_keep 51 = .ok (.aload_n 0, 1) := by decide +kernel
theorem dX7_keep_52 : decode cX7_keep 52 = .ok (.getfield 54, 3) := by decide +kernel
theorem dX7_keep_55 : decode cX7_keep 55 = .ok (.bipush 6, 2) := by decide +kernel
theorem dX7_keep_57 : decode cX7_keep 57 = .ok (.aload_n 0, 1) := by decide +kernel
theorem dX7_keep_58 : decode cX7_keep 58 = .ok (.getfield 119, 3) := by decide +kernel
theorem dX7_keep_61 : decode cX7_keep 61 = .ok (.imul, 1) := by decide +kernel
theorem dX7_keep_62 : decode cX7_keep 62 = .ok (.iconst 3, 1) := by decide +kernel
theorem dX7_keep_63 : decode cX7_keep 63 = .ok (.iadd, 1) := by decide +kernel
theorem dX7_keep_64 : decode cX7_keep 64 = .ok (.aload_n 0, 1) := by decide +kernel
theorem dX7_keep_65 : decode cX7_keep 65 = .ok (.getfield 33, 3) := by decide +kernel
theorem dX7_keep_68 : decode cX7_keep 68 = .ok (.iload 5, 2) := by decide +kernel
theorem dX7_keep_70 : decode cX7_keep 70 = .ok (.iaload, 1) := by decide +kernel
theorem dX7_keep_71 : decode cX7_keep 71 = .ok (.iastore, 1) := by decide +kernel
theorem dX7_keep_72 : decode cX7_keep 72 = .ok (.aload_n 0, 1) := by decide +kernel
theorem dX7_keep_73 : decode cX7_keep 73 = .ok (.getfield 54, 3) := by decide +kernel
theorem dX7_keep_76 : decode cX7_keep 76 = .ok (.bipush 6, 2) := by decide +kernel
theorem dX7_keep_78 : decode cX7_keep 78 = .ok (.aload_n 0, 1) := by decide +kernel
theorem dX7_keep_79 : decode cX7_keep 79 = .ok (.getfield 119, 3) := by decide +kernel
theorem dX7_keep_82 : decode cX7_keep 82 = .ok (.imul, 1) := by decide +kernel
theorem dX7_keep_83 : decode cX7_keep 83 = .ok (.iconst 4, 1) := by decide +kernel
theorem dX7_keep_84 : decode cX7_keep 84 = .ok (.iadd, 1) := by decide +kernel
theorem dX7_keep_85 : decode cX7_keep 85 = .ok (.aload_n 0, 1) := by decide +kernel
theorem dX7_keep_86 : decode cX7_keep 86 = .ok (.getfield 36, 3) := by decide +kernel
theorem dX7_keep_89 : decode cX7_keep 89 = .ok (.iload 5, 2) := by decide +kernel
theorem dX7_keep_91 : decode cX7_keep 91 = .ok (.iaload, 1) := by decide +kernel
theorem dX7_keep_92 : decode cX7_keep 92 = .ok (.iastore, 1) := by decide +kernel
theorem dX7_keep_93 : decode cX7_keep 93 = .ok (.aload_n 0, 1) := by decide +kernel
theorem dX7_keep_94 : decode cX7_keep 94 = .ok (.getfield 54, 3) := by decide +kernel
theorem dX7_keep_97 : decode cX7_keep 97 = .ok (.bipush 6, 2) := by decide +kernel
theorem dX7_keep_99 : decode cX7_keep 99 = .ok (.aload_n 0, 1) := by decide +kernel
theorem dX7_keep_100 : decode cX7_keep 100 = .ok (.getfield 119, 3) := by decide +kernel
theorem dX7_keep_103 : decode cX7_keep 103 = .ok (.imul, 1) := by decide +kernel
theorem dX7_keep_104 : decode cX7_keep 104 = .ok (.iconst 5, 1) := by decide +kernel
theorem dX7_keep_105 : decode cX7_keep 105 = .ok (.iadd, 1) := by decide +kernel
theorem dX7_keep_106 : decode cX7_keep 106 = .ok (.iload 4, 2) := by decide +kernel
theorem dX7_keep_108 : decode cX7_keep 108 = .ok (.iastore, 1) := by decide +kernel
theorem dX7_keep_109 : decode cX7_keep 109 = .ok (.aload_n 0, 1) := by decide +kernel
theorem dX7_keep_110 : decode cX7_keep 110 = .ok (.dup, 1) := by decide +kernel
theorem dX7_keep_111 : decode cX7_keep 111 = .ok (.getfield 119, 3) := by decide +kernel
theorem dX7_keep_114 : decode cX7_keep 114 = .ok (.iconst 1, 1) := by decide +kernel
theorem dX7_keep_115 : decode cX7_keep 115 = .ok (.iadd, 1) := by decide +kernel
theorem dX7_keep_116 : decode cX7_keep 116 = .ok (.putfield 119, 3) := by decide +kernel
theorem dX7_keep_119 : decode cX7_keep 119 = .ok (.aload_n 0, 1) := by decide +kernel
theorem dX7_keep_120 : decode cX7_keep 120 = .ok (.getfield 119, 3) := by decide +kernel
theorem dX7_keep_123 : decode cX7_keep 123 = .ok (.iconst 1, 1) := by decide +kernel
theorem dX7_keep_124 : decode cX7_keep 124 = .ok (.isub, 1) := by decide +kernel
theorem dX7_keep_125 : decode cX7_keep 125 = .ok (.ireturn, 1) := by decide +kernel
theorem dX7_nameOfWord_0 : decode cX7_nameOfWord 0 = .ok (.iconst 0, 1) := by decide +kernel
theorem dX7_nameOfWord_1 : decode cX7_nameOfWord 1 = .ok (.istore_n 1, 1) := by decide +kernel
theorem dX7_nameOfWord_2 : decode cX7_nameOfWord 2 = .ok (.iload_n 1, 1) := by decide +kernel
theorem dX7_nameOfWord_3 : decode cX7_nameOfWord 3 = .ok (.aload_n 0, 1) := by decide +kernel
theorem dX7_nameOfWord_4 : decode cX7_nameOfWord 4 = .ok (.getfield 69, 3) := by decide +kernel
theorem dX7_nameOfWord_7 : decode cX7_nameOfWord 7 = .ok (.if_icmp .ge 80, 3) := by decide +kernel
theorem dX7_nameOfWord_10 : decode cX7_nameOfWord 10 = .ok (.aload_n 0, 1) := by decide +kernel
theorem dX7_nameOfWord_11 : decode cX7_nameOfWord 11 = .ok (.getfield 60, 3) := by decide +kernel
theorem dX7_nameOfWord_14 : decode cX7_nameOfWord 14 = .ok (.iload_n 1, 1) := by decide +kernel
theorem dX7_nameOfWord_15 : decode cX7_nameOfWord 15 = .ok (.iaload, 1) := by decide +kernel
theorem dX7_nameOfWord_16 : decode cX7_nameOfWord 16 = .ok (.aload_n 0, 1) := by decide +kernel
theorem dX7_nameOfWord_17 : decode cX7_nameOfWord 17 = .ok (.getfield 122, 3) := by decide +kernel
theorem dX7_nameOfWord_20 : decode cX7_nameOfWord 20 = .ok (.if_icmp .ne 7, 3) := by decide +kernel
theorem dX7_nameOfWord_23 : decode cX7_nameOfWord 23 = .ok (.iconst 1, 1) := by decide +kernel
theorem dX7_nameOfWord_24 : decode cX7_nameOfWord 24 = .ok (.goto 4, 3) := by decide +kernel
theorem dX7_nameOfWord_27 : decode cX7_nameOfWord 27 = .ok (.iconst 0, 1) := by decide +kernel
theorem dX7_nameOfWord_28 : decode cX7_nameOfWord 28 = .ok (.istore_n 2, 1) := by decide +kernel
theorem dX7_nameOfWord_29 : decode cX7_nameOfWord 29 = .ok (.iconst 0, 1) := by decide +kernel
theorem dX7_nameOfWord_30 : decode cX7_nameOfWord 30 = .ok (.istore_n 3, 1) := by decide +kernel
theorem dX7_nameOfWord_31 : decode cX7_nameOfWord 31 = .ok (.iload_n 3, 1) := by decide +kernel
theorem dX7_nameOfWord_32 : decode cX7_nameOfWord 32 = .ok (.aload_n 0, 1) := by decide +kernel
theorem dX7_nameOfWord_33 : decode cX7_nameOfWord 33 = .ok (.getfield 122, 3) := by decide +kernel
theorem dX7_nameOfWord_36 : decode cX7_nameOfWord 36 = .ok (.if_icmp .ge 39, 3) := by decide +kernel
theorem dX7_nameOfWord_39 : decode cX7_nameOfWord 39 = .ok (.iload_n 2, 1) := by decide +kernel
theorem dX7_nameOfWord_40 : decode cX7_nameOfWord 40 = .ok (.ifCond .eq 35, 3) := by decide +kernel
theorem dX7_nameOfWord_43 : decode cX7_nameOfWord 43 = .ok (.aload_n 0, 1) := by decide +kernel
theorem dX7_nameOfWord_44 : decode cX7_nameOfWord 44 = .ok (.getfield 57, 3) := by decide +kernel
theorem dX7_nameOfWord_47 : decode cX7_nameOfWord 47 = .ok (.bipush 40, 2) := by decide +kernel
theorem dX7_nameOfWord_49 : decode cX7_nameOfWord 49 = .ok (.iload_n 1, 1) := by decide +kernel
theorem dX7_nameOfWord_50 : decode cX7_nameOfWord 50 = .ok (.imul, 1) := by decide +kernel
theorem dX7_nameOfWord_51 : decode cX7_nameOfWord 51 = .ok (.iload_n 3, 1) := by decide +kernel
theorem dX7_nameOfWord_52 : decode cX7_nameOfWord 52 = .ok (.iadd, 1) := by decide +kernel
theorem dX7_nameOfWord_53 : decode cX7_nameOfWord 53 = .ok (.iaload, 1) := by decide +kernel
theorem dX7_nameOfWord_54 : decode cX7_nameOfWord 54 = .ok (.aload_n 0, 1) := by decide +kernel
theorem dX7_nameOfWord_55 : decode cX7_nameOfWord 55 = .ok (.getfield 66, 3) := by decide +kernel
theorem dX7_nameOfWord_58 : decode cX7_nameOfWord 58 = .ok (.iload_n 3, 1) := by decide +kernel
theorem dX7_nameOfWord_59 : decode cX7_nameOfWord 59 = .ok (.iaload, 1) := by decide +kernel
theorem dX7_nameOfWord_60 : decode cX7_nameOfWord 60 = .ok (.if_icmp .ne 7, 3) := by decide +kernel
theorem dX7_nameOfWord_63 : decode cX7_nameOfWord 63 = .ok (.iconst 1, 1) := by decide +kernel
theorem dX7_nameOfWord_64 : decode cX7_nameOfWord 64 = .ok (.goto 4, 3) := by decide +kernel
theorem dX7_nameOfWord_67 : decode cX7_nameOfWord 67 = .ok (.iconst 0, 1) := by decide +kernel
theorem dX7_nameOfWord_68 : decode cX7_nameOfWord 68 = .ok (.istore_n 2, 1) := by decide +kernel
theorem dX7_nameOfWord_69 : decode cX7_nameOfWord 69 = .ok (.iinc 3 1, 3) := by decide +kernel
theorem dX7_nameOfWord_72 : decode cX7_nameOfWord 72 = .ok (.goto (-41), 3) := by decide +kernel
theorem dX7_nameOfWord_75 : decode cX7_nameOfWord 75 = .ok (.iload_n 2, 1) := by decide +kernel
theorem dX7_nameOfWord_76 : decode cX7_nameOfWord 76 = .ok (.ifCond .eq 5, 3) := by decide +kernel
theorem dX7_nameOfWord_79 : decode cX7_nameOfWord 79 = .ok (.iload_n 1, 1) := by decide +kernel
theorem dX7_nameOfWord_80 : decode cX7_nameOfWord 80 = .ok (.ireturn, 1) := by decide +kernel
theorem dX7_nameOfWord_81 : decode cX7_nameOfWord 81 = .ok (.iinc 1 1, 3) := by decide +kernel
theorem dX7_nameOfWord_84 : decode cX7_nameOfWord 84 = .ok (.goto (-82), 3) := by decide +kernel
theorem dX7_nameOfWord_87 : decode cX7_nameOfWord 87 = .ok (.aload_n 0, 1) := by decide +kernel
theorem dX7_nameOfWord_88 : decode cX7_nameOfWord 88 = .ok (.getfield 69, 3) := by decide +kernel
theorem dX7_nameOfWord_91 : decode cX7_nameOfWord 91 = .ok (.sipush 150, 3) := by decide +kernel
theorem dX7_nameOfWord_94 : decode cX7_nameOfWord 94 = .ok (.if_icmp .ne 5, 3) := by decide +kernel
theorem dX7_nameOfWord_97 : decode cX7_nameOfWord 97 = .ok (.iconst (-1), 1) := by decide +kernel
theorem dX7_nameOfWord_98 : decode cX7_nameOfWord 98 = .ok (.ireturn, 1) := by decide +kernel
theorem dX7_nameOfWord_99 : decode cX7_nameOfWord 99 = .ok (.iconst 0, 1) := by decide +kernel
theorem dX7_nameOfWord_100 : decode cX7_nameOfWord 100 = .ok (.istore_n 1, 1) := by decide +kernel
theorem dX7_nameOfWord_101 : decode cX7_nameOfWord 101 = .ok (.iload_n 1, 1) := by decide +kernel
theorem dX7_nameOfWord_102 : decode cX7_nameOfWord 102 = .ok (.aload_n 0, 1) := by decide +kernel
theorem dX7_nameOfWord_103 : decode cX7_nameOfWord 103 = .ok (.getfield 122, 3) := by decide +kernel
theorem dX7_nameOfWord_106 : decode cX7_nameOfWord 106 = .ok (.if_icmp .ge 29, 3) := by decide +kernel
theorem dX7_nameOfWord_109 : decode cX7_nameOfWord 109 = .ok (.aload_n 0, 1) := by decide +kernel
theorem dX7_nameOfWord_110 : decode cX7_nameOfWord 110 = .ok (.getfield 57, 3) := by decide +kernel
theorem dX7_nameOfWord_113 : decode cX7_nameOfWord 113 = .ok (.bipush 40, 2) := by decide +kernel
theorem dX7_nameOfWord_115 : decode cX7_nameOfWord 115 = .ok (.aload_n 0, 1) := by decide +kernel
theorem dX7_nameOfWord_116 : decode cX7_nameOfWord 116 = .ok (.getfield 69, 3) := by decide +kernel
theorem dX7_nameOfWord_119 : decode cX7_nameOfWord 119 = .ok (.imul, 1) := by decide +kernel
theorem dX7_nameOfWord_120 : decode cX7_nameOfWord 120 = .ok (.iload_n 1, 1) := by decide +kernel
theorem dX7_nameOfWord_121 : decode cX7_nameOfWord 121 = .ok (.iadd, 1) := by decide +kernel
theorem dX7_nameOfWord_122 : decode cX7_nameOfWord 122 = .ok (.aload_n 0, 1) := by decide +kernel
theorem dX7_nameOfWord_123 : decode cX7_nameOfWord 123 = .ok (.getfield 66, 3) := by decide +kernel
theorem dX7_nameOfWord_126 : decode cX7_nameOfWord 126 = .ok (.iload_n 1, 1) := by decide +kernel
theorem dX7_nameOfWord_127 : decode cX7_nameOfWord 127 = .ok (.iaload, 1) := by decide +kernel
theorem dX7_nameOfWord_128 : decode cX7_nameOfWord 128 = .ok (.iastore, 1) := by decide +kernel
theorem dX7_nameOfWord_129 : decode cX7_nameOfWord 129 = .ok (.iinc 1 1, 3) := by decide +kernel
theorem dX7_nameOfWord_132 : decode cX7_nameOfWord 132 = .ok (.goto (-31), 3) := by decide +kernel
theorem dX7_nameOfWord_135 : decode cX7_nameOfWord 135 = .ok (.aload_n 0, 1) := by decide +kernel
theorem dX7_nameOfWord_136 : decode cX7_nameOfWord 136 = .ok (.getfield 60, 3) := by decide +kernel
theorem dX7_nameOfWord_139 : decode cX7_nameOfWord 139 = .ok (.aload_n 0, 1) := by decide +kernel
theorem dX7_nameOfWord_140 : decode cX7_nameOfWord 140 = .ok (.getfield 69, 3) := by decide +kernel
theorem dX7_nameOfWord_143 : decode cX7_nameOfWord 143 = .ok (.aload_n 0, 1) := by decide +kernel
theorem dX7_nameOfWord_144 : decode cX7_nameOfWord 144 = .ok (.getfield 122, 3) := by decide +kernel
theorem dX7_nameOfWord_147 : decode cX7_nameOfWord 147 = .ok (.iastore, 1) := by decide +kernel
theorem dX7_nameOfWord_148 : decode cX7_nameOfWord 148 = .ok (.aload_n 0, 1) := by decide +kernel
theorem dX7_nameOfWord_149 : decode cX7_nameOfWord 149 = .ok (.dup, 1) := by decide +kernel
theorem dX7_nameOfWord_150 : decode cX7_nameOfWord 150 = .ok (.getfield 69, 3) := by decide +kernel
theorem dX7_nameOfWord_153 : decode cX7_nameOfWord 153 = .ok (.iconst 1, 1) := by decide +kernel
theorem dX7_nameOfWord_154 : decode cX7_nameOfWord 154 = .ok (.iadd, 1) := by decide +kernel
theorem dX7_nameOfWord_155 : decode cX7_nameOfWord 155 = .ok (.putfield 69, 3) := by decide +kernel
theorem dX7_nameOfWord_158 : decode cX7_nameOfWord 158 = .ok (.aload_n 0, 1) := by decide +kernel
theorem dX7_nameOfWord_159 : decode cX7_nameOfWord 159 = .ok (.getfield 69, 3) := by decide +kernel
theorem dX7_nameOfWord_162 : decode cX7_nameOfWord 162 = .ok (.iconst 1, 1) := by decide +kernel
theorem dX7_nameOfWord_163 : decode cX7_nameOfWord 163 = .ok (.isub, 1) := by decide +kernel
theorem dX7_nameOfWord_164 : decode cX7_nameOfWord 164 = .ok (.ireturn, 1) := by decide +kernel
theorem dX7_addToWord_0 : decode cX7_addToWord 0 = .ok (.iload_n 1, 1) := by decide +kernel
theorem dX7_addToWord_1 : decode cX7_addToWord 1 = .ok (.bipush 40, 2) := by decide +kernel
theorem dX7_addToWord_3 : decode cX7_addToWord 3 = .ok (.if_icmp .ge 20, 3) := by decide +kernel
theorem dX7_addToWord_6 : decode cX7_addToWord 6 = .ok (.aload_n 0, 1) := by decide +kernel
theorem dX7_addToWord_7 : decode cX7_addToWord 7 = .ok (.getfield 66, 3) := by decide +kernel
theorem dX7_addToWord_10 : decode cX7_addToWord 10 = .ok (.iload_n 1, 1) := by decide +kernel
theorem dX7_addToWord_11 : decode cX7_addToWord 11 = .ok (.aload_n 0, 1) := by decide +kernel
theorem dX7_addToWord_12 : decode cX7_addToWord 12 = .ok (.getfield 104, 3) := by decide +kernel
theorem dX7_addToWord_15 : decode cX7_addToWord 15 = .ok (.iastore, 1) := by decide +kernel
theorem dX7_addToWord_16 : decode cX7_addToWord 16 = .ok (.aload_n 0, 1) := by decide +kernel
theorem dX7_addToWord_17 : decode cX7_addToWord 17 = .ok (.iload_n 1, 1) := by decide +kernel
theorem dX7_addToWord_18 : decode cX7_addToWord 18 = .ok (.iconst 1, 1) := by decide +kernel
theorem dX7_addToWord_19 : decode cX7_addToWord 19 = .ok (.iadd, 1) := by decide +kernel
theorem dX7_addToWord_20 : decode cX7_addToWord 20 = .ok (.putfield 122, 3) := by decide +kernel
theorem dX7_addToWord_23 : decode cX7_addToWord 23 = .ok (.return_, 1) := by decide +kernel
theorem dX7_readWord_0 : decode cX7_readWord 0 = .ok (.aload_n 0, 1) := by decide +kernel
theorem dX7_readWord_1 : decode cX7_readWord 1 = .ok (.getfield 90, 3) := by decide +kernel
theorem dX7_readWord_4 : decode cX7_readWord 4 = .ok (.iconst 1, 1) := by decide +kernel
theorem dX7_readWord_5 : decode cX7_readWord 5 = .ok (.isub, 1) := by decide +kernel
theorem dX7_readWord_6 : decode cX7_readWord 6 = .ok (.istore_n 2, 1) := by decide +kernel
theorem dX7_readWord_7 : decode cX7_readWord 7 = .ok (.iload_n 1, 1) := by decide +kernel
theorem dX7_readWord_8 : decode cX7_readWord 8 = .ok (.istore_n 3, 1) := by decide +kernel
theorem dX7_readWord_9 : decode cX7_readWord 9 = .ok (.iconst 0, 1) := by decide +kernel
theorem dX7_readWord_10 : decode cX7_readWord 10 = .ok (.istore 4, 2) := by decide +kernel
theorem dX7_readWord_12 : decode cX7_readWord 12 = .ok (.aload_n 0, 1) := by decide +kernel
theorem dX7_readWord_13 : decode cX7_readWord 13 = .ok (.iconst 0, 1) := by decide +kernel
theorem dX7_readWord_14 : decode cX7_readWord 14 = .ok (.putfield 122, 3) := by decide +kernel
theorem dX7_readWord_17 : decode cX7_readWord 17 = .ok (.aload_n 0, 1) := by decide +kernel
theorem dX7_readWord_18 : decode cX7_readWord 18 = .ok (.getfield 48, 3) := by decide +kernel
theorem dX7_readWord_21 : decode cX7_readWord 21 = .ok (.iload_n 2, 1) := by decide +kernel
theorem dX7_readWord_22 : decode cX7_readWord 22 = .ok (.iconst 1, 1) := by decide +kernel
theorem dX7_readWord_23 : decode cX7_readWord 23 = .ok (.iastore, 1) := by decide +kernel
theorem dX7_readWord_24 : decode cX7_readWord 24 = .ok (.aload_n 0, 1) := by decide +kernel
theorem dX7_readWord_25 : decode cX7_readWord 25 = .ok (.iload_n 3, 1) := by decide +kernel
theorem dX7_readWord_26 : decode cX7_readWord 26 = .ok (.invokevirtual 100, 3) := by decide +kernel
theorem dX7_readWord_29 : decode cX7_readWord 29 = .ok (.ifCond .ge 5, 3) := by decide +kernel
theorem dX7_readWord_32 : decode cX7_readWord 32 = .ok (.iload_n 3, 1) := by decide +kernel
theorem dX7_readWord_33 : decode cX7_readWord 33 = .ok (.ireturn, 1) := by decide +kernel
theorem dX7_readWord_34 : decode cX7_readWord 34 = .ok (.aload_n 0, 1) := by decide +kernel
theorem dX7_readWord_35 : decode cX7_readWord 35 = .ok (.iload_n 3, 1) := by decide +kernel
theorem dX7_readWord_36 : decode cX7_readWord 36 = .ok (.invokevirtual 125, 3) := by decide +kernel
theorem dX7_readWord_39 : decode cX7_readWord 39 = .ok (.aload_n 0, 1) := by decide +kernel
theorem dX7_readWord_40 : decode cX7_readWord 40 = .ok (.getfield 7, 3) := by decide +kernel
theorem dX7_readWord_43 : decode cX7_readWord 43 = .ok (.aload_n 0, 1) := by decide +kernel
theorem dX7_readWord_44 : decode cX7_readWord 44 = .ok (.getfield 104, 3) := by decide +kernel
theorem dX7_readWord_47 : decode cX7_readWord 47 = .ok (.iaload, 1) := by decide +kernel
theorem dX7_readWord_48 : decode cX7_readWord 48 = .ok (.bipush 11, 2) := by decide +kernel
theorem dX7_readWord_50 : decode cX7_readWord 50 = .ok (.if_icmp .eq 40, 3) := by decide +kernel
theorem dX7_readWord_53 : decode cX7_readWord 53 = .ok (.aload_n 0, 1) := by decide +kernel
theorem dX7_readWord_54 : decode cX7_readWord 54 = .ok (.iconst 0, 1) := by decide +kernel
theorem dX7_readWord_55 : decode cX7_readWord 55 = .ok (.invokevirtual 129, 3) := by decide +kernel
theorem dX7_readWord_58 : decode cX7_readWord 58 = .ok (.aload_n 0, 1) := by decide +kernel
theorem dX7_readWord_59 : decode cX7_readWord 59 = .ok (.getfield 48, 3) := by decide +kernel
theorem dX7_readWord_62 : decode cX7_readWord 62 = .ok (.iload_n 2, 1) := by decide +kernel
theorem dX7_readWord_63 : decode cX7_readWord 63 = .ok (.aload_n 0, 1) := by decide +kernel
theorem dX7_readWord_64 : decode cX7_readWord 64 = .ok (.getfield 7, 3) := by decide +kernel
theorem dX7_readWord_67 : decode cX7_readWord 67 = .ok (.aload_n 0, 1) := by decide +kernel
theorem dX7_readWord_68 : decode cX7_readWord 68 = .ok (.getfield 104, 3) := by decide +kernel
theorem dX7_readWord_71 : decode cX7_readWord 71 = .ok (.iaload, 1) := by decide +kernel
theorem dX7_readWord_72 : decode cX7_readWord 72 = .ok (.bipush 10, 2) := by decide +kernel
theorem dX7_readWord_74 : decode cX7_readWord 74 = .ok (.if_icmp .ne 7, 3) := by decide +kernel
theorem dX7_readWord_77 : decode cX7_readWord 77 = .ok (.iconst 2, 1) := by decide +kernel
theorem dX7_readWord_78 : decode cX7_readWord 78 = .ok (.goto 4, 3) := by decide +kernel
theorem dX7_readWord_81 : decode cX7_readWord 81 = .ok (.iconst 1, 1) := by decide +kernel
theorem dX7_readWord_82 : decode cX7_readWord 82 = .ok (.iastore, 1) := by decide +kernel
theorem dX7_readWord_83 : decode cX7_readWord 83 = .ok (.iload_n 3, 1) := by decide +kernel
theorem dX7_readWord_84 : decode cX7_readWord 84 = .ok (.aload_n 0, 1) := by decide +kernel
theorem dX7_readWord_85 : decode cX7_readWord 85 = .ok (.getfield 107, 3) := by decide +kernel
theorem dX7_readWord_88 : decode cX7_readWord 88 = .ok (.iadd, 1) := by decide +kernel
theorem dX7_readWord_89 : decode cX7_readWord 89 = .ok (.ireturn, 1) := by decide +kernel
theorem dX7_readWord_90 : decode cX7_readWord 90 = .ok (.iconst 1, 1) := by decide +kernel
theorem dX7_readWord_91 : decode cX7_readWord 91 = .ok (.istore 5, 2) := by decide +kernel
theorem dX7_readWord_93 : decode cX7_readWord 93 = .ok (.iload 5, 2) := by decide +kernel
theorem dX7_readWord_95 : decode cX7_readWord 95 = .ok (.ifCond .eq 68, 3) := by decide +kernel
theorem dX7_readWord_98 : decode cX7_readWord 98 = .ok (.aload_n 0, 1) := by decide +kernel
theorem dX7_readWord_99 : decode cX7_readWord 99 = .ok (.iload 4, 2) := by decide +kernel
theorem dX7_readWord_101 : decode cX7_readWord 101 = .ok (.invokevirtual 129, 3) := by decide +kernel
theorem dX7_readWord_104 : decode cX7_readWord 104 = .ok (.iinc 4 1, 3) := by decide +kernel
theorem dX7_readWord_107 : decode cX7_readWord 107 = .ok (.iload_n 3, 1) := by decide +kernel
theorem dX7_readWord_108 : decode cX7_readWord 108 = .ok (.aload_n 0, 1) := by decide +kernel
theorem dX7_readWord_109 : decode cX7_readWord 109 = .ok (.getfield 107, 3) := by decide +kernel
theorem dX7_readWord_112 : decode cX7_readWord 112 = .ok (.iadd, 1) := by decide +kernel
theorem dX7_readWord_113 : decode cX7_readWord 113 = .ok (.istore_n 3, 1) := by decide +kernel
theorem dX7_readWord_114 : decode cX7_readWord 114 = .ok (.aload_n 0, 1) := by decide +kernel
theorem dX7_readWord_115 : decode cX7_readWord 115 = .ok (.iload_n 3, 1) := by decide +kernel
theorem dX7_readWord_116 : decode cX7_readWord 116 = .ok (.invokevirtual 100, 3) := by decide +kernel
theorem dX7_readWord_119 : decode cX7_readWord 119 = .ok (.ifCond .lt 7, 3) := by decide +kernel
theorem dX7_readWord_122 : decode cX7_readWord 122 = .ok (.iconst 1, 1) := by decide +kernel
theorem dX7_readWord_123 : decode cX7_readWord 123 = .ok (.goto 4, 3) := by decide +kernel
theorem dX7_readWord_126 : decode cX7_readWord 126 = .ok (.iconst 0, 1) := by decide +kernel
theorem dX7_readWord_127 : decode cX7_readWord 127 = .ok (.istore 5, 2) := by decide +kernel
theorem dX7_readWord_129 : decode cX7_readWord 129 = .ok (.iload 5, 2) := by decide +kernel
theorem dX7_readWord_131 : decode cX7_readWord 131 = .ok (.ifCond .eq (-38), 3) := by decide +kernel
theorem dX7_readWord_134 : decode cX7_readWord 134 = .ok (.aload_n 0, 1) := by decide +kernel
theorem dX7_readWord_135 : decode cX7_readWord 135 = .ok (.iload_n 3, 1) := by decide +kernel
theorem dX7_readWord_136 : decode cX7_readWord 136 = .ok (.invokevirtual 125, 3) := by decide +kernel
theorem dX7_readWord_139 : decode cX7_readWord 139 = .ok (.aload_n 0, 1) := by decide +kernel
theorem dX7_readWord_140 : decode cX7_readWord 140 = .ok (.getfield 7, 3) := by decide +kernel
theorem dX7_readWord_143 : decode cX7_readWord 143 = .ok (.aload_n 0, 1) := by decide +kernel
theorem dX7_readWord_144 : decode cX7_readWord 144 = .ok (.getfield 104, 3) := by decide +kernel
theorem dX7_readWord_147 : decode cX7_readWord 147 = .ok (.iaload, 1) := by decide +kernel
theorem dX7_readWord_148 : decode cX7_readWord 148 = .ok (.bipush 11, 2) := by decide +kernel
theorem dX7_readWord_150 : decode cX7_readWord 150 = .ok (.if_icmp .ne 7, 3) := by decide +kernel
theorem dX7_readWord_153 : decode cX7_readWord 153 = .ok (.iconst 1, 1) := by decide +kernel
theorem dX7_readWord_154 : decode cX7_readWord 154 = .ok (.goto 4, 3) := by decide +kernel
theorem dX7_readWord_157 : decode cX7_readWord 157 = .ok (.iconst 0, 1) := by decide +kernel
theorem dX7_readWord_158 : decode cX7_readWord 158 = .ok (.istore 5, 2) := by decide +kernel
theorem dX7_readWord_160 : decode cX7_readWord 160 = .ok (.goto (-67), 3) := by decide +kernel
theorem dX7_readWord_163 : decode cX7_readWord 163 = .ok (.iload 4, 2) := by decide +kernel
theorem dX7_readWord_165 : decode cX7_readWord 165 = .ok (.bipush 40, 2) := by decide +kernel
theorem dX7_readWord_167 : decode cX7_readWord 167 = .ok (.if_icmp .le 9, 3) := by decide +kernel
theorem dX7_readWord_170 : decode cX7_readWord 170 = .ok (.aload_n 0, 1) := by decide +kernel
theorem dX7_readWord_171 : decode cX7_readWord 171 = .ok (.iconst 3, 1) := by decide +kernel
theorem dX7_readWord_172 : decode cX7_readWord 172 = .ok (.iconst 0, 1) := by decide +kernel
theorem dX7_readWord_173 : decode cX7_readWord 173 = .ok (.invokevirtual 132, 3) := by decide +kernel
theorem dX7_readWord_176 : decode cX7_readWord 176 = .ok (.aload_n 0, 1) := by decide +kernel
theorem dX7_readWord_177 : decode cX7_readWord 177 = .ok (.getfield 48, 3) := by decide +kernel
theorem dX7_readWord_180 : decode cX7_readWord 180 = .ok (.iload_n 2, 1) := by decide +kernel
theorem dX7_readWord_181 : decode cX7_readWord 181 = .ok (.iconst 2, 1) := by decide +kernel
theorem dX7_readWord_182 : decode cX7_readWord 182 = .ok (.iastore, 1) := by decide +kernel
theorem dX7_readWord_183 : decode cX7_readWord 183 = .ok (.iload_n 3, 1) := by decide +kernel
theorem dX7_readWord_184 : decode cX7_readWord 184 = .ok (.ireturn, 1) := by decide +kernel
theorem dX7_give_0 : decode cX7_give 0 = .ok (.aload_n 0, 1) := by decide +kernel
theorem dX7_give_1 : decode cX7_give 1 = .ok (.getfield 90, 3) := by decide +kernel
theorem dX7_give_4 : decode cX7_give 4 = .ok (.iconst 1, 1) := by decide +kernel
theorem dX7_give_5 : decode cX7_give 5 = .ok (.isub, 1) := by decide +kernel
theorem dX7_give_6 : decode cX7_give 6 = .ok (.istore_n 1, 1) := by decide +kernel
theorem dX7_give_7 : decode cX7_give 7 = .ok (.aload_n 0, 1) := by decide +kernel
theorem dX7_give_8 : decode cX7_give 8 = .ok (.getfield 45, 3) := by decide +kernel
theorem dX7_give_11 : decode cX7_give 11 = .ok (.iload_n 1, 1) := by decide +kernel
theorem dX7_give_12 : decode cX7_give 12 = .ok (.iaload, 1) := by decide +kernel
theorem dX7_give_13 : decode cX7_give 13 = .ok (.istore_n 2, 1) := by decide +kernel
theorem dX7_give_14 : decode cX7_give 14 = .ok (.aload_n 0, 1) := by decide +kernel
theorem dX7_give_15 : decode cX7_give 15 = .ok (.iload_n 2, 1) := by decide +kernel
theorem dX7_give_16 : decode cX7_give 16 = .ok (.invokevirtual 125, 3) := by decide +kernel
theorem dX7_give_19 : decode cX7_give 19 = .ok (.aload_n 0, 1) := by decide +kernel
theorem dX7_give_20 : decode cX7_give 20 = .ok (.getfield 104, 3) := by decide +kernel
theorem dX7_give_23 : decode cX7_give 23 = .ok (.istore_n 3, 1) := by decide +kernel
theorem dX7_give_24 : decode cX7_give 24 = .ok (.aload_n 0, 1) := by decide +kernel
theorem dX7_give_25 : decode cX7_give 25 = .ok (.getfield 7, 3) := by decide +kernel
theorem dX7_give_28 : decode cX7_give 28 = .ok (.iload_n 3, 1) := by decide +kernel
theorem dX7_give_29 : decode cX7_give 29 = .ok (.iaload, 1) := by decide +kernel
theorem dX7_give_30 : decode cX7_give 30 = .ok (.istore 4, 2) := by decide +kernel
theorem dX7_give_32 : decode cX7_give 32 = .ok (.aload_n 0, 1) := by decide +kernel
theorem dX7_give_33 : decode cX7_give 33 = .ok (.getfield 48, 3) := by decide +kernel
theorem dX7_give_36 : decode cX7_give 36 = .ok (.iload_n 1, 1) := by decide +kernel
theorem dX7_give_37 : decode cX7_give 37 = .ok (.iaload, 1) := by decide +kernel
theorem dX7_give_38 : decode cX7_give 38 = .ok (.istore 5, 2) := by decide +kernel
theorem dX7_give_40 : decode cX7_give 40 = .ok (.aload_n 0, 1) := by decide +kernel
theorem dX7_give_41 : decode cX7_give 41 = .ok (.getfield 45, 3) := by decide +kernel
theorem dX7_give_44 : decode cX7_give 44 = .ok (.iload_n 1, 1) := by decide +kernel
theorem dX7_give_45 : decode cX7_give 45 = .ok (.iload_n 2, 1) := by decide +kernel
theorem dX7_give_46 : decode cX7_give 46 = .ok (.aload_n 0, 1) := by decide +kernel
theorem dX7_give_47 : decode cX7_give 47 = .ok (.getfield 107, 3) := by decide +kernel
theorem dX7_give_50 : decode cX7_give 50 = .ok (.iadd, 1) := by decide +kernel
theorem dX7_give_51 : decode cX7_give 51 = .ok (.iastore, 1) := by decide +kernel
theorem dX7_give_52 : decode cX7_give 52 = .ok (.iload 4, 2) := by decide +kernel
theorem dX7_give_54 : decode cX7_give 54 = .ok (.ifCond .ne 45, 3) := by decide +kernel
theorem dX7_give_57 : decode cX7_give 57 = .ok (.aload_n 0, 1) := by decide +kernel
theorem dX7_give_58 : decode cX7_give 58 = .ok (.getfield 45, 3) := by decide +kernel
theorem dX7_give_61 : decode cX7_give 61 = .ok (.iload_n 1, 1) := by decide +kernel
theorem dX7_give_62 : decode cX7_give 62 = .ok (.aload_n 0, 1) := by decide +kernel
theorem dX7_give_63 : decode cX7_give 63 = .ok (.iload_n 2, 1) := by decide +kernel
theorem dX7_give_64 : decode cX7_give 64 = .ok (.aload_n 0, 1) := by decide +kernel
theorem dX7_give_65 : decode cX7_give 65 = .ok (.getfield 107, 3) := by decide +kernel
theorem dX7_give_68 : decode cX7_give 68 = .ok (.iadd, 1) := by decide +kernel
theorem dX7_give_69 : decode cX7_give 69 = .ok (.invokevirtual 135, 3) := by decide +kernel
theorem dX7_give_72 : decode cX7_give 72 = .ok (.iastore, 1) := by decide +kernel
theorem dX7_give_73 : decode cX7_give 73 = .ok (.aload_n 0, 1) := by decide +kernel
theorem dX7_give_74 : decode cX7_give 74 = .ok (.invokevirtual 138, 3) := by decide +kernel
theorem dX7_give_77 : decode cX7_give 77 = .ok (.istore 6, 2) := by decide +kernel
theorem dX7_give_79 : decode cX7_give 79 = .ok (.iload 6, 2) := by decide +kernel
theorem dX7_give_81 : decode cX7_give 81 = .ok (.ifCond .ge 8, 3) := by decide +kernel
theorem dX7_give_84 : decode cX7_give 84 = .ok (.bipush (-4), 2) := by decide +kernel
theorem dX7_give_86 : decode cX7_give 86 = .ok (.goto 12, 3) := by decide +kernel
theorem dX7_give_89 : decode cX7_give 89 = .ok (.aload_n 0, 1) := by decide +kernel
theorem dX7_give_90 : decode cX7_give 90 = .ok (.iconst 1, 1) := by decide +kernel
theorem dX7_give_91 : decode cX7_give 91 = .ok (.iload 6, 2) := by decide +kernel
theorem dX7_give_93 : decode cX7_give 93 = .ok (.iconst 0, 1) := by decide +kernel
theorem dX7_give_94 : decode cX7_give 94 = .ok (.iload_n 2, 1) := by decide +kernel
theorem dX7_give_95 : decode cX7_give 95 = .ok (.invokevirtual 142, 3) := by decide +kernel
theorem dX7_give_98 : decode cX7_give 98 = .ok (.ireturn, 1) := by decide +kernel
theorem dX7_give_99 : decode cX7_give 99 = .ok (.iload 4, 2) := by decide +kernel
theorem dX7_give_101 : decode cX7_give 101 = .ok (.iconst 5, 1) := by decide +kernel
theorem dX7_give_102 : decode cX7_give 102 = .ok (.if_icmp .ne 47, 3) := by decide +kernel
theorem dX7_give_105 : decode cX7_give 105 = .ok (.aload_n 0, 1) := by decide +kernel
theorem dX7_give_106 : decode cX7_give 106 = .ok (.getfield 48, 3) := by decide +kernel
theorem dX7_give_109 : decode cX7_give 109 = .ok (.iload_n 1, 1) := by decide +kernel
theorem dX7_give_110 : decode cX7_give 110 = .ok (.iconst (-1), 1) := by decide +kernel
theorem dX7_give_111 : decode cX7_give 111 = .ok (.iastore, 1) := by decide +kernel
theorem dX7_give_112 : decode cX7_give 112 = .ok (.iload 5, 2) := by decide +kernel
theorem dX7_give_114 : decode cX7_give 114 = .ok (.ifCond .ne 14, 3) := by decide +kernel
theorem dX7_give_117 : decode cX7_give 117 = .ok (.aload_n 0, 1) := by decide +kernel
theorem dX7_give_118 : decode cX7_give 118 = .ok (.iconst 1, 1) := by decide +kernel
theorem dX7_give_119 : decode cX7_give 119 = .ok (.iconst 0, 1) := by decide +kernel
theorem dX7_give_120 : decode cX7_give 120 = .ok (.iconst 0, 1) := by decide +kernel
theorem dX7_give_121 : decode cX7_give 121 = .ok (.iload_n 2, 1) := by decide +kernel
theorem dX7_give_122 : decode cX7_give 122 = .ok (.invokevirtual 142, 3) := by decide +kernel
theorem dX7_give_125 : decode cX7_give 125 = .ok (.goto 23, 3) := by decide +kernel
theorem dX7_give_128 : decode cX7_give 128 = .ok (.iload 5, 2) := by decide +kernel
theorem dX7_give_130 : decode cX7_give 130 = .ok (.iconst 1, 1) := by decide +kernel
theorem dX7_give_131 : decode cX7_give 131 = .ok (.if_icmp .ne 16, 3) := by decide +kernel
theorem dX7_give_134 : decode cX7_give 134 = .ok (.aload_n 0, 1) := by decide +kernel
theorem dX7_give_135 : decode cX7_give 135 = .ok (.iconst 0, 1) := by decide +kernel
theorem dX7_give_136 : decode cX7_give 136 = .ok (.bipush 32, 2) := by decide +kernel
theorem dX7_give_138 : decode cX7_give 138 = .ok (.bipush 10, 2) := by decide +kernel
theorem dX7_give_140 : decode cX7_give 140 = .ok (.iload_n 2, 1) := by decide +kernel
theorem dX7_give_141 : decode cX7_give 141 = .ok (.invokevirtual 142, 3) := by decide +kernel
theorem dX7_give_144 : decode cX7_give 144 = .ok (.goto 4, 3) := by decide +kernel
theorem dX7_give_147 : decode cX7_give 147 = .ok (.iconst (-1), 1) := by decide +kernel
theorem dX7_give_148 : decode cX7_give 148 = .ok (.ireturn, 1) := by decide +kernel
theorem dX7_give_149 : decode cX7_give 149 = .ok (.iload 4, 2) := by decide +kernel
theorem dX7_give_151 : decode cX7_give 151 = .ok (.bipush 9, 2) := by decide +kernel
theorem dX7_give_153 : decode cX7_give 153 = .ok (.if_icmp .ne 5, 3) := by decide +kernel
theorem dX7_give_156 : decode cX7_give 156 = .ok (.iconst (-1), 1) := by decide +kernel
theorem dX7_give_157 : decode cX7_give 157 = .ok (.ireturn, 1) := by decide +kernel
theorem dX7_give_158 : decode cX7_give 158 = .ok (.iload 4, 2) := by decide +kernel
theorem dX7_give_160 : decode cX7_give 160 = .ok (.bipush 10, 2) := by decide +kernel
theorem dX7_give_162 : decode cX7_give 162 = .ok (.if_icmp .ne 42, 3) := by decide +kernel
theorem dX7_give_165 : decode cX7_give 165 = .ok (.aload_n 0, 1) := by decide +kernel
theorem dX7_give_166 : decode cX7_give 166 = .ok (.getfield 48, 3) := by decide +kernel
theorem dX7_give_169 : decode cX7_give 169 = .ok (.iload_n 1, 1) := by decide +kernel
theorem dX7_give_170 : decode cX7_give 170 = .ok (.iload 5, 2) := by decide +kernel
theorem dX7_give_172 : decode cX7_give 172 = .ok (.iconst 1, 1) := by decide +kernel
theorem dX7_give_173 : decode cX7_give 173 = .ok (.if_icmp .ne 7, 3) := by decide +kernel
theorem dX7_give_176 : decode cX7_give 176 = .ok (.iconst 2, 1) := by decide +kernel
theorem dX7_give_177 : decode cX7_give 177 = .ok (.goto 5, 3) := by decide +kernel
theorem dX7_give_180 : decode cX7_give 180 = .ok (.iload 5, 2) := by decide +kernel
theorem dX7_give_182 : decode cX7_give 182 = .ok (.iastore, 1) := by decide +kernel
theorem dX7_give_183 : decode cX7_give 183 = .ok (.iload 5, 2) := by decide +kernel
theorem dX7_give_185 : decode cX7_give 185 = .ok (.iconst 1, 1) := by decide +kernel
theorem dX7_give_186 : decode cX7_give 186 = .ok (.if_icmp .ne 16, 3) := by decide +kernel
theorem dX7_give_189 : decode cX7_give 189 = .ok (.aload_n 0, 1) := by decide +kernel
theorem dX7_give_190 : decode cX7_give 190 = .ok (.iconst 0, 1) := by decide +kernel
theorem dX7_give_191 : decode cX7_give 191 = .ok (.bipush 32, 2) := by decide +kernel
theorem dX7_give_193 : decode cX7_give 193 = .ok (.bipush 10, 2) := by decide +kernel
theorem dX7_give_195 : decode cX7_give 195 = .ok (.iload_n 2, 1) := by decide +kernel
theorem dX7_give_196 : decode cX7_give 196 = .ok (.invokevirtual 142, 3) := by decide +kernel
theorem dX7_give_199 : decode cX7_give 199 = .ok (.goto 4, 3) := by decide +kernel
theorem dX7_give_202 : decode cX7_give 202 = .ok (.iconst (-1), 1) := by decide +kernel
theorem dX7_give_203 : decode cX7_give 203 = .ok (.ireturn, 1) := by decide +kernel
theorem dX7_give_204 : decode cX7_give 204 = .ok (.iload 4, 2) := by decide +kernel
theorem dX7_give_206 : decode cX7_give 206 = .ok (.bipush 14, 2) := by decide +kernel
theorem dX7_give_208 : decode cX7_give 208 = .ok (.if_icmp .ne 12, 3) := by decide +kernel
theorem dX7_give_211 : decode cX7_give 211 = .ok (.aload_n 0, 1) := by decide +kernel
theorem dX7_give_212 : decode cX7_give 212 = .ok (.getfield 48, 3) := by decide +kernel
theorem dX7_give_215 : decode cX7_give 215 = .ok (.iload_n 1, 1) := by decide +kernel
theorem dX7_give_216 : decode cX7_give 216 = .ok (.iconst (-1), 1) := by decide +kernel
theorem dX7_give_217 : decode cX7_give 217 = .ok (.iastore, 1) := by decide +kernel
theorem dX7_give_218 : decode cX7_give 218 = .ok (.iconst (-1), 1) := by decide +kernel
theorem dX7_give_219 : decode cX7_give 219 = .ok (.ireturn, 1) := by decide +kernel
theorem dX7_give_220 : decode cX7_give 220 = .ok (.iload 4, 2) := by decide +kernel
theorem dX7_give_222 : decode cX7_give 222 = .ok (.bipush 15, 2) := by decide +kernel
theorem dX7_give_224 : decode cX7_give 224 = .ok (.if_icmp .ne 11, 3) := by decide +kernel
theorem dX7_give_227 : decode cX7_give 227 = .ok (.aload_n 0, 1) := by decide +kernel
theorem dX7_give_228 : decode cX7_give 228 = .ok (.iconst 1, 1) := by decide +kernel
theorem dX7_give_229 : decode cX7_give 229 = .ok (.iload_n 3, 1) := by decide +kernel
theorem dX7_give_230 : decode cX7_give 230 = .ok (.invokevirtual 132, 3) := by decide +kernel
theorem dX7_give_233 : decode cX7_give 233 = .ok (.iconst (-1), 1) := by decide +kernel
theorem dX7_give_234 : decode cX7_give 234 = .ok (.ireturn, 1) := by decide +kernel
theorem dX7_give_235 : decode cX7_give 235 = .ok (.aload_n 0, 1) := by decide +kernel
theorem dX7_give_236 : decode cX7_give 236 = .ok (.getfield 48, 3) := by decide +kernel
theorem dX7_give_239 : decode cX7_give 239 = .ok (.iload_n 1, 1) := by decide +kernel
theorem dX7_give_240 : decode cX7_give 240 = .ok (.iconst 1, 1) := by decide +kernel
theorem dX7_give_241 : decode cX7_give 241 = .ok (.iastore, 1) := by decide +kernel
theorem dX7_give_242 : decode cX7_give 242 = .ok (.iload 4, 2) := by decide +kernel
theorem dX7_give_244 : decode cX7_give 244 = .ok (.bipush 13, 2) := by decide +kernel
theorem dX7_give_246 : decode cX7_give 246 = .ok (.if_icmp .ne 18, 3) := by decide +kernel
theorem dX7_give_249 : decode cX7_give 249 = .ok (.aload_n 0, 1) := by decide +kernel
theorem dX7_give_250 : decode cX7_give 250 = .ok (.getfield 16, 3) := by decide +kernel
theorem dX7_give_253 : decode cX7_give 253 = .ok (.iload_n 3, 1) := by decide +kernel
theorem dX7_give_254 : decode cX7_give 254 = .ok (.baload, 1) := by decide +kernel
theorem dX7_give_255 : decode cX7_give 255 = .ok (.ifCond .ne 9, 3) := by decide +kernel
theorem dX7_give_258 : decode cX7_give 258 = .ok (.aload_n 0, 1) := by decide +kernel
theorem dX7_give_259 : decode cX7_give 259 = .ok (.iconst 2, 1) := by decide +kernel
theorem dX7_give_260 : decode cX7_give 260 = .ok (.iload_n 3, 1) := by decide +kernel
theorem dX7_give_261 : decode cX7_give 261 = .ok (.invokevirtual 132, 3) := by decide +kernel
theorem dX7_give_264 : decode cX7_give 264 = .ok (.aload_n 0, 1) := by decide +kernel
theorem dX7_give_265 : decode cX7_give 265 = .ok (.iload 4, 2) := by decide +kernel
theorem dX7_give_267 : decode cX7_give 267 = .ok (.bipush 13, 2) := by decide +kernel
theorem dX7_give_269 : decode cX7_give 269 = .ok (.if_icmp .ne 7, 3) := by decide +kernel
theorem dX7_give_272 : decode cX7_give 272 = .ok (.iconst 2, 1) := by decide +kernel
theorem dX7_give_273 : decode cX7_give 273 = .ok (.goto 4, 3) := by decide +kernel
theorem dX7_give_276 : decode cX7_give 276 = .ok (.iconst 0, 1) := by decide +kernel
theorem dX7_give_277 : decode cX7_give 277 = .ok (.iload_n 3, 1) := by decide +kernel
theorem dX7_give_278 : decode cX7_give 278 = .ok (.iload 4, 2) := by decide +kernel
theorem dX7_give_280 : decode cX7_give 280 = .ok (.iload_n 2, 1) := by decide +kernel
theorem dX7_give_281 : decode cX7_give 281 = .ok (.invokevirtual 142, 3) := by decide +kernel
theorem dX7_give_284 : decode cX7_give 284 = .ok (.ireturn, 1) := by decide +kernel
theorem dX7_next_0 : decode cX7_next 0 = .ok (.aload_n 0, 1) := by decide +kernel
theorem dX7_next_1 : decode cX7_next 1 = .ok (.iconst 0, 1) := by decide +kernel
theorem dX7_next_2 : decode cX7_next 2 = .ok (.putfield 72, 3) := by decide +kernel
theorem dX7_next_5 : decode cX7_next 5 = .ok (.aload_n 0, 1) := by decide +kernel
theorem dX7_next_6 : decode cX7_next 6 = .ok (.getfield 90, 3) := by decide +kernel
theorem dX7_next_9 : decode cX7_next 9 = .ok (.ifCond .le 16, 3) := by decide +kernel
theorem dX7_next_12 : decode cX7_next 12 = .ok (.aload_n 0, 1) := by decide +kernel
theorem dX7_next_13 : decode cX7_next 13 = .ok (.getfield 119, 3) := by decide +kernel
theorem dX7_next_16 : decode cX7_next 16 = .ok (.sipush 600, 3) := by decide +kernel
theorem dX7_next_19 : decode cX7_next 19 = .ok (.if_icmp .ne 6, 3) := by decide +kernel
theorem dX7_next_22 : decode cX7_next 22 = .ok (.bipush (-4), 2) := by decide +kernel
theorem dX7_next_24 : decode cX7_next 24 = .ok (.ireturn, 1) := by decide +kernel
theorem dX7_next_25 : decode cX7_next 25 = .ok (.iconst (-1), 1) := by decide +kernel
theorem dX7_next_26 : decode cX7_next 26 = .ok (.istore_n 1, 1) := by decide +kernel
theorem dX7_next_27 : decode cX7_next 27 = .ok (.iload_n 1, 1) := by decide +kernel
theorem dX7_next_28 : decode cX7_next 28 = .ok (.iconst (-1), 1) := by decide +kernel
theorem dX7_next_29 : decode cX7_next 29 = .ok (.if_icmp .ne 50, 3) := by decide +kernel
theorem dX7_next_32 : decode cX7_next 32 = .ok (.aload_n 0, 1) := by decide +kernel
theorem dX7_next_33 : decode cX7_next 33 = .ok (.invokevirtual 146, 3) := by decide +kernel
theorem dX7_next_36 : decode cX7_next 36 = .ok (.ifCond .eq 43, 3) := by decide +kernel
theorem dX7_next_39 : decode cX7_next 39 = .ok (.aload_n 0, 1) := by decide +kernel
theorem dX7_next_40 : decode cX7_next 40 = .ok (.getfield 90, 3) := by decide +kernel
theorem dX7_next_43 : decode cX7_next 43 = .ok (.iconst 1, 1) := by decide +kernel
theorem dX7_next_44 : decode cX7_next 44 = .ok (.isub, 1) := by decide +kernel
theorem dX7_next_45 : decode cX7_next 45 = .ok (.istore_n 2, 1) := by decide +kernel
theorem dX7_next_46 : decode cX7_next 46 = .ok (.aload_n 0, 1) := by decide +kernel
theorem dX7_next_47 : decode cX7_next 47 = .ok (.getfield 45, 3) := by decide +kernel
theorem dX7_next_50 : decode cX7_next 50 = .ok (.iload_n 2, 1) := by decide +kernel
theorem dX7_next_51 : decode cX7_next 51 = .ok (.iaload, 1) := by decide +kernel
theorem dX7_next_52 : decode cX7_next 52 = .ok (.aload_n 0, 1) := by decide +kernel
theorem dX7_next_53 : decode cX7_next 53 = .ok (.getfield 42, 3) := by decide +kernel
theorem dX7_next_56 : decode cX7_next 56 = .ok (.iload_n 2, 1) := by decide +kernel
theorem dX7_next_57 : decode cX7_next 57 = .ok (.iaload, 1) := by decide +kernel
theorem dX7_next_58 : decode cX7_next 58 = .ok (.if_icmp .lt 13, 3) := by decide +kernel
theorem dX7_next_61 : decode cX7_next 61 = .ok (.aload_n 0, 1) := by decide +kernel
theorem dX7_next_62 : decode cX7_next 62 = .ok (.getfield 48, 3) := by decide +kernel
theorem dX7_next_65 : decode cX7_next 65 = .ok (.iload_n 2, 1) := by decide +kernel
theorem dX7_next_66 : decode cX7_next 66 = .ok (.iconst (-1), 1) := by decide +kernel
theorem dX7_next_67 : decode cX7_next 67 = .ok (.iastore, 1) := by decide +kernel
theorem dX7_next_68 : decode cX7_next 68 = .ok (.goto 8, 3) := by decide +kernel
theorem dX7_next_71 : decode cX7_next 71 = .ok (.aload_n 0, 1) := by decide +kernel
theorem dX7_next_72 : decode cX7_next 72 = .ok (.invokevirtual 150, 3) := by decide +kernel
theorem dX7_next_75 : decode cX7_next 75 = .ok (.istore_n 1, 1) := by decide +kernel
theorem dX7_next_76 : decode cX7_next 76 = .ok (.goto (-49), 3) := by decide +kernel
theorem dX7_next_79 : decode cX7_next 79 = .ok (.iload_n 1, 1) := by decide +kernel
theorem dX7_next_80 : decode cX7_next 80 = .ok (.iconst (-1), 1) := by decide +kernel
theorem dX7_next_81 : decode cX7_next 81 = .ok (.if_icmp .ne 8, 3) := by decide +kernel
theorem dX7_next_84 : decode cX7_next 84 = .ok (.bipush (-3), 2) := by decide +kernel
theorem dX7_next_86 : decode cX7_next 86 = .ok (.goto 4, 3) := by decide +kernel
theorem dX7_next_89 : decode cX7_next 89 = .ok (.iload_n 1, 1) := by decide +kernel
theorem dX7_next_90 : decode cX7_next 90 = .ok (.ireturn, 1) := by decide +kernel
theorem dX7_raw_0 : decode cX7_raw 0 = .ok (.aload_n 0, 1) := by decide +kernel
theorem dX7_raw_1 : decode cX7_raw 1 = .ok (.iconst 0, 1) := by decide +kernel
theorem dX7_raw_2 : decode cX7_raw 2 = .ok (.putfield 72, 3) := by decide +kernel
theorem dX7_raw_5 : decode cX7_raw 5 = .ok (.aload_n 0, 1) := by decide +kernel
theorem dX7_raw_6 : decode cX7_raw 6 = .ok (.getfield 90, 3) := by decide +kernel
theorem dX7_raw_9 : decode cX7_raw 9 = .ok (.ifCond .le 16, 3) := by decide +kernel
theorem dX7_raw_12 : decode cX7_raw 12 = .ok (.aload_n 0, 1) := by decide +kernel
theorem dX7_raw_13 : decode cX7_raw 13 = .ok (.getfield 119, 3) := by decide +kernel
theorem dX7_raw_16 : decode cX7_raw 16 = .ok (.sipush 600, 3) := by decide +kernel
theorem dX7_raw_19 : decode cX7_raw 19 = .ok (.if_icmp .ne 6, 3) := by decide +kernel
theorem dX7_raw_22 : decode cX7_raw 22 = .ok (.bipush (-4), 2) := by decide +kernel
theorem dX7_raw_24 : decode cX7_raw 24 = .ok (.ireturn, 1) := by decide +kernel
theorem dX7_raw_25 : decode cX7_raw 25 = .ok (.aload_n 0, 1) := by decide +kernel
theorem dX7_raw_26 : decode cX7_raw 26 = .ok (.invokevirtual 146, 3) := by decide +kernel
theorem dX7_raw_29 : decode cX7_raw 29 = .ok (.ifCond .ne 6, 3) := by decide +kernel
theorem dX7_raw_32 : decode cX7_raw 32 = .ok (.bipush (-3), 2) := by decide +kernel
theorem dX7_raw_34 : decode cX7_raw 34 = .ok (.ireturn, 1) := by decide +kernel
theorem dX7_raw_35 : decode cX7_raw 35 = .ok (.aload_n 0, 1) := by decide +kernel
theorem dX7_raw_36 : decode cX7_raw 36 = .ok (.getfield 90, 3) := by decide +kernel
theorem dX7_raw_39 : decode cX7_raw 39 = .ok (.iconst 1, 1) := by decide +kernel
theorem dX7_raw_40 : decode cX7_raw 40 = .ok (.isub, 1) := by decide +kernel
theorem dX7_raw_41 : decode cX7_raw 41 = .ok (.istore_n 1, 1) := by decide +kernel
theorem dX7_raw_42 : decode cX7_raw 42 = .ok (.aload_n 0, 1) := by decide +kernel
theorem dX7_raw_43 : decode cX7_raw 43 = .ok (.aload_n 0, 1) := by decide +kernel
theorem dX7_raw_44 : decode cX7_raw 44 = .ok (.getfield 45, 3) := by decide +kernel
theorem dX7_raw_47 : decode cX7_raw 47 = .ok (.iload_n 1, 1) := by decide +kernel
theorem dX7_raw_48 : decode cX7_raw 48 = .ok (.iaload, 1) := by decide +kernel
theorem dX7_raw_49 : decode cX7_raw 49 = .ok (.invokevirtual 100, 3) := by decide +kernel
theorem dX7_raw_52 : decode cX7_raw 52 = .ok (.istore_n 2, 1) := by decide +kernel
theorem dX7_raw_53 : decode cX7_raw 53 = .ok (.iload_n 2, 1) := by decide +kernel
theorem dX7_raw_54 : decode cX7_raw 54 = .ok (.ifCond .ge 13, 3) := by decide +kernel
theorem dX7_raw_57 : decode cX7_raw 57 = .ok (.aload_n 0, 1) := by decide +kernel
theorem dX7_raw_58 : decode cX7_raw 58 = .ok (.getfield 48, 3) := by decide +kernel
theorem dX7_raw_61 : decode cX7_raw 61 = .ok (.iload_n 1, 1) := by decide +kernel
theorem dX7_raw_62 : decode cX7_raw 62 = .ok (.iconst (-1), 1) := by decide +kernel
theorem dX7_raw_63 : decode cX7_raw 63 = .ok (.iastore, 1) := by decide +kernel
theorem dX7_raw_64 : decode cX7_raw 64 = .ok (.bipush (-5), 2) := by decide +kernel
theorem dX7_raw_66 : decode cX7_raw 66 = .ok (.ireturn, 1) := by decide +kernel
theorem dX7_raw_67 : decode cX7_raw 67 = .ok (.aload_n 0, 1) := by decide +kernel
theorem dX7_raw_68 : decode cX7_raw 68 = .ok (.getfield 45, 3) := by decide +kernel
theorem dX7_raw_71 : decode cX7_raw 71 = .ok (.iload_n 1, 1) := by decide +kernel
theorem dX7_raw_72 : decode cX7_raw 72 = .ok (.dup2, 1) := by decide +kernel
theorem dX7_raw_73 : decode cX7_raw 73 = .ok (.iaload, 1) := by decide +kernel
theorem dX7_raw_74 : decode cX7_raw 74 = .ok (.iconst 1, 1) := by decide +kernel
theorem dX7_raw_75 : decode cX7_raw 75 = .ok (.iadd, 1) := by decide +kernel
theorem dX7_raw_76 : decode cX7_raw 76 = .ok (.iastore, 1) := by decide +kernel
theorem dX7_raw_77 : decode cX7_raw 77 = .ok (.aload_n 0, 1) := by decide +kernel
theorem dX7_raw_78 : decode cX7_raw 78 = .ok (.iconst 0, 1) := by decide +kernel
theorem dX7_raw_79 : decode cX7_raw 79 = .ok (.iload_n 2, 1) := by decide +kernel
theorem dX7_raw_80 : decode cX7_raw 80 = .ok (.bipush 12, 2) := by decide +kernel
theorem dX7_raw_82 : decode cX7_raw 82 = .ok (.aload_n 0, 1) := by decide +kernel
theorem dX7_raw_83 : decode cX7_raw 83 = .ok (.getfield 45, 3) := by decide +kernel
theorem dX7_raw_86 : decode cX7_raw 86 = .ok (.iload_n 1, 1) := by decide +kernel
theorem dX7_raw_87 : decode cX7_raw 87 = .ok (.iaload, 1) := by decide +kernel
theorem dX7_raw_88 : decode cX7_raw 88 = .ok (.iconst 1, 1) := by decide +kernel
theorem dX7_raw_89 : decode cX7_raw 89 = .ok (.isub, 1) := by decide +kernel
theorem dX7_raw_90 : decode cX7_raw 90 = .ok (.invokevirtual 142, 3) := by decide +kernel
theorem dX7_raw_93 : decode cX7_raw 93 = .ok (.ireturn, 1) := by decide +kernel
theorem dX7_token_0 : decode cX7_token 0 = .ok (.aload_n 0, 1) := by decide +kernel
theorem dX7_token_1 : decode cX7_token 1 = .ok (.iload_n 1, 1) := by decide +kernel
theorem dX7_token_2 : decode cX7_token 2 = .ok (.ifCond .lt 20, 3) := by decide +kernel
theorem dX7_token_5 : decode cX7_token 5 = .ok (.iload_n 1, 1) := by decide +kernel
theorem dX7_token_6 : decode cX7_token 6 = .ok (.aload_n 0, 1) := by decide +kernel
theorem dX7_token_7 : decode cX7_token 7 = .ok (.getfield 119, 3) := by decide +kernel
theorem dX7_token_10 : decode cX7_token 10 = .ok (.if_icmp .ge 12, 3) := by decide +kernel
theorem dX7_token_13 : decode cX7_token 13 = .ok (.iload_n 2, 1) := by decide +kernel
theorem dX7_token_14 : decode cX7_token 14 = .ok (.ifCond .lt 8, 3) := by decide +kernel
theorem dX7_token_17 : decode cX7_token 17 = .ok (.iload_n 2, 1) := by decide +kernel
theorem dX7_token_18 : decode cX7_token 18 = .ok (.iconst 5, 1) := by decide +kernel
theorem dX7_token_19 : decode cX7_token 19 = .ok (.if_icmp .le 7, 3) := by decide +kernel
theorem dX7_token_22 : decode cX7_token 22 = .ok (.iconst 1, 1) := by decide +kernel
theorem dX7_token_23 : decode cX7_token 23 = .ok (.goto 4, 3) := by decide +kernel
theorem dX7_token_26 : decode cX7_token 26 = .ok (.iconst 0, 1) := by decide +kernel
theorem dX7_token_27 : decode cX7_token 27 = .ok (.putfield 72, 3) := by decide +kernel
theorem dX7_token_30 : decode cX7_token 30 = .ok (.aload_n 0, 1) := by decide +kernel
theorem dX7_token_31 : decode cX7_token 31 = .ok (.getfield 72, 3) := by decide +kernel
theorem dX7_token_34 : decode cX7_token 34 = .ok (.iconst 1, 1) := by decide +kernel
theorem dX7_token_35 : decode cX7_token 35 = .ok (.if_icmp .ne 7, 3) := by decide +kernel
theorem dX7_token_38 : decode cX7_token 38 = .ok (.iconst 0, 1) := by decide +kernel
theorem dX7_token_39 : decode cX7_token 39 = .ok (.goto 14, 3) := by decide +kernel
theorem dX7_token_42 : decode cX7_token 42 = .ok (.aload_n 0, 1) := by decide +kernel
theorem dX7_token_43 : decode cX7_token 43 = .ok (.getfield 54, 3) := by decide +kernel
theorem dX7_token_46 : decode cX7_token 46 = .ok (.bipush 6, 2) := by decide +kernel
theorem dX7_token_48 : decode cX7_token 48 = .ok (.iload_n 1, 1) := by decide +kernel
theorem dX7_token_49 : decode cX7_token 49 = .ok (.imul, 1) := by decide +kernel
theorem dX7_token_50 : decode cX7_token 50 = .ok (.iload_n 2, 1) := by decide +kernel
theorem dX7_token_51 : decode cX7_token 51 = .ok (.iadd, 1) := by decide +kernel
theorem dX7_token_52 : decode cX7_token 52 = .ok (.iaload, 1) := by decide +kernel
theorem dX7_token_53 : decode cX7_token 53 = .ok (.ireturn, 1) := by decide +kernel
theorem dX7_name_0 : decode cX7_name 0 = .ok (.aload_n 0, 1) := by decide +kernel
theorem dX7_name_1 : decode cX7_name 1 = .ok (.iconst 0, 1) := by decide +kernel
theorem dX7_name_2 : decode cX7_name 2 = .ok (.putfield 72, 3) := by decide +kernel
theorem dX7_name_5 : decode cX7_name 5 = .ok (.iload_n 1, 1) := by decide +kernel
theorem dX7_name_6 : decode cX7_name 6 = .ok (.ifCond .lt 39, 3) := by decide +kernel
theorem dX7_name_9 : decode cX7_name 9 = .ok (.iload_n 1, 1) := by decide +kernel
theorem dX7_name_10 : decode cX7_name 10 = .ok (.aload_n 0, 1) := by decide +kernel
theorem dX7_name_11 : decode cX7_name 11 = .ok (.getfield 69, 3) := by decide +kernel
theorem dX7_name_14 : decode cX7_name 14 = .ok (.if_icmp .ge 31, 3) := by decide +kernel
theorem dX7_name_17 : decode cX7_name 17 = .ok (.iload_n 2, 1) := by decide +kernel
theorem dX7_name_18 : decode cX7_name 18 = .ok (.ifCond .lt 27, 3) := by decide +kernel
theorem dX7_name_21 : decode cX7_name 21 = .ok (.iload_n 2, 1) := by decide +kernel
theorem dX7_name_22 : decode cX7_name 22 = .ok (.aload_n 0, 1) := by decide +kernel
theorem dX7_name_23 : decode cX7_name 23 = .ok (.getfield 60, 3) := by decide +kernel
theorem dX7_name_26 : decode cX7_name 26 = .ok (.iload_n 1, 1) := by decide +kernel
theorem dX7_name_27 : decode cX7_name 27 = .ok (.iaload, 1) := by decide +kernel
theorem dX7_name_28 : decode cX7_name 28 = .ok (.if_icmp .ge 17, 3) := by decide +kernel
theorem dX7_name_31 : decode cX7_name 31 = .ok (.aload_n 0, 1) := by decide +kernel
theorem dX7_name_32 : decode cX7_name 32 = .ok (.getfield 57, 3) := by decide +kernel
theorem dX7_name_35 : decode cX7_name 35 = .ok (.bipush 40, 2) := by decide +kernel
theorem dX7_name_37 : decode cX7_name 37 = .ok (.iload_n 1, 1) := by decide +kernel
theorem dX7_name_38 : decode cX7_name 38 = .ok (.imul, 1) := by decide +kernel
theorem dX7_name_39 : decode cX7_name 39 = .ok (.iload_n 2, 1) := by decide +kernel
theorem dX7_name_40 : decode cX7_name 40 = .ok (.iadd, 1) := by decide +kernel
theorem dX7_name_41 : decode cX7_name 41 = .ok (.iaload, 1) := by decide +kernel
theorem dX7_name_42 : decode cX7_name 42 = .ok (.goto 4, 3) := by decide +kernel
theorem dX7_name_45 : decode cX7_name 45 = .ok (.iconst (-1), 1) := by decide +kernel
theorem dX7_name_46 : decode cX7_name 46 = .ok (.ireturn, 1) := by decide +kernel
theorem dX7_told_0 : decode cX7_told 0 = .ok (.aload_n 0, 1) := by decide +kernel
theorem dX7_told_1 : decode cX7_told 1 = .ok (.iconst 0, 1) := by decide +kernel
theorem dX7_told_2 : decode cX7_told 2 = .ok (.putfield 72, 3) := by decide +kernel
theorem dX7_told_5 : decode cX7_told 5 = .ok (.iload_n 1, 1) := by decide +kernel
theorem dX7_told_6 : decode cX7_told 6 = .ok (.ifCond .lt 39, 3) := by decide +kernel
theorem dX7_told_9 : decode cX7_told 9 = .ok (.iload_n 1, 1) := by decide +kernel
theorem dX7_told_10 : decode cX7_told 10 = .ok (.aload_n 0, 1) := by decide +kernel
theorem dX7_told_11 : decode cX7_told 11 = .ok (.getfield 116, 3) := by decide +kernel
theorem dX7_told_14 : decode cX7_told 14 = .ok (.if_icmp .ge 31, 3) := by decide +kernel
theorem dX7_told_17 : decode cX7_told 17 = .ok (.iload_n 1, 1) := by decide +kernel
theorem dX7_told_18 : decode cX7_told 18 = .ok (.bipush 100, 2) := by decide +kernel
theorem dX7_told_20 : decode cX7_told 20 = .ok (.if_icmp .ge 25, 3) := by decide +kernel
theorem dX7_told_23 : decode cX7_told 23 = .ok (.iload_n 2, 1) := by decide +kernel
theorem dX7_told_24 : decode cX7_told 24 = .ok (.ifCond .lt 21, 3) := by decide +kernel
theorem dX7_told_27 : decode cX7_told 27 = .ok (.iload_n 2, 1) := by decide +kernel
theorem dX7_told_28 : decode cX7_told 28 = .ok (.iconst 3, 1) := by decide +kernel
theorem dX7_told_29 : decode cX7_told 29 = .ok (.if_icmp .ge 16, 3) := by decide +kernel
theorem dX7_told_32 : decode cX7_told 32 = .ok (.aload_n 0, 1) := by decide +kernel
theorem dX7_told_33 : decode cX7_told 33 = .ok (.getfield 63, 3) := by decide +kernel
theorem dX7_told_36 : decode cX7_told 36 = .ok (.iconst 3, 1) := by decide +kernel
theorem dX7_told_37 : decode cX7_told 37 = .ok (.iload_n 1, 1) := by decide +kernel
theorem dX7_told_38 : decode cX7_told 38 = .ok (.imul, 1) := by decide +kernel
theorem dX7_told_39 : decode cX7_told 39 = .ok (.iload_n 2, 1) := by decide +kernel
theorem dX7_told_40 : decode cX7_told 40 = .ok (.iadd, 1) := by decide +kernel
theorem dX7_told_41 : decode cX7_told 41 = .ok (.iaload, 1) := by decide +kernel
theorem dX7_told_42 : decode cX7_told 42 = .ok (.goto 4, 3) := by decide +kernel
theorem dX7_told_45 : decode cX7_told 45 = .ok (.iconst (-1), 1) := by decide +kernel
theorem dX7_told_46 : decode cX7_told 46 = .ok (.ireturn, 1) := by decide +kernel
theorem dX7_categoryOf_0 : decode cX7_categoryOf 0 = .ok (.aload_n 0, 1) := by decide +kernel
theorem dX7_categoryOf_1 : decode cX7_categoryOf 1 = .ok (.iconst 0, 1) := by decide +kernel
theorem dX7_categoryOf_2 : decode cX7_categoryOf 2 = .ok (.putfield 72, 3) := by decide +kernel
theorem dX7_categoryOf_5 : decode cX7_categoryOf 5 = .ok (.iload_n 1, 1) := by decide +kernel
theorem dX7_categoryOf_6 : decode cX7_categoryOf 6 = .ok (.invokestatic 75, 3) := by decide +kernel
theorem dX7_categoryOf_9 : decode cX7_categoryOf 9 = .ok (.ifCond .eq 12, 3) := by decide +kernel
theorem dX7_categoryOf_12 : decode cX7_categoryOf 12 = .ok (.aload_n 0, 1) := by decide +kernel
theorem dX7_categoryOf_13 : decode cX7_categoryOf 13 = .ok (.getfield 7, 3) := by decide +kernel
theorem dX7_categoryOf_16 : decode cX7_categoryOf 16 = .ok (.iload_n 1, 1) := by decide +kernel
theorem dX7_categoryOf_17 : decode cX7_categoryOf 17 = .ok (.iaload, 1) := by decide +kernel
theorem dX7_categoryOf_18 : decode cX7_categoryOf 18 = .ok (.goto 5, 3) := by decide +kernel
theorem dX7_categoryOf_21 : decode cX7_categoryOf 21 = .ok (.bipush (-2), 2) := by decide +kernel
theorem dX7_categoryOf_23 : decode cX7_categoryOf 23 = .ok (.ireturn, 1) := by decide +kernel
theorem dX7_state_0 : decode cX7_state 0 = .ok (.aload_n 0, 1) := by decide +kernel
theorem dX7_state_1 : decode cX7_state 1 = .ok (.iconst 0, 1) := by decide +kernel
theorem dX7_state_2 : decode cX7_state 2 = .ok (.putfield 72, 3) := by decide +kernel
theorem dX7_state_5 : decode cX7_state 5 = .ok (.aload_n 0, 1) := by decide +kernel
theorem dX7_state_6 : decode cX7_state 6 = .ok (.getfield 90, 3) := by decide +kernel
theorem dX7_state_9 : decode cX7_state 9 = .ok (.ifCond .ne 7, 3) := by decide +kernel
theorem dX7_state_12 : decode cX7_state 12 = .ok (.iconst (-1), 1) := by decide +kernel
theorem dX7_state_13 : decode cX7_state 13 = .ok (.goto 14, 3) := by decide +kernel
theorem dX7_state_16 : decode cX7_state 16 = .ok (.aload_n 0, 1) := by decide +kernel
theorem dX7_state_17 : decode cX7_state 17 = .ok (.getfield 48, 3) := by decide +kernel
theorem dX7_state_20 : decode cX7_state 20 = .ok (.aload_n 0, 1) := by decide +kernel
theorem dX7_state_21 : decode cX7_state 21 = .ok (.getfield 90, 3) := by decide +kernel
theorem dX7_state_24 : decode cX7_state 24 = .ok (.iconst 1, 1) := by decide +kernel
theorem dX7_state_25 : decode cX7_state 25 = .ok (.isub, 1) := by decide +kernel
theorem dX7_state_26 : decode cX7_state 26 = .ok (.iaload, 1) := by decide +kernel
theorem dX7_state_27 : decode cX7_state 27 = .ok (.ireturn, 1) := by decide +kernel
theorem dX7_count_0 : decode cX7_count 0 = .ok (.aload_n 0, 1) := by decide +kernel
theorem dX7_count_1 : decode cX7_count 1 = .ok (.iconst 0, 1) := by decide +kernel
theorem dX7_count_2 : decode cX7_count 2 = .ok (.putfield 72, 3) := by decide +kernel
theorem dX7_count_5 : decode cX7_count 5 = .ok (.aload_n 0, 1) := by decide +kernel
theorem dX7_count_6 : decode cX7_count 6 = .ok (.getfield 90, 3) := by decide +kernel
theorem dX7_count_9 : decode cX7_count 9 = .ok (.iconst 1, 1) := by decide +kernel
theorem dX7_count_10 : decode cX7_count 10 = .ok (.isub, 1) := by decide +kernel
theorem dX7_count_11 : decode cX7_count 11 = .ok (.istore_n 2, 1) := by decide +kernel
theorem dX7_count_12 : decode cX7_count 12 = .ok (.iload_n 1, 1) := by decide +kernel
theorem dX7_count_13 : decode cX7_count 13 = .ok (.tableswitch 113 0 7 #[47, 52, 57, 62, 67, 72, 77, 108], 47) := by decide +kernel
theorem dX7_count_60 : decode cX7_count 60 = .ok (.aload_n 0, 1) := by decide +kernel
theorem dX7_count_61 : decode cX7_count 61 = .ok (.getfield 119, 3) := by decide +kernel
theorem dX7_count_64 : decode cX7_count 64 = .ok (.ireturn, 1) := by decide +kernel
theorem dX7_count_65 : decode cX7_count 65 = .ok (.aload_n 0, 1) := by decide +kernel
theorem dX7_count_66 : decode cX7_count 66 = .ok (.getfield 69, 3) := by decide +kernel
theorem dX7_count_69 : decode cX7_count 69 = .ok (.ireturn, 1) := by decide +kernel
theorem dX7_count_70 : decode cX7_count 70 = .ok (.aload_n 0, 1) := by decide +kernel
theorem dX7_count_71 : decode cX7_count 71 = .ok (.getfield 82, 3) := by decide +kernel
theorem dX7_count_74 : decode cX7_count 74 = .ok (.ireturn, 1) := by decide +kernel
theorem dX7_count_75 : decode cX7_count 75 = .ok (.aload_n 0, 1) := by decide +kernel
theorem dX7_count_76 : decode cX7_count 76 = .ok (.getfield 90, 3) := by decide +kernel
theorem dX7_count_79 : decode cX7_count 79 = .ok (.ireturn, 1) := by decide +kernel
theorem dX7_count_80 : decode cX7_count 80 = .ok (.aload_n 0, 1) := by decide +kernel
theorem dX7_count_81 : decode cX7_count 81 = .ok (.getfield 79, 3) := by decide +kernel
theorem dX7_count_84 : decode cX7_count 84 = .ok (.ireturn, 1) := by decide +kernel
theorem dX7_count_85 : decode cX7_count 85 = .ok (.aload_n 0, 1) := by decide +kernel
theorem dX7_count_86 : decode cX7_count 86 = .ok (.getfield 116, 3) := by decide +kernel
theorem dX7_count_89 : decode cX7_count 89 = .ok (.ireturn, 1) := by decide +kernel
theorem dX7_count_90 : decode cX7_count 90 = .ok (.iload_n 2, 1) := by decide +kernel
theorem dX7_count_91 : decode cX7_count 91 = .ok (.ifCond .lt 12, 3) := by decide +kernel
theorem dX7_count_94 : decode cX7_count 94 = .ok (.aload_n 0, 1) := by decide +kernel
theorem dX7_count_95 : decode cX7_count 95 = .ok (.getfield 48, 3) := by decide +kernel
theorem dX7_count_98 : decode cX7_count 98 = .ok (.iload_n 2, 1) := by decide +kernel
theorem dX7_count_99 : decode cX7_count 99 = .ok (.iaload, 1) := by decide +kernel
theorem dX7_count_100 : decode cX7_count 100 = .ok (.ifCond .ge 7, 3) := by decide +kernel
theorem dX7_count_103 : decode cX7_count 103 = .ok (.iconst 0, 1) := by decide +kernel
theorem dX7_count_104 : decode cX7_count 104 = .ok (.goto 16, 3) := by decide +kernel
theorem dX7_count_107 : decode cX7_count 107 = .ok (.aload_n 0, 1) := by decide +kernel
theorem dX7_count_108 : decode cX7_count 108 = .ok (.getfield 42, 3) := by decide +kernel
theorem dX7_count_111 : decode cX7_count 111 = .ok (.iload_n 2, 1) := by decide +kernel
theorem dX7_count_112 : decode cX7_count 112 = .ok (.iaload, 1) := by decide +kernel
theorem dX7_count_113 : decode cX7_count 113 = .ok (.aload_n 0, 1) := by decide +kernel
theorem dX7_count_114 : decode cX7_count 114 = .ok (.getfield 45, 3) := by decide +kernel
theorem dX7_count_117 : decode cX7_count 117 = .ok (.iload_n 2, 1) := by decide +kernel
theorem dX7_count_118 : decode cX7_count 118 = .ok (.iaload, 1) := by decide +kernel
theorem dX7_count_119 : decode cX7_count 119 = .ok (.isub, 1) := by decide +kernel
theorem dX7_count_120 : decode cX7_count 120 = .ok (.ireturn, 1) := by decide +kernel
theorem dX7_count_121 : decode cX7_count 121 = .ok (.aload_n 0, 1) := by decide +kernel
theorem dX7_count_122 : decode cX7_count 122 = .ok (.getfield 97, 3) := by decide +kernel
theorem dX7_count_125 : decode cX7_count 125 = .ok (.ireturn, 1) := by decide +kernel
theorem dX7_count_126 : decode cX7_count 126 = .ok (.bipush (-2), 2) := by decide +kernel
theorem dX7_count_128 : decode cX7_count 128 = .ok (.ireturn, 1) := by decide +kernel
theorem dX7_check_0 : decode cX7_check 0 = .ok (.aload_n 0, 1) := by decide +kernel
theorem dX7_check_1 : decode cX7_check 1 = .ok (.iconst 0, 1) := by decide +kernel
theorem dX7_check_2 : decode cX7_check 2 = .ok (.putfield 72, 3) := by decide +kernel
theorem dX7_check_5 : decode cX7_check 5 = .ok (.iconst 1, 1) := by decide +kernel
theorem dX7_check_6 : decode cX7_check 6 = .ok (.ireturn, 1) := by decide +kernel
