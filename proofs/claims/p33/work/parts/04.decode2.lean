theorem dL_chart_288 : decode cL_chart 288 = .ok (.goto 4, 3) := by decide +kernel
theorem dL_chart_291 : decode cL_chart 291 = .ok (.iconst 0, 1) := by decide +kernel
theorem dL_chart_292 : decode cL_chart 292 = .ok (.ireturn, 1) := by decide +kernel
theorem dL_save_0 : decode cL_save 0 = .ok (.aload_n 0, 1) := by decide +kernel
theorem dL_save_1 : decode cL_save 1 = .ok (.bipush 9, 2) := by decide +kernel
theorem dL_save_3 : decode cL_save 3 = .ok (.iaload, 1) := by decide +kernel
theorem dL_save_4 : decode cL_save 4 = .ok (.bipush 6, 2) := by decide +kernel
theorem dL_save_6 : decode cL_save 6 = .ok (.if_icmp .ge 11, 3) := by decide +kernel
theorem dL_save_9 : decode cL_save 9 = .ok (.aload_n 0, 1) := by decide +kernel
theorem dL_save_10 : decode cL_save 10 = .ok (.bipush 9, 2) := by decide +kernel
theorem dL_save_12 : decode cL_save 12 = .ok (.dup2, 1) := by decide +kernel
theorem dL_save_13 : decode cL_save 13 = .ok (.iaload, 1) := by decide +kernel
theorem dL_save_14 : decode cL_save 14 = .ok (.iconst 1, 1) := by decide +kernel
theorem dL_save_15 : decode cL_save 15 = .ok (.iadd, 1) := by decide +kernel
theorem dL_save_16 : decode cL_save 16 = .ok (.iastore, 1) := by decide +kernel
theorem dL_save_17 : decode cL_save 17 = .ok (.return_, 1) := by decide +kernel
theorem dL_shop_0 : decode cL_shop 0 = .ok (.iload_n 1, 1) := by decide +kernel
theorem dL_shop_1 : decode cL_shop 1 = .ok (.bipush 8, 2) := by decide +kernel
theorem dL_shop_3 : decode cL_shop 3 = .ok (.invokestatic 24, 3) := by decide +kernel
theorem dL_shop_6 : decode cL_shop 6 = .ok (.istore 5, 2) := by decide +kernel
theorem dL_shop_8 : decode cL_shop 8 = .ok (.aload_n 3, 1) := by decide +kernel
theorem dL_shop_9 : decode cL_shop 9 = .ok (.invokestatic 43, 3) := by decide +kernel
theorem dL_shop_12 : decode cL_shop 12 = .ok (.iload 5, 2) := by decide +kernel
theorem dL_shop_14 : decode cL_shop 14 = .ok (.iconst 3, 1) := by decide +kernel
theorem dL_shop_15 : decode cL_shop 15 = .ok (.if_icmp .ge 99, 3) := by decide +kernel
theorem dL_shop_18 : decode cL_shop 18 = .ok (.iload_n 2, 1) := by decide +kernel
theorem dL_shop_19 : decode cL_shop 19 = .ok (.bipush 6, 2) := by decide +kernel
theorem dL_shop_21 : decode cL_shop 21 = .ok (.invokestatic 24, 3) := by decide +kernel
theorem dL_shop_24 : decode cL_shop 24 = .ok (.istore 6, 2) := by decide +kernel
theorem dL_shop_26 : decode cL_shop 26 = .ok (.iconst 1, 1) := by decide +kernel
theorem dL_shop_27 : decode cL_shop 27 = .ok (.iload_n 2, 1) := by decide +kernel
theorem dL_shop_28 : decode cL_shop 28 = .ok (.iconst 4, 1) := by decide +kernel
theorem dL_shop_29 : decode cL_shop 29 = .ok (.ishr, 1) := by decide +kernel
theorem dL_shop_30 : decode cL_shop 30 = .ok (.bipush 100, 2) := by decide +kernel
theorem dL_shop_32 : decode cL_shop 32 = .ok (.invokestatic 24, 3) := by decide +kernel
theorem dL_shop_35 : decode cL_shop 35 = .ok (.iadd, 1) := by decide +kernel
theorem dL_shop_36 : decode cL_shop 36 = .ok (.istore 7, 2) := by decide +kernel
theorem dL_shop_38 : decode cL_shop 38 = .ok (.aload_n 3, 1) := by decide +kernel
theorem dL_shop_39 : decode cL_shop 39 = .ok (.bipush 16, 2) := by decide +kernel
theorem dL_shop_41 : decode cL_shop 41 = .ok (.iload 6, 2) := by decide +kernel
theorem dL_shop_43 : decode cL_shop 43 = .ok (.iadd, 1) := by decide +kernel
theorem dL_shop_44 : decode cL_shop 44 = .ok (.iaload, 1) := by decide +kernel
theorem dL_shop_45 : decode cL_shop 45 = .ok (.iload 7, 2) := by decide +kernel
theorem dL_shop_47 : decode cL_shop 47 = .ok (.iadd, 1) := by decide +kernel
theorem dL_shop_48 : decode cL_shop 48 = .ok (.sipush 600, 3) := by decide +kernel
theorem dL_shop_51 : decode cL_shop 51 = .ok (.if_icmp .le 15, 3) := by decide +kernel
theorem dL_shop_54 : decode cL_shop 54 = .ok (.aload_n 3, 1) := by decide +kernel
theorem dL_shop_55 : decode cL_shop 55 = .ok (.bipush 9, 2) := by decide +kernel
theorem dL_shop_57 : decode cL_shop 57 = .ok (.aload_n 0, 1) := by decide +kernel
theorem dL_shop_58 : decode cL_shop 58 = .ok (.bipush 12, 2) := by decide +kernel
theorem dL_shop_60 : decode cL_shop 60 = .ok (.invokevirtual 47, 3) := by decide +kernel
theorem dL_shop_63 : decode cL_shop 63 = .ok (.iastore, 1) := by decide +kernel
theorem dL_shop_64 : decode cL_shop 64 = .ok (.iconst 1, 1) := by decide +kernel
theorem dL_shop_65 : decode cL_shop 65 = .ok (.ireturn, 1) := by decide +kernel
theorem dL_shop_66 : decode cL_shop 66 = .ok (.aload_n 3, 1) := by decide +kernel
theorem dL_shop_67 : decode cL_shop 67 = .ok (.bipush 10, 2) := by decide +kernel
theorem dL_shop_69 : decode cL_shop 69 = .ok (.iload 6, 2) := by decide +kernel
theorem dL_shop_71 : decode cL_shop 71 = .ok (.iadd, 1) := by decide +kernel
theorem dL_shop_72 : decode cL_shop 72 = .ok (.dup2, 1) := by decide +kernel
theorem dL_shop_73 : decode cL_shop 73 = .ok (.iaload, 1) := by decide +kernel
theorem dL_shop_74 : decode cL_shop 74 = .ok (.iload 7, 2) := by decide +kernel
theorem dL_shop_76 : decode cL_shop 76 = .ok (.iadd, 1) := by decide +kernel
theorem dL_shop_77 : decode cL_shop 77 = .ok (.iastore, 1) := by decide +kernel
theorem dL_shop_78 : decode cL_shop 78 = .ok (.aload_n 3, 1) := by decide +kernel
theorem dL_shop_79 : decode cL_shop 79 = .ok (.bipush 16, 2) := by decide +kernel
theorem dL_shop_81 : decode cL_shop 81 = .ok (.iload 6, 2) := by decide +kernel
theorem dL_shop_83 : decode cL_shop 83 = .ok (.iadd, 1) := by decide +kernel
theorem dL_shop_84 : decode cL_shop 84 = .ok (.dup2, 1) := by decide +kernel
theorem dL_shop_85 : decode cL_shop 85 = .ok (.iaload, 1) := by decide +kernel
theorem dL_shop_86 : decode cL_shop 86 = .ok (.iload 7, 2) := by decide +kernel
theorem dL_shop_88 : decode cL_shop 88 = .ok (.iadd, 1) := by decide +kernel
theorem dL_shop_89 : decode cL_shop 89 = .ok (.iastore, 1) := by decide +kernel
theorem dL_shop_90 : decode cL_shop 90 = .ok (.aload_n 0, 1) := by decide +kernel
theorem dL_shop_91 : decode cL_shop 91 = .ok (.iload 6, 2) := by decide +kernel
theorem dL_shop_93 : decode cL_shop 93 = .ok (.iload 7, 2) := by decide +kernel
theorem dL_shop_95 : decode cL_shop 95 = .ok (.invokevirtual 50, 3) := by decide +kernel
theorem dL_shop_98 : decode cL_shop 98 = .ok (.aload_n 3, 1) := by decide +kernel
theorem dL_shop_99 : decode cL_shop 99 = .ok (.bipush 10, 2) := by decide +kernel
theorem dL_shop_101 : decode cL_shop 101 = .ok (.iload 6, 2) := by decide +kernel
theorem dL_shop_103 : decode cL_shop 103 = .ok (.iadd, 1) := by decide +kernel
theorem dL_shop_104 : decode cL_shop 104 = .ok (.iaload, 1) := by decide +kernel
theorem dL_shop_105 : decode cL_shop 105 = .ok (.if_icmp .ne 7, 3) := by decide +kernel
theorem dL_shop_108 : decode cL_shop 108 = .ok (.iconst 1, 1) := by decide +kernel
theorem dL_shop_109 : decode cL_shop 109 = .ok (.goto 4, 3) := by decide +kernel
theorem dL_shop_112 : decode cL_shop 112 = .ok (.iconst 0, 1) := by decide +kernel
theorem dL_shop_113 : decode cL_shop 113 = .ok (.ireturn, 1) := by decide +kernel
theorem dL_shop_114 : decode cL_shop 114 = .ok (.iload 5, 2) := by decide +kernel
theorem dL_shop_116 : decode cL_shop 116 = .ok (.iconst 3, 1) := by decide +kernel
theorem dL_shop_117 : decode cL_shop 117 = .ok (.if_icmp .ne 15, 3) := by decide +kernel
theorem dL_shop_120 : decode cL_shop 120 = .ok (.aload_n 0, 1) := by decide +kernel
theorem dL_shop_121 : decode cL_shop 121 = .ok (.iload_n 2, 1) := by decide +kernel
theorem dL_shop_122 : decode cL_shop 122 = .ok (.iload_n 1, 1) := by decide +kernel
theorem dL_shop_123 : decode cL_shop 123 = .ok (.iconst 4, 1) := by decide +kernel
theorem dL_shop_124 : decode cL_shop 124 = .ok (.ishr, 1) := by decide +kernel
theorem dL_shop_125 : decode cL_shop 125 = .ok (.aload_n 3, 1) := by decide +kernel
theorem dL_shop_126 : decode cL_shop 126 = .ok (.aload 4, 2) := by decide +kernel
theorem dL_shop_128 : decode cL_shop 128 = .ok (.invokestatic 53, 3) := by decide +kernel
theorem dL_shop_131 : decode cL_shop 131 = .ok (.ireturn, 1) := by decide +kernel
theorem dL_shop_132 : decode cL_shop 132 = .ok (.iload 5, 2) := by decide +kernel
theorem dL_shop_134 : decode cL_shop 134 = .ok (.iconst 4, 1) := by decide +kernel
theorem dL_shop_135 : decode cL_shop 135 = .ok (.if_icmp .ne 134, 3) := by decide +kernel
theorem dL_shop_138 : decode cL_shop 138 = .ok (.iload_n 2, 1) := by decide +kernel
theorem dL_shop_139 : decode cL_shop 139 = .ok (.bipush 6, 2) := by decide +kernel
theorem dL_shop_141 : decode cL_shop 141 = .ok (.invokestatic 24, 3) := by decide +kernel
theorem dL_shop_144 : decode cL_shop 144 = .ok (.istore 6, 2) := by decide +kernel
theorem dL_shop_146 : decode cL_shop 146 = .ok (.iload_n 2, 1) := by decide +kernel
theorem dL_shop_147 : decode cL_shop 147 = .ok (.iconst 3, 1) := by decide +kernel
theorem dL_shop_148 : decode cL_shop 148 = .ok (.ishr, 1) := by decide +kernel
theorem dL_shop_149 : decode cL_shop 149 = .ok (.bipush 6, 2) := by decide +kernel
theorem dL_shop_151 : decode cL_shop 151 = .ok (.invokestatic 24, 3) := by decide +kernel
theorem dL_shop_154 : decode cL_shop 154 = .ok (.istore 7, 2) := by decide +kernel
theorem dL_shop_156 : decode cL_shop 156 = .ok (.iconst 0, 1) := by decide +kernel
theorem dL_shop_157 : decode cL_shop 157 = .ok (.istore 8, 2) := by decide +kernel
theorem dL_shop_159 : decode cL_shop 159 = .ok (.iconst 0, 1) := by decide +kernel
theorem dL_shop_160 : decode cL_shop 160 = .ok (.istore 9, 2) := by decide +kernel
theorem dL_shop_162 : decode cL_shop 162 = .ok (.iload 9, 2) := by decide +kernel
theorem dL_shop_164 : decode cL_shop 164 = .ok (.bipush 12, 2) := by decide +kernel
theorem dL_shop_166 : decode cL_shop 166 = .ok (.aload_n 3, 1) := by decide +kernel
theorem dL_shop_167 : decode cL_shop 167 = .ok (.iconst 0, 1) := by decide +kernel
theorem dL_shop_168 : decode cL_shop 168 = .ok (.iaload, 1) := by decide +kernel
theorem dL_shop_169 : decode cL_shop 169 = .ok (.imul, 1) := by decide +kernel
theorem dL_shop_170 : decode cL_shop 170 = .ok (.if_icmp .ge 80, 3) := by decide +kernel
theorem dL_shop_173 : decode cL_shop 173 = .ok (.iload 9, 2) := by decide +kernel
theorem dL_shop_175 : decode cL_shop 175 = .ok (.bipush 12, 2) := by decide +kernel
theorem dL_shop_177 : decode cL_shop 177 = .ok (.irem, 1) := by decide +kernel
theorem dL_shop_178 : decode cL_shop 178 = .ok (.aload_n 3, 1) := by decide +kernel
theorem dL_shop_179 : decode cL_shop 179 = .ok (.iconst 1, 1) := by decide +kernel
theorem dL_shop_180 : decode cL_shop 180 = .ok (.iaload, 1) := by decide +kernel
theorem dL_shop_181 : decode cL_shop 181 = .ok (.if_icmp .ge 63, 3) := by decide +kernel
theorem dL_shop_184 : decode cL_shop 184 = .ok (.iload 6, 2) := by decide +kernel
theorem dL_shop_186 : decode cL_shop 186 = .ok (.iload 7, 2) := by decide +kernel
theorem dL_shop_188 : decode cL_shop 188 = .ok (.if_icmp .eq 56, 3) := by decide +kernel
theorem dL_shop_191 : decode cL_shop 191 = .ok (.aload 4, 2) := by decide +kernel
theorem dL_shop_193 : decode cL_shop 193 = .ok (.iload 9, 2) := by decide +kernel
theorem dL_shop_195 : decode cL_shop 195 = .ok (.invokestatic 8, 3) := by decide +kernel
theorem dL_shop_198 : decode cL_shop 198 = .ok (.iload 6, 2) := by decide +kernel
theorem dL_shop_200 : decode cL_shop 200 = .ok (.if_icmp .eq 15, 3) := by decide +kernel
theorem dL_shop_203 : decode cL_shop 203 = .ok (.aload 4, 2) := by decide +kernel
theorem dL_shop_205 : decode cL_shop 205 = .ok (.iload 9, 2) := by decide +kernel
theorem dL_shop_207 : decode cL_shop 207 = .ok (.invokestatic 8, 3) := by decide +kernel
theorem dL_shop_210 : decode cL_shop 210 = .ok (.iload 7, 2) := by decide +kernel
theorem dL_shop_212 : decode cL_shop 212 = .ok (.if_icmp .ne 32, 3) := by decide +kernel
theorem dL_shop_215 : decode cL_shop 215 = .ok (.aload 4, 2) := by decide +kernel
theorem dL_shop_217 : decode cL_shop 217 = .ok (.iload 9, 2) := by decide +kernel
theorem dL_shop_219 : decode cL_shop 219 = .ok (.aload 4, 2) := by decide +kernel
theorem dL_shop_221 : decode cL_shop 221 = .ok (.iload 9, 2) := by decide +kernel
theorem dL_shop_223 : decode cL_shop 223 = .ok (.invokestatic 8, 3) := by decide +kernel
theorem dL_shop_226 : decode cL_shop 226 = .ok (.iload 6, 2) := by decide +kernel
theorem dL_shop_228 : decode cL_shop 228 = .ok (.if_icmp .ne 8, 3) := by decide +kernel
theorem dL_shop_231 : decode cL_shop 231 = .ok (.iload 7, 2) := by decide +kernel
theorem dL_shop_233 : decode cL_shop 233 = .ok (.goto 5, 3) := by decide +kernel
theorem dL_shop_236 : decode cL_shop 236 = .ok (.iload 6, 2) := by decide +kernel
theorem dL_shop_238 : decode cL_shop 238 = .ok (.invokestatic 36, 3) := by decide +kernel
theorem dL_shop_241 : decode cL_shop 241 = .ok (.iinc 8 1, 3) := by decide +kernel
theorem dL_shop_244 : decode cL_shop 244 = .ok (.iinc 9 1, 3) := by decide +kernel
theorem dL_shop_247 : decode cL_shop 247 = .ok (.goto (-85), 3) := by decide +kernel
theorem dL_shop_250 : decode cL_shop 250 = .ok (.aload_n 0, 1) := by decide +kernel
theorem dL_shop_251 : decode cL_shop 251 = .ok (.iload 6, 2) := by decide +kernel
theorem dL_shop_253 : decode cL_shop 253 = .ok (.iload 7, 2) := by decide +kernel
theorem dL_shop_255 : decode cL_shop 255 = .ok (.invokevirtual 57, 3) := by decide +kernel
theorem dL_shop_258 : decode cL_shop 258 = .ok (.iload 8, 2) := by decide +kernel
theorem dL_shop_260 : decode cL_shop 260 = .ok (.if_icmp .ne 7, 3) := by decide +kernel
theorem dL_shop_263 : decode cL_shop 263 = .ok (.iconst 1, 1) := by decide +kernel
theorem dL_shop_264 : decode cL_shop 264 = .ok (.goto 4, 3) := by decide +kernel
theorem dL_shop_267 : decode cL_shop 267 = .ok (.iconst 0, 1) := by decide +kernel
theorem dL_shop_268 : decode cL_shop 268 = .ok (.ireturn, 1) := by decide +kernel
theorem dL_shop_269 : decode cL_shop 269 = .ok (.iload_n 2, 1) := by decide +kernel
theorem dL_shop_270 : decode cL_shop 270 = .ok (.iconst 4, 1) := by decide +kernel
theorem dL_shop_271 : decode cL_shop 271 = .ok (.invokestatic 24, 3) := by decide +kernel
theorem dL_shop_274 : decode cL_shop 274 = .ok (.istore 6, 2) := by decide +kernel
theorem dL_shop_276 : decode cL_shop 276 = .ok (.aload_n 3, 1) := by decide +kernel
theorem dL_shop_277 : decode cL_shop 277 = .ok (.iconst 2, 1) := by decide +kernel
theorem dL_shop_278 : decode cL_shop 278 = .ok (.iload 6, 2) := by decide +kernel
theorem dL_shop_280 : decode cL_shop 280 = .ok (.iadd, 1) := by decide +kernel
theorem dL_shop_281 : decode cL_shop 281 = .ok (.iaload, 1) := by decide +kernel
theorem dL_shop_282 : decode cL_shop 282 = .ok (.istore 7, 2) := by decide +kernel
theorem dL_shop_284 : decode cL_shop 284 = .ok (.aload_n 3, 1) := by decide +kernel
theorem dL_shop_285 : decode cL_shop 285 = .ok (.iconst 2, 1) := by decide +kernel
theorem dL_shop_286 : decode cL_shop 286 = .ok (.iload 6, 2) := by decide +kernel
theorem dL_shop_288 : decode cL_shop 288 = .ok (.iadd, 1) := by decide +kernel
theorem dL_shop_289 : decode cL_shop 289 = .ok (.iload 6, 2) := by decide +kernel
theorem dL_shop_291 : decode cL_shop 291 = .ok (.ifCond .ne 16, 3) := by decide +kernel
theorem dL_shop_294 : decode cL_shop 294 = .ok (.iconst 3, 1) := by decide +kernel
theorem dL_shop_295 : decode cL_shop 295 = .ok (.iload_n 2, 1) := by decide +kernel
theorem dL_shop_296 : decode cL_shop 296 = .ok (.iconst 3, 1) := by decide +kernel
theorem dL_shop_297 : decode cL_shop 297 = .ok (.ishr, 1) := by decide +kernel
theorem dL_shop_298 : decode cL_shop 298 = .ok (.bipush 13, 2) := by decide +kernel
theorem dL_shop_300 : decode cL_shop 300 = .ok (.invokestatic 24, 3) := by decide +kernel
theorem dL_shop_303 : decode cL_shop 303 = .ok (.iadd, 1) := by decide +kernel
theorem dL_shop_304 : decode cL_shop 304 = .ok (.goto 64, 3) := by decide +kernel
theorem dL_shop_307 : decode cL_shop 307 = .ok (.iload 6, 2) := by decide +kernel
theorem dL_shop_309 : decode cL_shop 309 = .ok (.iconst 1, 1) := by decide +kernel
theorem dL_shop_310 : decode cL_shop 310 = .ok (.if_icmp .ne 14, 3) := by decide +kernel
theorem dL_shop_313 : decode cL_shop 313 = .ok (.iload_n 2, 1) := by decide +kernel
theorem dL_shop_314 : decode cL_shop 314 = .ok (.iconst 3, 1) := by decide +kernel
theorem dL_shop_315 : decode cL_shop 315 = .ok (.ishr, 1) := by decide +kernel
theorem dL_shop_316 : decode cL_shop 316 = .ok (.bipush 12, 2) := by decide +kernel
theorem dL_shop_318 : decode cL_shop 318 = .ok (.invokestatic 24, 3) := by decide +kernel
theorem dL_shop_321 : decode cL_shop 321 = .ok (.goto 47, 3) := by decide +kernel
theorem dL_shop_324 : decode cL_shop 324 = .ok (.iload 6, 2) := by decide +kernel
theorem dL_shop_326 : decode cL_shop 326 = .ok (.iconst 2, 1) := by decide +kernel
theorem dL_shop_327 : decode cL_shop 327 = .ok (.if_icmp .ne 33, 3) := by decide +kernel
theorem dL_shop_330 : decode cL_shop 330 = .ok (.iconst 5, 1) := by decide +kernel
theorem dL_shop_331 : decode cL_shop 331 = .ok (.iload_n 2, 1) := by decide +kernel
theorem dL_shop_332 : decode cL_shop 332 = .ok (.iconst 3, 1) := by decide +kernel
theorem dL_shop_333 : decode cL_shop 333 = .ok (.ishr, 1) := by decide +kernel
theorem dL_shop_334 : decode cL_shop 334 = .ok (.iload_n 2, 1) := by decide +kernel
theorem dL_shop_335 : decode cL_shop 335 = .ok (.bipush 12, 2) := by decide +kernel
theorem dL_shop_337 : decode cL_shop 337 = .ok (.ishr, 1) := by decide +kernel
theorem dL_shop_338 : decode cL_shop 338 = .ok (.iconst 2, 1) := by decide +kernel
theorem dL_shop_339 : decode cL_shop 339 = .ok (.invokestatic 24, 3) := by decide +kernel
theorem dL_shop_342 : decode cL_shop 342 = .ok (.ifCond .ne 9, 3) := by decide +kernel
theorem dL_shop_345 : decode cL_shop 345 = .ok (.sipush 236, 3) := by decide +kernel
theorem dL_shop_348 : decode cL_shop 348 = .ok (.goto 5, 3) := by decide +kernel
theorem dL_shop_351 : decode cL_shop 351 = .ok (.bipush 12, 2) := by decide +kernel
theorem dL_shop_353 : decode cL_shop 353 = .ok (.invokestatic 24, 3) := by decide +kernel
theorem dL_shop_356 : decode cL_shop 356 = .ok (.iadd, 1) := by decide +kernel
theorem dL_shop_357 : decode cL_shop 357 = .ok (.goto 11, 3) := by decide +kernel
theorem dL_shop_360 : decode cL_shop 360 = .ok (.iload_n 2, 1) := by decide +kernel
theorem dL_shop_361 : decode cL_shop 361 = .ok (.iconst 3, 1) := by decide +kernel
theorem dL_shop_362 : decode cL_shop 362 = .ok (.ishr, 1) := by decide +kernel
theorem dL_shop_363 : decode cL_shop 363 = .ok (.bipush 6, 2) := by decide +kernel
theorem dL_shop_365 : decode cL_shop 365 = .ok (.invokestatic 24, 3) := by decide +kernel
theorem dL_shop_368 : decode cL_shop 368 = .ok (.iastore, 1) := by decide +kernel
theorem dL_shop_369 : decode cL_shop 369 = .ok (.aload_n 0, 1) := by decide +kernel
theorem dL_shop_370 : decode cL_shop 370 = .ok (.iload 6, 2) := by decide +kernel
theorem dL_shop_372 : decode cL_shop 372 = .ok (.aload_n 3, 1) := by decide +kernel
theorem dL_shop_373 : decode cL_shop 373 = .ok (.iconst 2, 1) := by decide +kernel
theorem dL_shop_374 : decode cL_shop 374 = .ok (.iload 6, 2) := by decide +kernel
theorem dL_shop_376 : decode cL_shop 376 = .ok (.iadd, 1) := by decide +kernel
theorem dL_shop_377 : decode cL_shop 377 = .ok (.iaload, 1) := by decide +kernel
theorem dL_shop_378 : decode cL_shop 378 = .ok (.invokevirtual 60, 3) := by decide +kernel
theorem dL_shop_381 : decode cL_shop 381 = .ok (.iload 7, 2) := by decide +kernel
theorem dL_shop_383 : decode cL_shop 383 = .ok (.if_icmp .ne 7, 3) := by decide +kernel
theorem dL_shop_386 : decode cL_shop 386 = .ok (.iconst 1, 1) := by decide +kernel
theorem dL_shop_387 : decode cL_shop 387 = .ok (.goto 4, 3) := by decide +kernel
theorem dL_shop_390 : decode cL_shop 390 = .ok (.iconst 0, 1) := by decide +kernel
theorem dL_shop_391 : decode cL_shop 391 = .ok (.ireturn, 1) := by decide +kernel
theorem dL_strings_0 : decode cL_strings 0 = .ok (.iload_n 1, 1) := by decide +kernel
theorem dL_strings_1 : decode cL_strings 1 = .ok (.bipush 10, 2) := by decide +kernel
theorem dL_strings_3 : decode cL_strings 3 = .ok (.invokestatic 24, 3) := by decide +kernel
theorem dL_strings_6 : decode cL_strings 6 = .ok (.istore 7, 2) := by decide +kernel
theorem dL_strings_8 : decode cL_strings 8 = .ok (.aload_n 3, 1) := by decide +kernel
theorem dL_strings_9 : decode cL_strings 9 = .ok (.bipush 6, 2) := by decide +kernel
theorem dL_strings_11 : decode cL_strings 11 = .ok (.iaload, 1) := by decide +kernel
theorem dL_strings_12 : decode cL_strings 12 = .ok (.aload 6, 2) := by decide +kernel
theorem dL_strings_14 : decode cL_strings 14 = .ok (.aload_n 3, 1) := by decide +kernel
theorem dL_strings_15 : decode cL_strings 15 = .ok (.bipush 7, 2) := by decide +kernel
theorem dL_strings_17 : decode cL_strings 17 = .ok (.iaload, 1) := by decide +kernel
theorem dL_strings_18 : decode cL_strings 18 = .ok (.iconst 1, 1) := by decide +kernel
theorem dL_strings_19 : decode cL_strings 19 = .ok (.isub, 1) := by decide +kernel
theorem dL_strings_20 : decode cL_strings 20 = .ok (.iaload, 1) := by decide +kernel
theorem dL_strings_21 : decode cL_strings 21 = .ok (.isub, 1) := by decide +kernel
theorem dL_strings_22 : decode cL_strings 22 = .ok (.istore 8, 2) := by decide +kernel
theorem dL_strings_24 : decode cL_strings 24 = .ok (.iconst 1, 1) := by decide +kernel
theorem dL_strings_25 : decode cL_strings 25 = .ok (.iload_n 2, 1) := by decide +kernel
theorem dL_strings_26 : decode cL_strings 26 = .ok (.bipush 12, 2) := by decide +kernel
theorem dL_strings_28 : decode cL_strings 28 = .ok (.invokestatic 24, 3) := by decide +kernel
theorem dL_strings_31 : decode cL_strings 31 = .ok (.iadd, 1) := by decide +kernel
theorem dL_strings_32 : decode cL_strings 32 = .ok (.istore 9, 2) := by decide +kernel
theorem dL_strings_34 : decode cL_strings 34 = .ok (.iload 7, 2) := by decide +kernel
theorem dL_strings_36 : decode cL_strings 36 = .ok (.bipush 6, 2) := by decide +kernel
theorem dL_strings_38 : decode cL_strings 38 = .ok (.if_icmp .ge 232, 3) := by decide +kernel
theorem dL_strings_41 : decode cL_strings 41 = .ok (.aload_n 3, 1) := by decide +kernel
theorem dL_strings_42 : decode cL_strings 42 = .ok (.bipush 6, 2) := by decide +kernel
theorem dL_strings_44 : decode cL_strings 44 = .ok (.iaload, 1) := by decide +kernel
theorem dL_strings_45 : decode cL_strings 45 = .ok (.iload 9, 2) := by decide +kernel
theorem dL_strings_47 : decode cL_strings 47 = .ok (.iadd, 1) := by decide +kernel
theorem dL_strings_48 : decode cL_strings 48 = .ok (.sipush 240, 3) := by decide +kernel
theorem dL_strings_51 : decode cL_strings 51 = .ok (.if_icmp .gt 219, 3) := by decide +kernel
theorem dL_strings_54 : decode cL_strings 54 = .ok (.iload 8, 2) := by decide +kernel
theorem dL_strings_56 : decode cL_strings 56 = .ok (.iload 9, 2) := by decide +kernel
theorem dL_strings_58 : decode cL_strings 58 = .ok (.iadd, 1) := by decide +kernel
theorem dL_strings_59 : decode cL_strings 59 = .ok (.aload_n 3, 1) := by decide +kernel
theorem dL_strings_60 : decode cL_strings 60 = .ok (.iconst 4, 1) := by decide +kernel
theorem dL_strings_61 : decode cL_strings 61 = .ok (.iaload, 1) := by decide +kernel
theorem dL_strings_62 : decode cL_strings 62 = .ok (.if_icmp .gt 208, 3) := by decide +kernel
theorem dL_strings_65 : decode cL_strings 65 = .ok (.iload_n 2, 1) := by decide +kernel
theorem dL_strings_66 : decode cL_strings 66 = .ok (.iconst 5, 1) := by decide +kernel
theorem dL_strings_67 : decode cL_strings 67 = .ok (.ishr, 1) := by decide +kernel
theorem dL_strings_68 : decode cL_strings 68 = .ok (.bipush 6, 2) := by decide +kernel
theorem dL_strings_70 : decode cL_strings 70 = .ok (.invokestatic 24, 3) := by decide +kernel
theorem dL_strings_73 : decode cL_strings 73 = .ok (.istore 10, 2) := by decide +kernel
theorem dL_strings_75 : decode cL_strings 75 = .ok (.bipush 6, 2) := by decide +kernel
theorem dL_strings_77 : decode cL_strings 77 = .ok (.newarray .int, 2) := by decide +kernel
theorem dL_strings_79 : decode cL_strings 79 = .ok (.astore 11, 2) := by decide +kernel
theorem dL_strings_81 : decode cL_strings 81 = .ok (.iconst 0, 1) := by decide +kernel
theorem dL_strings_82 : decode cL_strings 82 = .ok (.istore 12, 2) := by decide +kernel
theorem dL_strings_84 : decode cL_strings 84 = .ok (.iload 12, 2) := by decide +kernel
theorem dL_strings_86 : decode cL_strings 86 = .ok (.iload 9, 2) := by decide +kernel
theorem dL_strings_88 : decode cL_strings 88 = .ok (.if_icmp .ge 40, 3) := by decide +kernel
theorem dL_strings_91 : decode cL_strings 91 = .ok (.aload 11, 2) := by decide +kernel
theorem dL_strings_93 : decode cL_strings 93 = .ok (.iload 7, 2) := by decide +kernel
theorem dL_strings_95 : decode cL_strings 95 = .ok (.iconst 2, 1) := by decide +kernel
theorem dL_strings_96 : decode cL_strings 96 = .ok (.if_icmp .ge 8, 3) := by decide +kernel
theorem dL_strings_99 : decode cL_strings 99 = .ok (.iload 10, 2) := by decide +kernel
theorem dL_strings_101 : decode cL_strings 101 = .ok (.goto 16, 3) := by decide +kernel
theorem dL_strings_104 : decode cL_strings 104 = .ok (.aload_n 3, 1) := by decide +kernel
theorem dL_strings_105 : decode cL_strings 105 = .ok (.aload 4, 2) := by decide +kernel
theorem dL_strings_107 : decode cL_strings 107 = .ok (.aload_n 3, 1) := by decide +kernel
theorem dL_strings_108 : decode cL_strings 108 = .ok (.bipush 6, 2) := by decide +kernel
theorem dL_strings_110 : decode cL_strings 110 = .ok (.iaload, 1) := by decide +kernel
theorem dL_strings_111 : decode cL_strings 111 = .ok (.iload 12, 2) := by decide +kernel
theorem dL_strings_113 : decode cL_strings 113 = .ok (.iadd, 1) := by decide +kernel
theorem dL_strings_114 : decode cL_strings 114 = .ok (.invokestatic 14, 3) := by decide +kernel
theorem dL_strings_117 : decode cL_strings 117 = .ok (.dup2, 1) := by decide +kernel
theorem dL_strings_118 : decode cL_strings 118 = .ok (.iaload, 1) := by decide +kernel
theorem dL_strings_119 : decode cL_strings 119 = .ok (.iconst 1, 1) := by decide +kernel
theorem dL_strings_120 : decode cL_strings 120 = .ok (.iadd, 1) := by decide +kernel
theorem dL_strings_121 : decode cL_strings 121 = .ok (.iastore, 1) := by decide +kernel
theorem dL_strings_122 : decode cL_strings 122 = .ok (.iinc 12 1, 3) := by decide +kernel
theorem dL_strings_125 : decode cL_strings 125 = .ok (.goto (-41), 3) := by decide +kernel
theorem dL_strings_128 : decode cL_strings 128 = .ok (.iconst 0, 1) := by decide +kernel
theorem dL_strings_129 : decode cL_strings 129 = .ok (.istore 12, 2) := by decide +kernel
theorem dL_strings_131 : decode cL_strings 131 = .ok (.iload 12, 2) := by decide +kernel
theorem dL_strings_133 : decode cL_strings 133 = .ok (.bipush 6, 2) := by decide +kernel
theorem dL_strings_135 : decode cL_strings 135 = .ok (.if_icmp .ge 26, 3) := by decide +kernel
theorem dL_strings_138 : decode cL_strings 138 = .ok (.aload 11, 2) := by decide +kernel
theorem dL_strings_140 : decode cL_strings 140 = .ok (.iload 12, 2) := by decide +kernel
theorem dL_strings_142 : decode cL_strings 142 = .ok (.iaload, 1) := by decide +kernel
theorem dL_strings_143 : decode cL_strings 143 = .ok (.aload_n 3, 1) := by decide +kernel
theorem dL_strings_144 : decode cL_strings 144 = .ok (.bipush 10, 2) := by decide +kernel
theorem dL_strings_146 : decode cL_strings 146 = .ok (.iload 12, 2) := by decide +kernel
theorem dL_strings_148 : decode cL_strings 148 = .ok (.iadd, 1) := by decide +kernel
theorem dL_strings_149 : decode cL_strings 149 = .ok (.iaload, 1) := by decide +kernel
theorem dL_strings_150 : decode cL_strings 150 = .ok (.if_icmp .le 5, 3) := by decide +kernel
theorem dL_strings_153 : decode cL_strings 153 = .ok (.iconst 1, 1) := by decide +kernel
theorem dL_strings_154 : decode cL_strings 154 = .ok (.ireturn, 1) := by decide +kernel
theorem dL_strings_155 : decode cL_strings 155 = .ok (.iinc 12 1, 3) := by decide +kernel
theorem dL_strings_158 : decode cL_strings 158 = .ok (.goto (-27), 3) := by decide +kernel
theorem dL_strings_161 : decode cL_strings 161 = .ok (.iconst 0, 1) := by decide +kernel
theorem dL_strings_162 : decode cL_strings 162 = .ok (.istore 12, 2) := by decide +kernel
theorem dL_strings_164 : decode cL_strings 164 = .ok (.iload 12, 2) := by decide +kernel
theorem dL_strings_166 : decode cL_strings 166 = .ok (.iload 9, 2) := by decide +kernel
theorem dL_strings_168 : decode cL_strings 168 = .ok (.if_icmp .ge 62, 3) := by decide +kernel
theorem dL_strings_171 : decode cL_strings 171 = .ok (.iload 7, 2) := by decide +kernel
theorem dL_strings_173 : decode cL_strings 173 = .ok (.iconst 2, 1) := by decide +kernel
theorem dL_strings_174 : decode cL_strings 174 = .ok (.if_icmp .ge 8, 3) := by decide +kernel
theorem dL_strings_177 : decode cL_strings 177 = .ok (.iload 10, 2) := by decide +kernel
theorem dL_strings_179 : decode cL_strings 179 = .ok (.goto 13, 3) := by decide +kernel
theorem dL_strings_182 : decode cL_strings 182 = .ok (.aload_n 3, 1) := by decide +kernel
theorem dL_strings_183 : decode cL_strings 183 = .ok (.aload 4, 2) := by decide +kernel
theorem dL_strings_185 : decode cL_strings 185 = .ok (.aload_n 3, 1) := by decide +kernel
theorem dL_strings_186 : decode cL_strings 186 = .ok (.bipush 6, 2) := by decide +kernel
theorem dL_strings_188 : decode cL_strings 188 = .ok (.iaload, 1) := by decide +kernel
theorem dL_strings_189 : decode cL_strings 189 = .ok (.invokestatic 14, 3) := by decide +kernel
theorem dL_strings_192 : decode cL_strings 192 = .ok (.istore 13, 2) := by decide +kernel
theorem dL_strings_194 : decode cL_strings 194 = .ok (.aload 5, 2) := by decide +kernel
theorem dL_strings_196 : decode cL_strings 196 = .ok (.aload_n 3, 1) := by decide +kernel
theorem dL_strings_197 : decode cL_strings 197 = .ok (.bipush 6, 2) := by decide +kernel
theorem dL_strings_199 : decode cL_strings 199 = .ok (.iaload, 1) := by decide +kernel
theorem dL_strings_200 : decode cL_strings 200 = .ok (.iload 13, 2) := by decide +kernel
theorem dL_strings_202 : decode cL_strings 202 = .ok (.invokestatic 36, 3) := by decide +kernel
theorem dL_strings_205 : decode cL_strings 205 = .ok (.aload_n 3, 1) := by decide +kernel
theorem dL_strings_206 : decode cL_strings 206 = .ok (.bipush 10, 2) := by decide +kernel
theorem dL_strings_208 : decode cL_strings 208 = .ok (.iload 13, 2) := by decide +kernel
theorem dL_strings_210 : decode cL_strings 210 = .ok (.iadd, 1) := by decide +kernel
theorem dL_strings_211 : decode cL_strings 211 = .ok (.dup2, 1) := by decide +kernel
theorem dL_strings_212 : decode cL_strings 212 = .ok (.iaload, 1) := by decide +kernel
theorem dL_strings_213 : decode cL_strings 213 = .ok (.iconst 1, 1) := by decide +kernel
theorem dL_strings_214 : decode cL_strings 214 = .ok (.isub, 1) := by decide +kernel
theorem dL_strings_215 : decode cL_strings 215 = .ok (.iastore, 1) := by decide +kernel
theorem dL_strings_216 : decode cL_strings 216 = .ok (.aload_n 3, 1) := by decide +kernel
theorem dL_strings_217 : decode cL_strings 217 = .ok (.bipush 6, 2) := by decide +kernel
theorem dL_strings_219 : decode cL_strings 219 = .ok (.dup2, 1) := by decide +kernel
theorem dL_strings_220 : decode cL_strings 220 = .ok (.iaload, 1) := by decide +kernel
theorem dL_strings_221 : decode cL_strings 221 = .ok (.iconst 1, 1) := by decide +kernel
theorem dL_strings_222 : decode cL_strings 222 = .ok (.iadd, 1) := by decide +kernel
theorem dL_strings_223 : decode cL_strings 223 = .ok (.iastore, 1) := by decide +kernel
theorem dL_strings_224 : decode cL_strings 224 = .ok (.iinc 12 1, 3) := by decide +kernel
theorem dL_strings_227 : decode cL_strings 227 = .ok (.goto (-63), 3) := by decide +kernel
theorem dL_strings_230 : decode cL_strings 230 = .ok (.aload_n 3, 1) := by decide +kernel
theorem dL_strings_231 : decode cL_strings 231 = .ok (.invokestatic 43, 3) := by decide +kernel
theorem dL_strings_234 : decode cL_strings 234 = .ok (.iload 7, 2) := by decide +kernel
theorem dL_strings_236 : decode cL_strings 236 = .ok (.iconst 2, 1) := by decide +kernel
theorem dL_strings_237 : decode cL_strings 237 = .ok (.if_icmp .ge 14, 3) := by decide +kernel
theorem dL_strings_240 : decode cL_strings 240 = .ok (.aload_n 0, 1) := by decide +kernel
theorem dL_strings_241 : decode cL_strings 241 = .ok (.iload 10, 2) := by decide +kernel
theorem dL_strings_243 : decode cL_strings 243 = .ok (.iload 9, 2) := by decide +kernel
theorem dL_strings_245 : decode cL_strings 245 = .ok (.invokevirtual 63, 3) := by decide +kernel
theorem dL_strings_248 : decode cL_strings 248 = .ok (.goto 9, 3) := by decide +kernel
theorem dL_strings_251 : decode cL_strings 251 = .ok (.aload_n 0, 1) := by decide +kernel
theorem dL_strings_252 : decode cL_strings 252 = .ok (.iload 9, 2) := by decide +kernel
theorem dL_strings_254 : decode cL_strings 254 = .ok (.invokevirtual 66, 3) := by decide +kernel
theorem dL_strings_257 : decode cL_strings 257 = .ok (.aload_n 3, 1) := by decide +kernel
theorem dL_strings_258 : decode cL_strings 258 = .ok (.bipush 6, 2) := by decide +kernel
theorem dL_strings_260 : decode cL_strings 260 = .ok (.iaload, 1) := by decide +kernel
theorem dL_strings_261 : decode cL_strings 261 = .ok (.if_icmp .ne 7, 3) := by decide +kernel
theorem dL_strings_264 : decode cL_strings 264 = .ok (.iconst 1, 1) := by decide +kernel
theorem dL_strings_265 : decode cL_strings 265 = .ok (.goto 4, 3) := by decide +kernel
theorem dL_strings_268 : decode cL_strings 268 = .ok (.iconst 0, 1) := by decide +kernel
theorem dL_strings_269 : decode cL_strings 269 = .ok (.ireturn, 1) := by decide +kernel
theorem dL_strings_270 : decode cL_strings 270 = .ok (.iload 7, 2) := by decide +kernel
theorem dL_strings_272 : decode cL_strings 272 = .ok (.bipush 7, 2) := by decide +kernel
theorem dL_strings_274 : decode cL_strings 274 = .ok (.if_icmp .ge 74, 3) := by decide +kernel
theorem dL_strings_277 : decode cL_strings 277 = .ok (.iload 8, 2) := by decide +kernel
theorem dL_strings_279 : decode cL_strings 279 = .ok (.ifCond .le 69, 3) := by decide +kernel
theorem dL_strings_282 : decode cL_strings 282 = .ok (.aload_n 3, 1) := by decide +kernel
theorem dL_strings_283 : decode cL_strings 283 = .ok (.bipush 7, 2) := by decide +kernel
theorem dL_strings_285 : decode cL_strings 285 = .ok (.iaload, 1) := by decide +kernel
theorem dL_strings_286 : decode cL_strings 286 = .ok (.bipush 48, 2) := by decide +kernel
theorem dL_strings_288 : decode cL_strings 288 = .ok (.if_icmp .ge 60, 3) := by decide +kernel
theorem dL_strings_291 : decode cL_strings 291 = .ok (.aload 6, 2) := by decide +kernel
theorem dL_strings_293 : decode cL_strings 293 = .ok (.aload_n 3, 1) := by decide +kernel
theorem dL_strings_294 : decode cL_strings 294 = .ok (.bipush 7, 2) := by decide +kernel
theorem dL_strings_296 : decode cL_strings 296 = .ok (.iaload, 1) := by decide +kernel
theorem dL_strings_297 : decode cL_strings 297 = .ok (.aload_n 3, 1) := by decide +kernel
theorem dL_strings_298 : decode cL_strings 298 = .ok (.bipush 6, 2) := by decide +kernel
theorem dL_strings_300 : decode cL_strings 300 = .ok (.iaload, 1) := by decide +kernel
theorem dL_strings_301 : decode cL_strings 301 = .ok (.iastore, 1) := by decide +kernel
theorem dL_strings_302 : decode cL_strings 302 = .ok (.aload_n 3, 1) := by decide +kernel
theorem dL_strings_303 : decode cL_strings 303 = .ok (.bipush 7, 2) := by decide +kernel
theorem dL_strings_305 : decode cL_strings 305 = .ok (.dup2, 1) := by decide +kernel
theorem dL_strings_306 : decode cL_strings 306 = .ok (.iaload, 1) := by decide +kernel
theorem dL_strings_307 : decode cL_strings 307 = .ok (.iconst 1, 1) := by decide +kernel
theorem dL_strings_308 : decode cL_strings 308 = .ok (.iadd, 1) := by decide +kernel
theorem dL_strings_309 : decode cL_strings 309 = .ok (.iastore, 1) := by decide +kernel
theorem dL_strings_310 : decode cL_strings 310 = .ok (.aload_n 3, 1) := by decide +kernel
theorem dL_strings_311 : decode cL_strings 311 = .ok (.invokestatic 43, 3) := by decide +kernel
theorem dL_strings_314 : decode cL_strings 314 = .ok (.aload_n 0, 1) := by decide +kernel
theorem dL_strings_315 : decode cL_strings 315 = .ok (.invokevirtual 69, 3) := by decide +kernel
theorem dL_strings_318 : decode cL_strings 318 = .ok (.aload_n 3, 1) := by decide +kernel
theorem dL_strings_319 : decode cL_strings 319 = .ok (.aload 4, 2) := by decide +kernel
theorem dL_strings_321 : decode cL_strings 321 = .ok (.aload_n 3, 1) := by decide +kernel
theorem dL_strings_322 : decode cL_strings 322 = .ok (.bipush 6, 2) := by decide +kernel
theorem dL_strings_324 : decode cL_strings 324 = .ok (.iaload, 1) := by decide +kernel
theorem dL_strings_325 : decode cL_strings 325 = .ok (.invokestatic 14, 3) := by decide +kernel
theorem dL_strings_328 : decode cL_strings 328 = .ok (.aload_n 3, 1) := by decide +kernel
theorem dL_strings_329 : decode cL_strings 329 = .ok (.iconst 5, 1) := by decide +kernel
theorem dL_strings_330 : decode cL_strings 330 = .ok (.iaload, 1) := by decide +kernel
theorem dL_strings_331 : decode cL_strings 331 = .ok (.if_icmp .ne 7, 3) := by decide +kernel
theorem dL_strings_334 : decode cL_strings 334 = .ok (.iconst 1, 1) := by decide +kernel
theorem dL_strings_335 : decode cL_strings 335 = .ok (.goto 4, 3) := by decide +kernel
theorem dL_strings_338 : decode cL_strings 338 = .ok (.iconst 0, 1) := by decide +kernel
theorem dL_strings_339 : decode cL_strings 339 = .ok (.if_icmp .ne 7, 3) := by decide +kernel
theorem dL_strings_342 : decode cL_strings 342 = .ok (.iconst 1, 1) := by decide +kernel
theorem dL_strings_343 : decode cL_strings 343 = .ok (.goto 4, 3) := by decide +kernel
theorem dL_strings_346 : decode cL_strings 346 = .ok (.iconst 0, 1) := by decide +kernel
theorem dL_strings_347 : decode cL_strings 347 = .ok (.ireturn, 1) := by decide +kernel
theorem dL_strings_348 : decode cL_strings 348 = .ok (.aload_n 3, 1) := by decide +kernel
theorem dL_strings_349 : decode cL_strings 349 = .ok (.bipush 6, 2) := by decide +kernel
theorem dL_strings_351 : decode cL_strings 351 = .ok (.iaload, 1) := by decide +kernel
theorem dL_strings_352 : decode cL_strings 352 = .ok (.ifCond .ne 5, 3) := by decide +kernel
theorem dL_strings_355 : decode cL_strings 355 = .ok (.iconst 1, 1) := by decide +kernel
theorem dL_strings_356 : decode cL_strings 356 = .ok (.ireturn, 1) := by decide +kernel
theorem dL_strings_357 : decode cL_strings 357 = .ok (.iload 7, 2) := by decide +kernel
theorem dL_strings_359 : decode cL_strings 359 = .ok (.bipush 9, 2) := by decide +kernel
theorem dL_strings_361 : decode cL_strings 361 = .ok (.if_icmp .ne 110, 3) := by decide +kernel
theorem dL_strings_364 : decode cL_strings 364 = .ok (.iload 9, 2) := by decide +kernel
theorem dL_strings_366 : decode cL_strings 366 = .ok (.aload_n 3, 1) := by decide +kernel
theorem dL_strings_367 : decode cL_strings 367 = .ok (.bipush 6, 2) := by decide +kernel
theorem dL_strings_369 : decode cL_strings 369 = .ok (.iaload, 1) := by decide +kernel
theorem dL_strings_370 : decode cL_strings 370 = .ok (.if_icmp .gt 101, 3) := by decide +kernel
theorem dL_strings_373 : decode cL_strings 373 = .ok (.iconst 0, 1) := by decide +kernel
theorem dL_strings_374 : decode cL_strings 374 = .ok (.istore 10, 2) := by decide +kernel
theorem dL_strings_376 : decode cL_strings 376 = .ok (.iload 10, 2) := by decide +kernel
theorem dL_strings_378 : decode cL_strings 378 = .ok (.iload 9, 2) := by decide +kernel
theorem dL_strings_380 : decode cL_strings 380 = .ok (.if_icmp .ge 32, 3) := by decide +kernel
theorem dL_strings_383 : decode cL_strings 383 = .ok (.aload_n 3, 1) := by decide +kernel
theorem dL_strings_384 : decode cL_strings 384 = .ok (.bipush 10, 2) := by decide +kernel
theorem dL_strings_386 : decode cL_strings 386 = .ok (.aload 5, 2) := by decide +kernel
theorem dL_strings_388 : decode cL_strings 388 = .ok (.aload_n 3, 1) := by decide +kernel
theorem dL_strings_389 : decode cL_strings 389 = .ok (.bipush 6, 2) := by decide +kernel
theorem dL_strings_391 : decode cL_strings 391 = .ok (.dup2, 1) := by decide +kernel
theorem dL_strings_392 : decode cL_strings 392 = .ok (.iaload, 1) := by decide +kernel
theorem dL_strings_393 : decode cL_strings 393 = .ok (.iconst 1, 1) := by decide +kernel
theorem dL_strings_394 : decode cL_strings 394 = .ok (.isub, 1) := by decide +kernel
theorem dL_strings_395 : decode cL_strings 395 = .ok (.dup_x2, 1) := by decide +kernel
theorem dL_strings_396 : decode cL_strings 396 = .ok (.iastore, 1) := by decide +kernel
theorem dL_strings_397 : decode cL_strings 397 = .ok (.invokestatic 8, 3) := by decide +kernel
theorem dL_strings_400 : decode cL_strings 400 = .ok (.iadd, 1) := by decide +kernel
theorem dL_strings_401 : decode cL_strings 401 = .ok (.dup2, 1) := by decide +kernel
theorem dL_strings_402 : decode cL_strings 402 = .ok (.iaload, 1) := by decide +kernel
theorem dL_strings_403 : decode cL_strings 403 = .ok (.iconst 1, 1) := by decide +kernel
theorem dL_strings_404 : decode cL_strings 404 = .ok (.iadd, 1) := by decide +kernel
theorem dL_strings_405 : decode cL_strings 405 = .ok (.iastore, 1) := by decide +kernel
theorem dL_strings_406 : decode cL_strings 406 = .ok (.iinc 10 1, 3) := by decide +kernel
theorem dL_strings_409 : decode cL_strings 409 = .ok (.goto (-33), 3) := by decide +kernel
theorem dL_strings_412 : decode cL_strings 412 = .ok (.aload 6, 2) := by decide +kernel
theorem dL_strings_414 : decode cL_strings 414 = .ok (.aload_n 3, 1) := by decide +kernel
theorem dL_strings_415 : decode cL_strings 415 = .ok (.bipush 7, 2) := by decide +kernel
theorem dL_strings_417 : decode cL_strings 417 = .ok (.iaload, 1) := by decide +kernel
theorem dL_strings_418 : decode cL_strings 418 = .ok (.iconst 1, 1) := by decide +kernel
theorem dL_strings_419 : decode cL_strings 419 = .ok (.isub, 1) := by decide +kernel
theorem dL_strings_420 : decode cL_strings 420 = .ok (.iaload, 1) := by decide +kernel
theorem dL_strings_421 : decode cL_strings 421 = .ok (.aload_n 3, 1) := by decide +kernel
theorem dL_strings_422 : decode cL_strings 422 = .ok (.bipush 6, 2) := by decide +kernel
theorem dL_strings_424 : decode cL_strings 424 = .ok (.iaload, 1) := by decide +kernel
theorem dL_strings_425 : decode cL_strings 425 = .ok (.if_icmp .le 14, 3) := by decide +kernel
theorem dL_strings_428 : decode cL_strings 428 = .ok (.aload_n 3, 1) := by decide +kernel
theorem dL_strings_429 : decode cL_strings 429 = .ok (.bipush 7, 2) := by decide +kernel
theorem dL_strings_431 : decode cL_strings 431 = .ok (.dup2, 1) := by decide +kernel
theorem dL_strings_432 : decode cL_strings 432 = .ok (.iaload, 1) := by decide +kernel
theorem dL_strings_433 : decode cL_strings 433 = .ok (.iconst 1, 1) := by decide +kernel
theorem dL_strings_434 : decode cL_strings 434 = .ok (.isub, 1) := by decide +kernel
theorem dL_strings_435 : decode cL_strings 435 = .ok (.iastore, 1) := by decide +kernel
theorem dL_strings_436 : decode cL_strings 436 = .ok (.goto (-24), 3) := by decide +kernel
theorem dL_strings_439 : decode cL_strings 439 = .ok (.aload_n 3, 1) := by decide +kernel
theorem dL_strings_440 : decode cL_strings 440 = .ok (.bipush 8, 2) := by decide +kernel
theorem dL_strings_442 : decode cL_strings 442 = .ok (.dup2, 1) := by decide +kernel
theorem dL_strings_443 : decode cL_strings 443 = .ok (.iaload, 1) := by decide +kernel
theorem dL_strings_444 : decode cL_strings 444 = .ok (.iload 9, 2) := by decide +kernel
theorem dL_strings_446 : decode cL_strings 446 = .ok (.iadd, 1) := by decide +kernel
theorem dL_strings_447 : decode cL_strings 447 = .ok (.iastore, 1) := by decide +kernel
theorem dL_strings_448 : decode cL_strings 448 = .ok (.aload_n 3, 1) := by decide +kernel
theorem dL_strings_449 : decode cL_strings 449 = .ok (.invokestatic 43, 3) := by decide +kernel
theorem dL_strings_452 : decode cL_strings 452 = .ok (.aload_n 0, 1) := by decide +kernel
theorem dL_strings_453 : decode cL_strings 453 = .ok (.iload 9, 2) := by decide +kernel
theorem dL_strings_455 : decode cL_strings 455 = .ok (.invokevirtual 72, 3) := by decide +kernel
theorem dL_strings_458 : decode cL_strings 458 = .ok (.aload_n 3, 1) := by decide +kernel
theorem dL_strings_459 : decode cL_strings 459 = .ok (.bipush 6, 2) := by decide +kernel
theorem dL_strings_461 : decode cL_strings 461 = .ok (.iaload, 1) := by decide +kernel
theorem dL_strings_462 : decode cL_strings 462 = .ok (.if_icmp .ne 7, 3) := by decide +kernel
theorem dL_strings_465 : decode cL_strings 465 = .ok (.iconst 1, 1) := by decide +kernel
theorem dL_strings_466 : decode cL_strings 466 = .ok (.goto 4, 3) := by decide +kernel
theorem dL_strings_469 : decode cL_strings 469 = .ok (.iconst 0, 1) := by decide +kernel
theorem dL_strings_470 : decode cL_strings 470 = .ok (.ireturn, 1) := by decide +kernel
theorem dL_strings_471 : decode cL_strings 471 = .ok (.iload_n 2, 1) := by decide +kernel
theorem dL_strings_472 : decode cL_strings 472 = .ok (.aload_n 3, 1) := by decide +kernel
theorem dL_strings_473 : decode cL_strings 473 = .ok (.bipush 6, 2) := by decide +kernel
theorem dL_strings_475 : decode cL_strings 475 = .ok (.iaload, 1) := by decide +kernel
theorem dL_strings_476 : decode cL_strings 476 = .ok (.invokestatic 24, 3) := by decide +kernel
theorem dL_strings_479 : decode cL_strings 479 = .ok (.istore 10, 2) := by decide +kernel
theorem dL_strings_481 : decode cL_strings 481 = .ok (.aload_n 3, 1) := by decide +kernel
theorem dL_strings_482 : decode cL_strings 482 = .ok (.bipush 22, 2) := by decide +kernel
theorem dL_strings_484 : decode cL_strings 484 = .ok (.aload 5, 2) := by decide +kernel
theorem dL_strings_486 : decode cL_strings 486 = .ok (.iload 10, 2) := by decide +kernel
theorem dL_strings_488 : decode cL_strings 488 = .ok (.invokestatic 8, 3) := by decide +kernel
theorem dL_strings_491 : decode cL_strings 491 = .ok (.iadd, 1) := by decide +kernel
theorem dL_strings_492 : decode cL_strings 492 = .ok (.dup2, 1) := by decide +kernel
theorem dL_strings_493 : decode cL_strings 493 = .ok (.iaload, 1) := by decide +kernel
theorem dL_strings_494 : decode cL_strings 494 = .ok (.iconst 1, 1) := by decide +kernel
theorem dL_strings_495 : decode cL_strings 495 = .ok (.iadd, 1) := by decide +kernel
theorem dL_strings_496 : decode cL_strings 496 = .ok (.iastore, 1) := by decide +kernel
theorem dL_strings_497 : decode cL_strings 497 = .ok (.iload 10, 2) := by decide +kernel
theorem dL_strings_499 : decode cL_strings 499 = .ok (.istore 11, 2) := by decide +kernel
theorem dL_strings_501 : decode cL_strings 501 = .ok (.iload 11, 2) := by decide +kernel
theorem dL_strings_503 : decode cL_strings 503 = .ok (.iconst 1, 1) := by decide +kernel
theorem dL_strings_504 : decode cL_strings 504 = .ok (.iadd, 1) := by decide +kernel
theorem dL_strings_505 : decode cL_strings 505 = .ok (.aload_n 3, 1) := by decide +kernel
theorem dL_strings_506 : decode cL_strings 506 = .ok (.bipush 6, 2) := by decide +kernel
theorem dL_strings_508 : decode cL_strings 508 = .ok (.iaload, 1) := by decide +kernel
theorem dL_strings_509 : decode cL_strings 509 = .ok (.if_icmp .ge 25, 3) := by decide +kernel
theorem dL_strings_512 : decode cL_strings 512 = .ok (.aload 5, 2) := by decide +kernel
theorem dL_strings_514 : decode cL_strings 514 = .ok (.iload 11, 2) := by decide +kernel
theorem dL_strings_516 : decode cL_strings 516 = .ok (.aload 5, 2) := by decide +kernel
theorem dL_strings_518 : decode cL_strings 518 = .ok (.iload 11, 2) := by decide +kernel
theorem dL_strings_520 : decode cL_strings 520 = .ok (.iconst 1, 1) := by decide +kernel
theorem dL_strings_521 : decode cL_strings 521 = .ok (.iadd, 1) := by decide +kernel
theorem dL_strings_522 : decode cL_strings 522 = .ok (.invokestatic 8, 3) := by decide +kernel
theorem dL_strings_525 : decode cL_strings 525 = .ok (.invokestatic 36, 3) := by decide +kernel
theorem dL_strings_528 : decode cL_strings 528 = .ok (.iinc 11 1, 3) := by decide +kernel
theorem dL_strings_531 : decode cL_strings 531 = .ok (.goto (-30), 3) := by decide +kernel
theorem dL_strings_534 : decode cL_strings 534 = .ok (.aload_n 3, 1) := by decide +kernel
theorem dL_strings_535 : decode cL_strings 535 = .ok (.bipush 6, 2) := by decide +kernel
theorem dL_strings_537 : decode cL_strings 537 = .ok (.dup2, 1) := by decide +kernel
theorem dL_strings_538 : decode cL_strings 538 = .ok (.iaload, 1) := by decide +kernel
theorem dL_strings_539 : decode cL_strings 539 = .ok (.iconst 1, 1) := by decide +kernel
theorem dL_strings_540 : decode cL_strings 540 = .ok (.isub, 1) := by decide +kernel
theorem dL_strings_541 : decode cL_strings 541 = .ok (.iastore, 1) := by decide +kernel
theorem dL_strings_542 : decode cL_strings 542 = .ok (.iconst 0, 1) := by decide +kernel
theorem dL_strings_543 : decode cL_strings 543 = .ok (.istore 11, 2) := by decide +kernel
theorem dL_strings_545 : decode cL_strings 545 = .ok (.iconst 1, 1) := by decide +kernel
theorem dL_strings_546 : decode cL_strings 546 = .ok (.istore 12, 2) := by decide +kernel
theorem dL_strings_548 : decode cL_strings 548 = .ok (.iload 12, 2) := by decide +kernel
theorem dL_strings_550 : decode cL_strings 550 = .ok (.aload_n 3, 1) := by decide +kernel
theorem dL_strings_551 : decode cL_strings 551 = .ok (.bipush 7, 2) := by decide +kernel
theorem dL_strings_553 : decode cL_strings 553 = .ok (.iaload, 1) := by decide +kernel
theorem dL_strings_554 : decode cL_strings 554 = .ok (.if_icmp .ge 35, 3) := by decide +kernel
theorem dL_strings_557 : decode cL_strings 557 = .ok (.aload 6, 2) := by decide +kernel
theorem dL_strings_559 : decode cL_strings 559 = .ok (.iload 12, 2) := by decide +kernel
theorem dL_strings_561 : decode cL_strings 561 = .ok (.iaload, 1) := by decide +kernel
theorem dL_strings_562 : decode cL_strings 562 = .ok (.iload 10, 2) := by decide +kernel
theorem dL_strings_564 : decode cL_strings 564 = .ok (.if_icmp .le 15, 3) := by decide +kernel
theorem dL_strings_567 : decode cL_strings 567 = .ok (.aload 6, 2) := by decide +kernel
theorem dL_strings_569 : decode cL_strings 569 = .ok (.iload 12, 2) := by decide +kernel
theorem dL_strings_571 : decode cL_strings 571 = .ok (.dup2, 1) := by decide +kernel
theorem dL_strings_572 : decode cL_strings 572 = .ok (.iaload, 1) := by decide +kernel
theorem dL_strings_573 : decode cL_strings 573 = .ok (.iconst 1, 1) := by decide +kernel
theorem dL_strings_574 : decode cL_strings 574 = .ok (.isub, 1) := by decide +kernel
theorem dL_strings_575 : decode cL_strings 575 = .ok (.iastore, 1) := by decide +kernel
theorem dL_strings_576 : decode cL_strings 576 = .ok (.goto 7, 3) := by decide +kernel
theorem dL_strings_579 : decode cL_strings 579 = .ok (.iload 12, 2) := by decide +kernel
theorem dL_strings_581 : decode cL_strings 581 = .ok (.istore 11, 2) := by decide +kernel
theorem dL_strings_583 : decode cL_strings 583 = .ok (.iinc 12 1, 3) := by decide +kernel
theorem dL_strings_586 : decode cL_strings 586 = .ok (.goto (-38), 3) := by decide +kernel
theorem dL_strings_589 : decode cL_strings 589 = .ok (.iload 11, 2) := by decide +kernel
theorem dL_strings_591 : decode cL_strings 591 = .ok (.iconst 1, 1) := by decide +kernel
theorem dL_strings_592 : decode cL_strings 592 = .ok (.iadd, 1) := by decide +kernel
theorem dL_strings_593 : decode cL_strings 593 = .ok (.aload_n 3, 1) := by decide +kernel
theorem dL_strings_594 : decode cL_strings 594 = .ok (.bipush 7, 2) := by decide +kernel
theorem dL_strings_596 : decode cL_strings 596 = .ok (.iaload, 1) := by decide +kernel
theorem dL_strings_597 : decode cL_strings 597 = .ok (.if_icmp .ge 61, 3) := by decide +kernel
theorem dL_strings_600 : decode cL_strings 600 = .ok (.aload 6, 2) := by decide +kernel
theorem dL_strings_602 : decode cL_strings 602 = .ok (.iload 11, 2) := by decide +kernel
theorem dL_strings_604 : decode cL_strings 604 = .ok (.iconst 1, 1) := by decide +kernel
theorem dL_strings_605 : decode cL_strings 605 = .ok (.iadd, 1) := by decide +kernel
theorem dL_strings_606 : decode cL_strings 606 = .ok (.iaload, 1) := by decide +kernel
theorem dL_strings_607 : decode cL_strings 607 = .ok (.aload 6, 2) := by decide +kernel
theorem dL_strings_609 : decode cL_strings 609 = .ok (.iload 11, 2) := by decide +kernel
theorem dL_strings_611 : decode cL_strings 611 = .ok (.iaload, 1) := by decide +kernel
theorem dL_strings_612 : decode cL_strings 612 = .ok (.if_icmp .ne 46, 3) := by decide +kernel
theorem dL_strings_615 : decode cL_strings 615 = .ok (.iload 11, 2) := by decide +kernel
theorem dL_strings_617 : decode cL_strings 617 = .ok (.iconst 1, 1) := by decide +kernel
theorem dL_strings_618 : decode cL_strings 618 = .ok (.iadd, 1) := by decide +kernel
theorem dL_strings_619 : decode cL_strings 619 = .ok (.istore 12, 2) := by decide +kernel
theorem dL_strings_621 : decode cL_strings 621 = .ok (.iload 12, 2) := by decide +kernel
theorem dL_strings_623 : decode cL_strings 623 = .ok (.iconst 1, 1) := by decide +kernel
theorem dL_strings_624 : decode cL_strings 624 = .ok (.iadd, 1) := by decide +kernel
theorem dL_strings_625 : decode cL_strings 625 = .ok (.aload_n 3, 1) := by decide +kernel
theorem dL_strings_626 : decode cL_strings 626 = .ok (.bipush 7, 2) := by decide +kernel
theorem dL_strings_628 : decode cL_strings 628 = .ok (.iaload, 1) := by decide +kernel
theorem dL_strings_629 : decode cL_strings 629 = .ok (.if_icmp .ge 21, 3) := by decide +kernel
theorem dL_strings_632 : decode cL_strings 632 = .ok (.aload 6, 2) := by decide +kernel
theorem dL_strings_634 : decode cL_strings 634 = .ok (.iload 12, 2) := by decide +kernel
theorem dL_strings_636 : decode cL_strings 636 = .ok (.aload 6, 2) := by decide +kernel
theorem dL_strings_638 : decode cL_strings 638 = .ok (.iload 12, 2) := by decide +kernel
theorem dL_strings_640 : decode cL_strings 640 = .ok (.iconst 1, 1) := by decide +kernel
theorem dL_strings_641 : decode cL_strings 641 = .ok (.iadd, 1) := by decide +kernel
theorem dL_strings_642 : decode cL_strings 642 = .ok (.iaload, 1) := by decide +kernel
theorem dL_strings_643 : decode cL_strings 643 = .ok (.iastore, 1) := by decide +kernel
theorem dL_strings_644 : decode cL_strings 644 = .ok (.iinc 12 1, 3) := by decide +kernel
theorem dL_strings_647 : decode cL_strings 647 = .ok (.goto (-26), 3) := by decide +kernel
theorem dL_strings_650 : decode cL_strings 650 = .ok (.aload_n 3, 1) := by decide +kernel
theorem dL_strings_651 : decode cL_strings 651 = .ok (.bipush 7, 2) := by decide +kernel
theorem dL_strings_653 : decode cL_strings 653 = .ok (.dup2, 1) := by decide +kernel
theorem dL_strings_654 : decode cL_strings 654 = .ok (.iaload, 1) := by decide +kernel
theorem dL_strings_655 : decode cL_strings 655 = .ok (.iconst 1, 1) := by decide +kernel
theorem dL_strings_656 : decode cL_strings 656 = .ok (.isub, 1) := by decide +kernel
theorem dL_strings_657 : decode cL_strings 657 = .ok (.iastore, 1) := by decide +kernel
theorem dL_strings_658 : decode cL_strings 658 = .ok (.aload_n 3, 1) := by decide +kernel
theorem dL_strings_659 : decode cL_strings 659 = .ok (.invokestatic 43, 3) := by decide +kernel
theorem dL_strings_662 : decode cL_strings 662 = .ok (.aload_n 0, 1) := by decide +kernel
theorem dL_strings_663 : decode cL_strings 663 = .ok (.iload 10, 2) := by decide +kernel
theorem dL_strings_665 : decode cL_strings 665 = .ok (.invokevirtual 75, 3) := by decide +kernel
theorem dL_strings_668 : decode cL_strings 668 = .ok (.aload_n 3, 1) := by decide +kernel
theorem dL_strings_669 : decode cL_strings 669 = .ok (.bipush 6, 2) := by decide +kernel
theorem dL_strings_671 : decode cL_strings 671 = .ok (.iaload, 1) := by decide +kernel
theorem dL_strings_672 : decode cL_strings 672 = .ok (.if_icmp .ne 7, 3) := by decide +kernel
theorem dL_strings_675 : decode cL_strings 675 = .ok (.iconst 1, 1) := by decide +kernel
theorem dL_strings_676 : decode cL_strings 676 = .ok (.goto 4, 3) := by decide +kernel
theorem dL_strings_679 : decode cL_strings 679 = .ok (.iconst 0, 1) := by decide +kernel
theorem dL_strings_680 : decode cL_strings 680 = .ok (.ireturn, 1) := by decide +kernel
theorem dL_agree_0 : decode cL_agree 0 = .ok (.iconst 0, 1) := by decide +kernel
theorem dL_agree_1 : decode cL_agree 1 = .ok (.istore 5, 2) := by decide +kernel
theorem dL_agree_3 : decode cL_agree 3 = .ok (.iconst 0, 1) := by decide +kernel
theorem dL_agree_4 : decode cL_agree 4 = .ok (.istore 6, 2) := by decide +kernel
theorem dL_agree_6 : decode cL_agree 6 = .ok (.iconst 0, 1) := by decide +kernel
theorem dL_agree_7 : decode cL_agree 7 = .ok (.istore 7, 2) := by decide +kernel
theorem dL_agree_9 : decode cL_agree 9 = .ok (.iconst 0, 1) := by decide +kernel
theorem dL_agree_10 : decode cL_agree 10 = .ok (.istore 8, 2) := by decide +kernel
theorem dL_agree_12 : decode cL_agree 12 = .ok (.iconst 0, 1) := by decide +kernel
theorem dL_agree_13 : decode cL_agree 13 = .ok (.istore 9, 2) := by decide +kernel
theorem dL_agree_15 : decode cL_agree 15 = .ok (.iload 9, 2) := by decide +kernel
theorem dL_agree_17 : decode cL_agree 17 = .ok (.bipush 6, 2) := by decide +kernel
theorem dL_agree_19 : decode cL_agree 19 = .ok (.if_icmp .ge 233, 3) := by decide +kernel
theorem dL_agree_22 : decode cL_agree 22 = .ok (.iconst 0, 1) := by decide +kernel
theorem dL_agree_23 : decode cL_agree 23 = .ok (.istore 10, 2) := by decide +kernel
theorem dL_agree_25 : decode cL_agree 25 = .ok (.iconst 0, 1) := by decide +kernel
theorem dL_agree_26 : decode cL_agree 26 = .ok (.istore 11, 2) := by decide +kernel
theorem dL_agree_28 : decode cL_agree 28 = .ok (.iconst 0, 1) := by decide +kernel
theorem dL_agree_29 : decode cL_agree 29 = .ok (.istore 12, 2) := by decide +kernel
theorem dL_agree_31 : decode cL_agree 31 = .ok (.iload 12, 2) := by decide +kernel
theorem dL_agree_33 : decode cL_agree 33 = .ok (.aload_n 1, 1) := by decide +kernel
theorem dL_agree_34 : decode cL_agree 34 = .ok (.bipush 6, 2) := by decide +kernel
theorem dL_agree_36 : decode cL_agree 36 = .ok (.iaload, 1) := by decide +kernel
theorem dL_agree_37 : decode cL_agree 37 = .ok (.if_icmp .ge 23, 3) := by decide +kernel
theorem dL_agree_40 : decode cL_agree 40 = .ok (.aload_n 3, 1) := by decide +kernel
theorem dL_agree_41 : decode cL_agree 41 = .ok (.iload 12, 2) := by decide +kernel
theorem dL_agree_43 : decode cL_agree 43 = .ok (.invokestatic 8, 3) := by decide +kernel
theorem dL_agree_46 : decode cL_agree 46 = .ok (.iload 9, 2) := by decide +kernel
theorem dL_agree_48 : decode cL_agree 48 = .ok (.if_icmp .ne 6, 3) := by decide +kernel
theorem dL_agree_51 : decode cL_agree 51 = .ok (.iinc 10 1, 3) := by decide +kernel
theorem dL_agree_54 : decode cL_agree 54 = .ok (.iinc 12 1, 3) := by decide +kernel
theorem dL_agree_57 : decode cL_agree 57 = .ok (.goto (-26), 3) := by decide +kernel
theorem dL_agree_60 : decode cL_agree 60 = .ok (.iconst 0, 1) := by decide +kernel
theorem dL_agree_61 : decode cL_agree 61 = .ok (.istore 12, 2) := by decide +kernel
theorem dL_agree_63 : decode cL_agree 63 = .ok (.iload 12, 2) := by decide +kernel
theorem dL_agree_65 : decode cL_agree 65 = .ok (.bipush 12, 2) := by decide +kernel
theorem dL_agree_67 : decode cL_agree 67 = .ok (.aload_n 1, 1) := by decide +kernel
theorem dL_agree_68 : decode cL_agree 68 = .ok (.iconst 0, 1) := by decide +kernel
theorem dL_agree_69 : decode cL_agree 69 = .ok (.iaload, 1) := by decide +kernel
theorem dL_agree_70 : decode cL_agree 70 = .ok (.imul, 1) := by decide +kernel
theorem dL_agree_71 : decode cL_agree 71 = .ok (.if_icmp .ge 34, 3) := by decide +kernel
theorem dL_agree_74 : decode cL_agree 74 = .ok (.iload 12, 2) := by decide +kernel
theorem dL_agree_76 : decode cL_agree 76 = .ok (.bipush 12, 2) := by decide +kernel
theorem dL_agree_78 : decode cL_agree 78 = .ok (.irem, 1) := by decide +kernel
theorem dL_agree_79 : decode cL_agree 79 = .ok (.aload_n 1, 1) := by decide +kernel
theorem dL_agree_80 : decode cL_agree 80 = .ok (.iconst 1, 1) := by decide +kernel
theorem dL_agree_81 : decode cL_agree 81 = .ok (.iaload, 1) := by decide +kernel
theorem dL_agree_82 : decode cL_agree 82 = .ok (.if_icmp .ge 17, 3) := by decide +kernel
theorem dL_agree_85 : decode cL_agree 85 = .ok (.aload_n 2, 1) := by decide +kernel
theorem dL_agree_86 : decode cL_agree 86 = .ok (.iload 12, 2) := by decide +kernel
theorem dL_agree_88 : decode cL_agree 88 = .ok (.invokestatic 8, 3) := by decide +kernel
theorem dL_agree_91 : decode cL_agree 91 = .ok (.iload 9, 2) := by decide +kernel
theorem dL_agree_93 : decode cL_agree 93 = .ok (.if_icmp .ne 6, 3) := by decide +kernel
theorem dL_agree_96 : decode cL_agree 96 = .ok (.iinc 11 1, 3) := by decide +kernel
theorem dL_agree_99 : decode cL_agree 99 = .ok (.iinc 12 1, 3) := by decide +kernel
theorem dL_agree_102 : decode cL_agree 102 = .ok (.goto (-39), 3) := by decide +kernel
theorem dL_agree_105 : decode cL_agree 105 = .ok (.iload 5, 2) := by decide +kernel
theorem dL_agree_107 : decode cL_agree 107 = .ok (.aload_n 1, 1) := by decide +kernel
theorem dL_agree_108 : decode cL_agree 108 = .ok (.bipush 10, 2) := by decide +kernel
theorem dL_agree_110 : decode cL_agree 110 = .ok (.iload 9, 2) := by decide +kernel
theorem dL_agree_112 : decode cL_agree 112 = .ok (.iadd, 1) := by decide +kernel
theorem dL_agree_113 : decode cL_agree 113 = .ok (.iaload, 1) := by decide +kernel
theorem dL_agree_114 : decode cL_agree 114 = .ok (.iadd, 1) := by decide +kernel
theorem dL_agree_115 : decode cL_agree 115 = .ok (.istore 5, 2) := by decide +kernel
theorem dL_agree_117 : decode cL_agree 117 = .ok (.iload 6, 2) := by decide +kernel
theorem dL_agree_119 : decode cL_agree 119 = .ok (.aload_n 1, 1) := by decide +kernel
theorem dL_agree_120 : decode cL_agree 120 = .ok (.bipush 16, 2) := by decide +kernel
theorem dL_agree_122 : decode cL_agree 122 = .ok (.iload 9, 2) := by decide +kernel
theorem dL_agree_124 : decode cL_agree 124 = .ok (.iadd, 1) := by decide +kernel
theorem dL_agree_125 : decode cL_agree 125 = .ok (.iaload, 1) := by decide +kernel
theorem dL_agree_126 : decode cL_agree 126 = .ok (.iadd, 1) := by decide +kernel
theorem dL_agree_127 : decode cL_agree 127 = .ok (.istore 6, 2) := by decide +kernel
theorem dL_agree_129 : decode cL_agree 129 = .ok (.iload 7, 2) := by decide +kernel
theorem dL_agree_131 : decode cL_agree 131 = .ok (.aload_n 1, 1) := by decide +kernel
theorem dL_agree_132 : decode cL_agree 132 = .ok (.bipush 22, 2) := by decide +kernel
theorem dL_agree_134 : decode cL_agree 134 = .ok (.iload 9, 2) := by decide +kernel
theorem dL_agree_136 : decode cL_agree 136 = .ok (.iadd, 1) := by decide +kernel
theorem dL_agree_137 : decode cL_agree 137 = .ok (.iaload, 1) := by decide +kernel
theorem dL_agree_138 : decode cL_agree 138 = .ok (.iadd, 1) := by decide +kernel
theorem dL_agree_139 : decode cL_agree 139 = .ok (.istore 7, 2) := by decide +kernel
theorem dL_agree_141 : decode cL_agree 141 = .ok (.aload_n 0, 1) := by decide +kernel
theorem dL_agree_142 : decode cL_agree 142 = .ok (.iload 9, 2) := by decide +kernel
theorem dL_agree_144 : decode cL_agree 144 = .ok (.iconst 0, 1) := by decide +kernel
theorem dL_agree_145 : decode cL_agree 145 = .ok (.invokevirtual 78, 3) := by decide +kernel
theorem dL_agree_148 : decode cL_agree 148 = .ok (.aload_n 1, 1) := by decide +kernel
theorem dL_agree_149 : decode cL_agree 149 = .ok (.bipush 10, 2) := by decide +kernel
theorem dL_agree_151 : decode cL_agree 151 = .ok (.iload 9, 2) := by decide +kernel
theorem dL_agree_153 : decode cL_agree 153 = .ok (.iadd, 1) := by decide +kernel
theorem dL_agree_154 : decode cL_agree 154 = .ok (.iaload, 1) := by decide +kernel
theorem dL_agree_155 : decode cL_agree 155 = .ok (.if_icmp .ne 89, 3) := by decide +kernel
theorem dL_agree_158 : decode cL_agree 158 = .ok (.aload_n 0, 1) := by decide +kernel
theorem dL_agree_159 : decode cL_agree 159 = .ok (.iload 9, 2) := by decide +kernel
theorem dL_agree_161 : decode cL_agree 161 = .ok (.iconst 1, 1) := by decide +kernel
theorem dL_agree_162 : decode cL_agree 162 = .ok (.invokevirtual 78, 3) := by decide +kernel
theorem dL_agree_165 : decode cL_agree 165 = .ok (.aload_n 1, 1) := by decide +kernel
theorem dL_agree_166 : decode cL_agree 166 = .ok (.bipush 16, 2) := by decide +kernel
theorem dL_agree_168 : decode cL_agree 168 = .ok (.iload 9, 2) := by decide +kernel
theorem dL_agree_170 : decode cL_agree 170 = .ok (.iadd, 1) := by decide +kernel
theorem dL_agree_171 : decode cL_agree 171 = .ok (.iaload, 1) := by decide +kernel
theorem dL_agree_172 : decode cL_agree 172 = .ok (.if_icmp .ne 72, 3) := by decide +kernel
theorem dL_agree_175 : decode cL_agree 175 = .ok (.aload_n 0, 1) := by decide +kernel
theorem dL_agree_176 : decode cL_agree 176 = .ok (.iload 9, 2) := by decide +kernel
theorem dL_agree_178 : decode cL_agree 178 = .ok (.iconst 2, 1) := by decide +kernel
theorem dL_agree_179 : decode cL_agree 179 = .ok (.invokevirtual 78, 3) := by decide +kernel
theorem dL_agree_182 : decode cL_agree 182 = .ok (.iload 10, 2) := by decide +kernel
theorem dL_agree_184 : decode cL_agree 184 = .ok (.if_icmp .ne 60, 3) := by decide +kernel
theorem dL_agree_187 : decode cL_agree 187 = .ok (.aload_n 0, 1) := by decide +kernel
theorem dL_agree_188 : decode cL_agree 188 = .ok (.iload 9, 2) := by decide +kernel
theorem dL_agree_190 : decode cL_agree 190 = .ok (.iconst 3, 1) := by decide +kernel
theorem dL_agree_191 : decode cL_agree 191 = .ok (.invokevirtual 78, 3) := by decide +kernel
theorem dL_agree_194 : decode cL_agree 194 = .ok (.aload_n 1, 1) := by decide +kernel
theorem dL_agree_195 : decode cL_agree 195 = .ok (.bipush 22, 2) := by decide +kernel
theorem dL_agree_197 : decode cL_agree 197 = .ok (.iload 9, 2) := by decide +kernel
theorem dL_agree_199 : decode cL_agree 199 = .ok (.iadd, 1) := by decide +kernel
theorem dL_agree_200 : decode cL_agree 200 = .ok (.iaload, 1) := by decide +kernel
theorem dL_agree_201 : decode cL_agree 201 = .ok (.if_icmp .ne 43, 3) := by decide +kernel
theorem dL_agree_204 : decode cL_agree 204 = .ok (.aload_n 0, 1) := by decide +kernel
theorem dL_agree_205 : decode cL_agree 205 = .ok (.iload 9, 2) := by decide +kernel
theorem dL_agree_207 : decode cL_agree 207 = .ok (.iconst 4, 1) := by decide +kernel
theorem dL_agree_208 : decode cL_agree 208 = .ok (.invokevirtual 78, 3) := by decide +kernel
theorem dL_agree_211 : decode cL_agree 211 = .ok (.iload 11, 2) := by decide +kernel
theorem dL_agree_213 : decode cL_agree 213 = .ok (.if_icmp .ne 31, 3) := by decide +kernel
theorem dL_agree_216 : decode cL_agree 216 = .ok (.aload_n 1, 1) := by decide +kernel
theorem dL_agree_217 : decode cL_agree 217 = .ok (.bipush 16, 2) := by decide +kernel
theorem dL_agree_219 : decode cL_agree 219 = .ok (.iload 9, 2) := by decide +kernel
theorem dL_agree_221 : decode cL_agree 221 = .ok (.iadd, 1) := by decide +kernel
theorem dL_agree_222 : decode cL_agree 222 = .ok (.iaload, 1) := by decide +kernel
theorem dL_agree_223 : decode cL_agree 223 = .ok (.aload_n 1, 1) := by decide +kernel
theorem dL_agree_224 : decode cL_agree 224 = .ok (.bipush 10, 2) := by decide +kernel
theorem dL_agree_226 : decode cL_agree 226 = .ok (.iload 9, 2) := by decide +kernel
theorem dL_agree_228 : decode cL_agree 228 = .ok (.iadd, 1) := by decide +kernel
theorem dL_agree_229 : decode cL_agree 229 = .ok (.iaload, 1) := by decide +kernel
theorem dL_agree_230 : decode cL_agree 230 = .ok (.iload 10, 2) := by decide +kernel
theorem dL_agree_232 : decode cL_agree 232 = .ok (.iadd, 1) := by decide +kernel
theorem dL_agree_233 : decode cL_agree 233 = .ok (.aload_n 1, 1) := by decide +kernel
theorem dL_agree_234 : decode cL_agree 234 = .ok (.bipush 22, 2) := by decide +kernel
theorem dL_agree_236 : decode cL_agree 236 = .ok (.iload 9, 2) := by decide +kernel
theorem dL_agree_238 : decode cL_agree 238 = .ok (.iadd, 1) := by decide +kernel
theorem dL_agree_239 : decode cL_agree 239 = .ok (.iaload, 1) := by decide +kernel
theorem dL_agree_240 : decode cL_agree 240 = .ok (.iadd, 1) := by decide +kernel
theorem dL_agree_241 : decode cL_agree 241 = .ok (.if_icmp .eq 5, 3) := by decide +kernel
theorem dL_agree_244 : decode cL_agree 244 = .ok (.iconst 0, 1) := by decide +kernel
theorem dL_agree_245 : decode cL_agree 245 = .ok (.ireturn, 1) := by decide +kernel
theorem dL_agree_246 : decode cL_agree 246 = .ok (.iinc 9 1, 3) := by decide +kernel
theorem dL_agree_249 : decode cL_agree 249 = .ok (.goto (-234), 3) := by decide +kernel
theorem dL_agree_252 : decode cL_agree 252 = .ok (.iconst 0, 1) := by decide +kernel
theorem dL_agree_253 : decode cL_agree 253 = .ok (.istore 9, 2) := by decide +kernel
theorem dL_agree_255 : decode cL_agree 255 = .ok (.iload 9, 2) := by decide +kernel
theorem dL_agree_257 : decode cL_agree 257 = .ok (.aload_n 1, 1) := by decide +kernel
theorem dL_agree_258 : decode cL_agree 258 = .ok (.bipush 7, 2) := by decide +kernel
theorem dL_agree_260 : decode cL_agree 260 = .ok (.iaload, 1) := by decide +kernel
theorem dL_agree_261 : decode cL_agree 261 = .ok (.if_icmp .ge 146, 3) := by decide +kernel
theorem dL_agree_264 : decode cL_agree 264 = .ok (.iload 9, 2) := by decide +kernel
theorem dL_agree_266 : decode cL_agree 266 = .ok (.iconst 1, 1) := by decide +kernel
theorem dL_agree_267 : decode cL_agree 267 = .ok (.iadd, 1) := by decide +kernel
theorem dL_agree_268 : decode cL_agree 268 = .ok (.aload_n 1, 1) := by decide +kernel
theorem dL_agree_269 : decode cL_agree 269 = .ok (.bipush 7, 2) := by decide +kernel
theorem dL_agree_271 : decode cL_agree 271 = .ok (.iaload, 1) := by decide +kernel
theorem dL_agree_272 : decode cL_agree 272 = .ok (.if_icmp .ge 13, 3) := by decide +kernel
theorem dL_agree_275 : decode cL_agree 275 = .ok (.aload 4, 2) := by decide +kernel
theorem dL_agree_277 : decode cL_agree 277 = .ok (.iload 9, 2) := by decide +kernel
theorem dL_agree_279 : decode cL_agree 279 = .ok (.iconst 1, 1) := by decide +kernel
theorem dL_agree_280 : decode cL_agree 280 = .ok (.iadd, 1) := by decide +kernel
theorem dL_agree_281 : decode cL_agree 281 = .ok (.iaload, 1) := by decide +kernel
theorem dL_agree_282 : decode cL_agree 282 = .ok (.goto 7, 3) := by decide +kernel
theorem dL_agree_285 : decode cL_agree 285 = .ok (.aload_n 1, 1) := by decide +kernel
theorem dL_agree_286 : decode cL_agree 286 = .ok (.bipush 6, 2) := by decide +kernel
theorem dL_agree_288 : decode cL_agree 288 = .ok (.iaload, 1) := by decide +kernel
theorem dL_agree_289 : decode cL_agree 289 = .ok (.istore 10, 2) := by decide +kernel
theorem dL_agree_291 : decode cL_agree 291 = .ok (.iload 9, 2) := by decide +kernel
theorem dL_agree_293 : decode cL_agree 293 = .ok (.ifCond .ne 7, 3) := by decide +kernel
theorem dL_agree_296 : decode cL_agree 296 = .ok (.iconst (-1), 1) := by decide +kernel
theorem dL_agree_297 : decode cL_agree 297 = .ok (.goto 24, 3) := by decide +kernel
theorem dL_agree_300 : decode cL_agree 300 = .ok (.aload_n 1, 1) := by decide +kernel
theorem dL_agree_301 : decode cL_agree 301 = .ok (.aload_n 2, 1) := by decide +kernel
theorem dL_agree_302 : decode cL_agree 302 = .ok (.aload 4, 2) := by decide +kernel
theorem dL_agree_304 : decode cL_agree 304 = .ok (.iload 9, 2) := by decide +kernel
theorem dL_agree_306 : decode cL_agree 306 = .ok (.iaload, 1) := by decide +kernel
theorem dL_agree_307 : decode cL_agree 307 = .ok (.invokestatic 14, 3) := by decide +kernel
theorem dL_agree_310 : decode cL_agree 310 = .ok (.aload_n 1, 1) := by decide +kernel
theorem dL_agree_311 : decode cL_agree 311 = .ok (.iconst 5, 1) := by decide +kernel
theorem dL_agree_312 : decode cL_agree 312 = .ok (.iaload, 1) := by decide +kernel
theorem dL_agree_313 : decode cL_agree 313 = .ok (.if_icmp .ne 7, 3) := by decide +kernel
theorem dL_agree_316 : decode cL_agree 316 = .ok (.iconst 1, 1) := by decide +kernel
theorem dL_agree_317 : decode cL_agree 317 = .ok (.goto 4, 3) := by decide +kernel
theorem dL_agree_320 : decode cL_agree 320 = .ok (.iconst 0, 1) := by decide +kernel
theorem dL_agree_321 : decode cL_agree 321 = .ok (.istore 11, 2) := by decide +kernel
theorem dL_agree_323 : decode cL_agree 323 = .ok (.iload 11, 2) := by decide +kernel
theorem dL_agree_325 : decode cL_agree 325 = .ok (.ifCond .ne 6, 3) := by decide +kernel
theorem dL_agree_328 : decode cL_agree 328 = .ok (.iinc 8 1, 3) := by decide +kernel
theorem dL_agree_331 : decode cL_agree 331 = .ok (.aload_n 0, 1) := by decide +kernel
theorem dL_agree_332 : decode cL_agree 332 = .ok (.iload 9, 2) := by decide +kernel
theorem dL_agree_334 : decode cL_agree 334 = .ok (.iconst 0, 1) := by decide +kernel
theorem dL_agree_335 : decode cL_agree 335 = .ok (.invokevirtual 80, 3) := by decide +kernel
theorem dL_agree_338 : decode cL_agree 338 = .ok (.aload 4, 2) := by decide +kernel
theorem dL_agree_340 : decode cL_agree 340 = .ok (.iload 9, 2) := by decide +kernel
theorem dL_agree_342 : decode cL_agree 342 = .ok (.iaload, 1) := by decide +kernel
theorem dL_agree_343 : decode cL_agree 343 = .ok (.if_icmp .ne 56, 3) := by decide +kernel
theorem dL_agree_346 : decode cL_agree 346 = .ok (.aload_n 0, 1) := by decide +kernel
theorem dL_agree_347 : decode cL_agree 347 = .ok (.iload 9, 2) := by decide +kernel
theorem dL_agree_349 : decode cL_agree 349 = .ok (.iconst 1, 1) := by decide +kernel
theorem dL_agree_350 : decode cL_agree 350 = .ok (.invokevirtual 80, 3) := by decide +kernel
theorem dL_agree_353 : decode cL_agree 353 = .ok (.iload 10, 2) := by decide +kernel
theorem dL_agree_355 : decode cL_agree 355 = .ok (.aload 4, 2) := by decide +kernel
theorem dL_agree_357 : decode cL_agree 357 = .ok (.iload 9, 2) := by decide +kernel
theorem dL_agree_359 : decode cL_agree 359 = .ok (.iaload, 1) := by decide +kernel
theorem dL_agree_360 : decode cL_agree 360 = .ok (.isub, 1) := by decide +kernel
theorem dL_agree_361 : decode cL_agree 361 = .ok (.if_icmp .ne 38, 3) := by decide +kernel
theorem dL_agree_364 : decode cL_agree 364 = .ok (.aload_n 0, 1) := by decide +kernel
theorem dL_agree_365 : decode cL_agree 365 = .ok (.iload 9, 2) := by decide +kernel
theorem dL_agree_367 : decode cL_agree 367 = .ok (.iconst 2, 1) := by decide +kernel
theorem dL_agree_368 : decode cL_agree 368 = .ok (.invokevirtual 80, 3) := by decide +kernel
theorem dL_agree_371 : decode cL_agree 371 = .ok (.iload 11, 2) := by decide +kernel
theorem dL_agree_373 : decode cL_agree 373 = .ok (.if_icmp .ne 26, 3) := by decide +kernel
theorem dL_agree_376 : decode cL_agree 376 = .ok (.aload_n 0, 1) := by decide +kernel
theorem dL_agree_377 : decode cL_agree 377 = .ok (.iload 9, 2) := by decide +kernel
theorem dL_agree_379 : decode cL_agree 379 = .ok (.iconst 3, 1) := by decide +kernel
theorem dL_agree_380 : decode cL_agree 380 = .ok (.invokevirtual 80, 3) := by decide +kernel
theorem dL_agree_383 : decode cL_agree 383 = .ok (.aload_n 1, 1) := by decide +kernel
theorem dL_agree_384 : decode cL_agree 384 = .ok (.aload_n 2, 1) := by decide +kernel
theorem dL_agree_385 : decode cL_agree 385 = .ok (.aload_n 3, 1) := by decide +kernel
theorem dL_agree_386 : decode cL_agree 386 = .ok (.aload 4, 2) := by decide +kernel
theorem dL_agree_388 : decode cL_agree 388 = .ok (.iload 9, 2) := by decide +kernel
theorem dL_agree_390 : decode cL_agree 390 = .ok (.iaload, 1) := by decide +kernel
theorem dL_agree_391 : decode cL_agree 391 = .ok (.iload 10, 2) := by decide +kernel
theorem dL_agree_393 : decode cL_agree 393 = .ok (.invokestatic 83, 3) := by decide +kernel
theorem dL_agree_396 : decode cL_agree 396 = .ok (.if_icmp .eq 5, 3) := by decide +kernel
theorem dL_agree_399 : decode cL_agree 399 = .ok (.iconst 0, 1) := by decide +kernel
theorem dL_agree_400 : decode cL_agree 400 = .ok (.ireturn, 1) := by decide +kernel
theorem dL_agree_401 : decode cL_agree 401 = .ok (.iinc 9 1, 3) := by decide +kernel
theorem dL_agree_404 : decode cL_agree 404 = .ok (.goto (-149), 3) := by decide +kernel
theorem dL_agree_407 : decode cL_agree 407 = .ok (.iconst 0, 1) := by decide +kernel
theorem dL_agree_408 : decode cL_agree 408 = .ok (.istore 9, 2) := by decide +kernel
theorem dL_agree_410 : decode cL_agree 410 = .ok (.iload 9, 2) := by decide +kernel
theorem dL_agree_412 : decode cL_agree 412 = .ok (.aload_n 1, 1) := by decide +kernel
theorem dL_agree_413 : decode cL_agree 413 = .ok (.bipush 6, 2) := by decide +kernel
theorem dL_agree_415 : decode cL_agree 415 = .ok (.iaload, 1) := by decide +kernel
theorem dL_agree_416 : decode cL_agree 416 = .ok (.if_icmp .ge 55, 3) := by decide +kernel
theorem dL_agree_419 : decode cL_agree 419 = .ok (.aload_n 0, 1) := by decide +kernel
theorem dL_agree_420 : decode cL_agree 420 = .ok (.iload 9, 2) := by decide +kernel
theorem dL_agree_422 : decode cL_agree 422 = .ok (.iconst 0, 1) := by decide +kernel
theorem dL_agree_423 : decode cL_agree 423 = .ok (.invokevirtual 87, 3) := by decide +kernel
theorem dL_agree_426 : decode cL_agree 426 = .ok (.aload_n 3, 1) := by decide +kernel
theorem dL_agree_427 : decode cL_agree 427 = .ok (.iload 9, 2) := by decide +kernel
theorem dL_agree_429 : decode cL_agree 429 = .ok (.invokestatic 8, 3) := by decide +kernel
theorem dL_agree_432 : decode cL_agree 432 = .ok (.if_icmp .ne 20, 3) := by decide +kernel
theorem dL_agree_435 : decode cL_agree 435 = .ok (.aload_n 0, 1) := by decide +kernel
theorem dL_agree_436 : decode cL_agree 436 = .ok (.iload 9, 2) := by decide +kernel
theorem dL_agree_438 : decode cL_agree 438 = .ok (.iconst 0, 1) := by decide +kernel
theorem dL_agree_439 : decode cL_agree 439 = .ok (.invokevirtual 90, 3) := by decide +kernel
theorem dL_agree_442 : decode cL_agree 442 = .ok (.aload_n 1, 1) := by decide +kernel
theorem dL_agree_443 : decode cL_agree 443 = .ok (.aload_n 2, 1) := by decide +kernel
theorem dL_agree_444 : decode cL_agree 444 = .ok (.iload 9, 2) := by decide +kernel
theorem dL_agree_446 : decode cL_agree 446 = .ok (.invokestatic 14, 3) := by decide +kernel
theorem dL_agree_449 : decode cL_agree 449 = .ok (.if_icmp .eq 5, 3) := by decide +kernel
theorem dL_agree_452 : decode cL_agree 452 = .ok (.iconst 0, 1) := by decide +kernel
theorem dL_agree_453 : decode cL_agree 453 = .ok (.ireturn, 1) := by decide +kernel
theorem dL_agree_454 : decode cL_agree 454 = .ok (.iload 9, 2) := by decide +kernel
theorem dL_agree_456 : decode cL_agree 456 = .ok (.iconst 1, 1) := by decide +kernel
theorem dL_agree_457 : decode cL_agree 457 = .ok (.aload_n 1, 1) := by decide +kernel
theorem dL_agree_458 : decode cL_agree 458 = .ok (.bipush 6, 2) := by decide +kernel
theorem dL_agree_460 : decode cL_agree 460 = .ok (.iaload, 1) := by decide +kernel
theorem dL_agree_461 : decode cL_agree 461 = .ok (.bipush 20, 2) := by decide +kernel
theorem dL_agree_463 : decode cL_agree 463 = .ok (.idiv, 1) := by decide +kernel
theorem dL_agree_464 : decode cL_agree 464 = .ok (.iadd, 1) := by decide +kernel
theorem dL_agree_465 : decode cL_agree 465 = .ok (.iadd, 1) := by decide +kernel
theorem dL_agree_466 : decode cL_agree 466 = .ok (.istore 9, 2) := by decide +kernel
theorem dL_agree_468 : decode cL_agree 468 = .ok (.goto (-58), 3) := by decide +kernel
theorem dL_agree_471 : decode cL_agree 471 = .ok (.aload_n 1, 1) := by decide +kernel
theorem dL_agree_472 : decode cL_agree 472 = .ok (.iconst 4, 1) := by decide +kernel
theorem dL_agree_473 : decode cL_agree 473 = .ok (.iaload, 1) := by decide +kernel
theorem dL_agree_474 : decode cL_agree 474 = .ok (.aload_n 1, 1) := by decide +kernel
theorem dL_agree_475 : decode cL_agree 475 = .ok (.bipush 6, 2) := by decide +kernel
theorem dL_agree_477 : decode cL_agree 477 = .ok (.iaload, 1) := by decide +kernel
theorem dL_agree_478 : decode cL_agree 478 = .ok (.isub, 1) := by decide +kernel
theorem dL_agree_479 : decode cL_agree 479 = .ok (.aload 4, 2) := by decide +kernel
theorem dL_agree_481 : decode cL_agree 481 = .ok (.aload_n 1, 1) := by decide +kernel
theorem dL_agree_482 : decode cL_agree 482 = .ok (.bipush 7, 2) := by decide +kernel
theorem dL_agree_484 : decode cL_agree 484 = .ok (.iaload, 1) := by decide +kernel
theorem dL_agree_485 : decode cL_agree 485 = .ok (.iconst 1, 1) := by decide +kernel
theorem dL_agree_486 : decode cL_agree 486 = .ok (.isub, 1) := by decide +kernel
theorem dL_agree_487 : decode cL_agree 487 = .ok (.iaload, 1) := by decide +kernel
theorem dL_agree_488 : decode cL_agree 488 = .ok (.iadd, 1) := by decide +kernel
theorem dL_agree_489 : decode cL_agree 489 = .ok (.istore 9, 2) := by decide +kernel
theorem dL_agree_491 : decode cL_agree 491 = .ok (.aload_n 0, 1) := by decide +kernel
theorem dL_agree_492 : decode cL_agree 492 = .ok (.iconst 0, 1) := by decide +kernel
theorem dL_agree_493 : decode cL_agree 493 = .ok (.invokevirtual 47, 3) := by decide +kernel
theorem dL_agree_496 : decode cL_agree 496 = .ok (.aload_n 1, 1) := by decide +kernel
theorem dL_agree_497 : decode cL_agree 497 = .ok (.iconst 0, 1) := by decide +kernel
theorem dL_agree_498 : decode cL_agree 498 = .ok (.iaload, 1) := by decide +kernel
theorem dL_agree_499 : decode cL_agree 499 = .ok (.if_icmp .ne 150, 3) := by decide +kernel
theorem dL_agree_502 : decode cL_agree 502 = .ok (.aload_n 0, 1) := by decide +kernel
theorem dL_agree_503 : decode cL_agree 503 = .ok (.iconst 1, 1) := by decide +kernel
theorem dL_agree_504 : decode cL_agree 504 = .ok (.invokevirtual 47, 3) := by decide +kernel
theorem dL_agree_507 : decode cL_agree 507 = .ok (.aload_n 1, 1) := by decide +kernel
theorem dL_agree_508 : decode cL_agree 508 = .ok (.iconst 1, 1) := by decide +kernel
theorem dL_agree_509 : decode cL_agree 509 = .ok (.iaload, 1) := by decide +kernel
theorem dL_agree_510 : decode cL_agree 510 = .ok (.if_icmp .ne 139, 3) := by decide +kernel
theorem dL_agree_513 : decode cL_agree 513 = .ok (.aload_n 0, 1) := by decide +kernel
theorem dL_agree_514 : decode cL_agree 514 = .ok (.iconst 2, 1) := by decide +kernel
theorem dL_agree_515 : decode cL_agree 515 = .ok (.invokevirtual 47, 3) := by decide +kernel
theorem dL_agree_518 : decode cL_agree 518 = .ok (.aload_n 1, 1) := by decide +kernel
theorem dL_agree_519 : decode cL_agree 519 = .ok (.bipush 6, 2) := by decide +kernel
theorem dL_agree_521 : decode cL_agree 521 = .ok (.iaload, 1) := by decide +kernel
theorem dL_agree_522 : decode cL_agree 522 = .ok (.if_icmp .ne 127, 3) := by decide +kernel
theorem dL_agree_525 : decode cL_agree 525 = .ok (.aload_n 0, 1) := by decide +kernel
theorem dL_agree_526 : decode cL_agree 526 = .ok (.iconst 3, 1) := by decide +kernel
theorem dL_agree_527 : decode cL_agree 527 = .ok (.invokevirtual 47, 3) := by decide +kernel
theorem dL_agree_530 : decode cL_agree 530 = .ok (.aload_n 1, 1) := by decide +kernel
theorem dL_agree_531 : decode cL_agree 531 = .ok (.bipush 7, 2) := by decide +kernel
theorem dL_agree_533 : decode cL_agree 533 = .ok (.iaload, 1) := by decide +kernel
theorem dL_agree_534 : decode cL_agree 534 = .ok (.if_icmp .ne 115, 3) := by decide +kernel
theorem dL_agree_537 : decode cL_agree 537 = .ok (.aload_n 0, 1) := by decide +kernel
theorem dL_agree_538 : decode cL_agree 538 = .ok (.iconst 4, 1) := by decide +kernel
theorem dL_agree_539 : decode cL_agree 539 = .ok (.invokevirtual 47, 3) := by decide +kernel
theorem dL_agree_542 : decode cL_agree 542 = .ok (.aload_n 1, 1) := by decide +kernel
theorem dL_agree_543 : decode cL_agree 543 = .ok (.aload_n 2, 1) := by decide +kernel
theorem dL_agree_544 : decode cL_agree 544 = .ok (.aload_n 3, 1) := by decide +kernel
theorem dL_agree_545 : decode cL_agree 545 = .ok (.iconst 0, 1) := by decide +kernel
theorem dL_agree_546 : decode cL_agree 546 = .ok (.aload_n 1, 1) := by decide +kernel
theorem dL_agree_547 : decode cL_agree 547 = .ok (.bipush 6, 2) := by decide +kernel
theorem dL_agree_549 : decode cL_agree 549 = .ok (.iaload, 1) := by decide +kernel
theorem dL_agree_550 : decode cL_agree 550 = .ok (.invokestatic 83, 3) := by decide +kernel
theorem dL_agree_553 : decode cL_agree 553 = .ok (.if_icmp .ne 96, 3) := by decide +kernel
theorem dL_agree_556 : decode cL_agree 556 = .ok (.aload_n 0, 1) := by decide +kernel
theorem dL_agree_557 : decode cL_agree 557 = .ok (.iconst 5, 1) := by decide +kernel
theorem dL_agree_558 : decode cL_agree 558 = .ok (.invokevirtual 47, 3) := by decide +kernel
theorem dL_agree_561 : decode cL_agree 561 = .ok (.iload 8, 2) := by decide +kernel
theorem dL_agree_563 : decode cL_agree 563 = .ok (.if_icmp .ne 86, 3) := by decide +kernel
theorem dL_agree_566 : decode cL_agree 566 = .ok (.aload_n 0, 1) := by decide +kernel
theorem dL_agree_567 : decode cL_agree 567 = .ok (.bipush 6, 2) := by decide +kernel
theorem dL_agree_569 : decode cL_agree 569 = .ok (.invokevirtual 47, 3) := by decide +kernel
theorem dL_agree_572 : decode cL_agree 572 = .ok (.iload 5, 2) := by decide +kernel
theorem dL_agree_574 : decode cL_agree 574 = .ok (.if_icmp .ne 75, 3) := by decide +kernel
theorem dL_agree_577 : decode cL_agree 577 = .ok (.aload_n 0, 1) := by decide +kernel
theorem dL_agree_578 : decode cL_agree 578 = .ok (.bipush 7, 2) := by decide +kernel
theorem dL_agree_580 : decode cL_agree 580 = .ok (.invokevirtual 47, 3) := by decide +kernel
theorem dL_agree_583 : decode cL_agree 583 = .ok (.iload 6, 2) := by decide +kernel
theorem dL_agree_585 : decode cL_agree 585 = .ok (.if_icmp .ne 64, 3) := by decide +kernel
theorem dL_agree_588 : decode cL_agree 588 = .ok (.aload_n 0, 1) := by decide +kernel
theorem dL_agree_589 : decode cL_agree 589 = .ok (.bipush 8, 2) := by decide +kernel
theorem dL_agree_591 : decode cL_agree 591 = .ok (.invokevirtual 47, 3) := by decide +kernel
theorem dL_agree_594 : decode cL_agree 594 = .ok (.iload 7, 2) := by decide +kernel
theorem dL_agree_596 : decode cL_agree 596 = .ok (.if_icmp .ne 53, 3) := by decide +kernel
theorem dL_agree_599 : decode cL_agree 599 = .ok (.aload_n 0, 1) := by decide +kernel
theorem dL_agree_600 : decode cL_agree 600 = .ok (.bipush 9, 2) := by decide +kernel
theorem dL_agree_602 : decode cL_agree 602 = .ok (.invokevirtual 47, 3) := by decide +kernel
theorem dL_agree_605 : decode cL_agree 605 = .ok (.aload_n 1, 1) := by decide +kernel
theorem dL_agree_606 : decode cL_agree 606 = .ok (.bipush 8, 2) := by decide +kernel
theorem dL_agree_608 : decode cL_agree 608 = .ok (.iaload, 1) := by decide +kernel
theorem dL_agree_609 : decode cL_agree 609 = .ok (.if_icmp .ne 40, 3) := by decide +kernel
theorem dL_agree_612 : decode cL_agree 612 = .ok (.aload_n 0, 1) := by decide +kernel
theorem dL_agree_613 : decode cL_agree 613 = .ok (.bipush 11, 2) := by decide +kernel
theorem dL_agree_615 : decode cL_agree 615 = .ok (.invokevirtual 47, 3) := by decide +kernel
theorem dL_agree_618 : decode cL_agree 618 = .ok (.iload 9, 2) := by decide +kernel
theorem dL_agree_620 : decode cL_agree 620 = .ok (.ifCond .ge 7, 3) := by decide +kernel
theorem dL_agree_623 : decode cL_agree 623 = .ok (.iconst 0, 1) := by decide +kernel
theorem dL_agree_624 : decode cL_agree 624 = .ok (.goto 5, 3) := by decide +kernel
theorem dL_agree_627 : decode cL_agree 627 = .ok (.iload 9, 2) := by decide +kernel
theorem dL_agree_629 : decode cL_agree 629 = .ok (.if_icmp .ne 20, 3) := by decide +kernel
theorem dL_agree_632 : decode cL_agree 632 = .ok (.aload_n 0, 1) := by decide +kernel
theorem dL_agree_633 : decode cL_agree 633 = .ok (.bipush 12, 2) := by decide +kernel
theorem dL_agree_635 : decode cL_agree 635 = .ok (.invokevirtual 47, 3) := by decide +kernel
theorem dL_agree_638 : decode cL_agree 638 = .ok (.aload_n 1, 1) := by decide +kernel
theorem dL_agree_639 : decode cL_agree 639 = .ok (.bipush 9, 2) := by decide +kernel
theorem dL_agree_641 : decode cL_agree 641 = .ok (.iaload, 1) := by decide +kernel
theorem dL_agree_642 : decode cL_agree 642 = .ok (.if_icmp .ne 7, 3) := by decide +kernel
theorem dL_agree_645 : decode cL_agree 645 = .ok (.iconst 1, 1) := by decide +kernel
theorem dL_agree_646 : decode cL_agree 646 = .ok (.goto 4, 3) := by decide +kernel
theorem dL_agree_649 : decode cL_agree 649 = .ok (.iconst 0, 1) := by decide +kernel
theorem dL_agree_650 : decode cL_agree 650 = .ok (.ireturn, 1) := by decide +kernel
theorem dL_law_0 : decode cL_law 0 = .ok (.new 19, 3) := by decide +kernel
theorem dL_law_3 : decode cL_law 3 = .ok (.dup, 1) := by decide +kernel
theorem dL_law_4 : decode cL_law 4 = .ok (.invokespecial 93, 3) := by decide +kernel
theorem dL_law_7 : decode cL_law 7 = .ok (.astore_n 1, 1) := by decide +kernel
theorem dL_law_8 : decode cL_law 8 = .ok (.bipush 28, 2) := by decide +kernel
theorem dL_law_10 : decode cL_law 10 = .ok (.newarray .int, 2) := by decide +kernel
theorem dL_law_12 : decode cL_law 12 = .ok (.astore_n 2, 1) := by decide +kernel
theorem dL_law_13 : decode cL_law 13 = .ok (.bipush 12, 2) := by decide +kernel
theorem dL_law_15 : decode cL_law 15 = .ok (.newarray .int, 2) := by decide +kernel
theorem dL_law_17 : decode cL_law 17 = .ok (.astore_n 3, 1) := by decide +kernel
theorem dL_law_18 : decode cL_law 18 = .ok (.bipush 24, 2) := by decide +kernel
theorem dL_law_20 : decode cL_law 20 = .ok (.newarray .int, 2) := by decide +kernel
theorem dL_law_22 : decode cL_law 22 = .ok (.astore 4, 2) := by decide +kernel
theorem dL_law_24 : decode cL_law 24 = .ok (.bipush 50, 2) := by decide +kernel
theorem dL_law_26 : decode cL_law 26 = .ok (.newarray .int, 2) := by decide +kernel
theorem dL_law_28 : decode cL_law 28 = .ok (.astore 5, 2) := by decide +kernel
theorem dL_law_30 : decode cL_law 30 = .ok (.aload_n 2, 1) := by decide +kernel
theorem dL_law_31 : decode cL_law 31 = .ok (.invokestatic 94, 3) := by decide +kernel
theorem dL_law_34 : decode cL_law 34 = .ok (.iconst 0, 1) := by decide +kernel
theorem dL_law_35 : decode cL_law 35 = .ok (.istore 6, 2) := by decide +kernel
theorem dL_law_37 : decode cL_law 37 = .ok (.iload 6, 2) := by decide +kernel
theorem dL_law_39 : decode cL_law 39 = .ok (.bipush 36, 2) := by decide +kernel
theorem dL_law_41 : decode cL_law 41 = .ok (.if_icmp .ge 114, 3) := by decide +kernel
theorem dL_law_44 : decode cL_law 44 = .ok (.aload_n 0, 1) := by decide +kernel
theorem dL_law_45 : decode cL_law 45 = .ok (.iconst 2, 1) := by decide +kernel
theorem dL_law_46 : decode cL_law 46 = .ok (.iload 6, 2) := by decide +kernel
theorem dL_law_48 : decode cL_law 48 = .ok (.imul, 1) := by decide +kernel
theorem dL_law_49 : decode cL_law 49 = .ok (.invokestatic 97, 3) := by decide +kernel
theorem dL_law_52 : decode cL_law 52 = .ok (.istore 7, 2) := by decide +kernel
theorem dL_law_54 : decode cL_law 54 = .ok (.aload_n 0, 1) := by decide +kernel
theorem dL_law_55 : decode cL_law 55 = .ok (.iconst 2, 1) := by decide +kernel
theorem dL_law_56 : decode cL_law 56 = .ok (.iload 6, 2) := by decide +kernel
theorem dL_law_58 : decode cL_law 58 = .ok (.imul, 1) := by decide +kernel
theorem dL_law_59 : decode cL_law 59 = .ok (.iconst 1, 1) := by decide +kernel
theorem dL_law_60 : decode cL_law 60 = .ok (.iadd, 1) := by decide +kernel
theorem dL_law_61 : decode cL_law 61 = .ok (.invokestatic 97, 3) := by decide +kernel
theorem dL_law_64 : decode cL_law 64 = .ok (.istore 8, 2) := by decide +kernel
theorem dL_law_66 : decode cL_law 66 = .ok (.iload 7, 2) := by decide +kernel
theorem dL_law_68 : decode cL_law 68 = .ok (.bipush 20, 2) := by decide +kernel
theorem dL_law_70 : decode cL_law 70 = .ok (.ishr, 1) := by decide +kernel
theorem dL_law_71 : decode cL_law 71 = .ok (.bipush 10, 2) := by decide +kernel
theorem dL_law_73 : decode cL_law 73 = .ok (.invokestatic 24, 3) := by decide +kernel
theorem dL_law_76 : decode cL_law 76 = .ok (.istore 9, 2) := by decide +kernel
theorem dL_law_78 : decode cL_law 78 = .ok (.iload 6, 2) := by decide +kernel
theorem dL_law_80 : decode cL_law 80 = .ok (.iconst 5, 1) := by decide +kernel
theorem dL_law_81 : decode cL_law 81 = .ok (.if_icmp .lt 9, 3) := by decide +kernel
theorem dL_law_84 : decode cL_law 84 = .ok (.iload 9, 2) := by decide +kernel
theorem dL_law_86 : decode cL_law 86 = .ok (.iconst 3, 1) := by decide +kernel
theorem dL_law_87 : decode cL_law 87 = .ok (.if_icmp .ge 26, 3) := by decide +kernel
theorem dL_law_90 : decode cL_law 90 = .ok (.aload_n 1, 1) := by decide +kernel
theorem dL_law_91 : decode cL_law 91 = .ok (.iload 6, 2) := by decide +kernel
theorem dL_law_93 : decode cL_law 93 = .ok (.iconst 4, 1) := by decide +kernel
theorem dL_law_94 : decode cL_law 94 = .ok (.if_icmp .ge 7, 3) := by decide +kernel
theorem dL_law_97 : decode cL_law 97 = .ok (.iconst 0, 1) := by decide +kernel
theorem dL_law_98 : decode cL_law 98 = .ok (.goto 5, 3) := by decide +kernel
theorem dL_law_101 : decode cL_law 101 = .ok (.iload 7, 2) := by decide +kernel
theorem dL_law_103 : decode cL_law 103 = .ok (.iload 8, 2) := by decide +kernel
theorem dL_law_105 : decode cL_law 105 = .ok (.aload_n 2, 1) := by decide +kernel
theorem dL_law_106 : decode cL_law 106 = .ok (.aload_n 3, 1) := by decide +kernel
theorem dL_law_107 : decode cL_law 107 = .ok (.invokestatic 100, 3) := by decide +kernel
theorem dL_law_110 : decode cL_law 110 = .ok (.goto 17, 3) := by decide +kernel
theorem dL_law_113 : decode cL_law 113 = .ok (.aload_n 1, 1) := by decide +kernel
theorem dL_law_114 : decode cL_law 114 = .ok (.iload 7, 2) := by decide +kernel
theorem dL_law_116 : decode cL_law 116 = .ok (.iload 8, 2) := by decide +kernel
theorem dL_law_118 : decode cL_law 118 = .ok (.aload_n 2, 1) := by decide +kernel
theorem dL_law_119 : decode cL_law 119 = .ok (.aload_n 3, 1) := by decide +kernel
theorem dL_law_120 : decode cL_law 120 = .ok (.aload 4, 2) := by decide +kernel
theorem dL_law_122 : decode cL_law 122 = .ok (.aload 5, 2) := by decide +kernel
theorem dL_law_124 : decode cL_law 124 = .ok (.invokestatic 103, 3) := by decide +kernel
theorem dL_law_127 : decode cL_law 127 = .ok (.istore 10, 2) := by decide +kernel
theorem dL_law_129 : decode cL_law 129 = .ok (.iload 10, 2) := by decide +kernel
theorem dL_law_131 : decode cL_law 131 = .ok (.ifCond .eq 16, 3) := by decide +kernel
theorem dL_law_134 : decode cL_law 134 = .ok (.aload_n 1, 1) := by decide +kernel
theorem dL_law_135 : decode cL_law 135 = .ok (.aload_n 2, 1) := by decide +kernel
theorem dL_law_136 : decode cL_law 136 = .ok (.aload_n 3, 1) := by decide +kernel
theorem dL_law_137 : decode cL_law 137 = .ok (.aload 4, 2) := by decide +kernel
theorem dL_law_139 : decode cL_law 139 = .ok (.aload 5, 2) := by decide +kernel
theorem dL_law_141 : decode cL_law 141 = .ok (.invokestatic 107, 3) := by decide +kernel
theorem dL_law_144 : decode cL_law 144 = .ok (.ifCond .ne 5, 3) := by decide +kernel
theorem dL_law_147 : decode cL_law 147 = .ok (.iconst 0, 1) := by decide +kernel
theorem dL_law_148 : decode cL_law 148 = .ok (.ireturn, 1) := by decide +kernel
theorem dL_law_149 : decode cL_law 149 = .ok (.iinc 6 1, 3) := by decide +kernel
theorem dL_law_152 : decode cL_law 152 = .ok (.goto (-115), 3) := by decide +kernel
theorem dL_law_155 : decode cL_law 155 = .ok (.iconst 1, 1) := by decide +kernel
theorem dL_law_156 : decode cL_law 156 = .ok (.ireturn, 1) := by decide +kernel
