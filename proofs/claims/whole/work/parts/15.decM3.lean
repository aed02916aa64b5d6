theorem d_M_giving_69 : decode c_M_giving 69 = .ok (.iload_n 2, 1) := by decide +kernel
theorem d_M_giving_70 : decode c_M_giving 70 = .ok (.iadd, 1) := by decide +kernel
theorem d_M_giving_71 : decode c_M_giving 71 = .ok (.aload_n 0, 1) := by decide +kernel
theorem d_M_giving_72 : decode c_M_giving 72 = .ok (.getfield 35, 3) := by decide +kernel
theorem d_M_giving_75 : decode c_M_giving 75 = .ok (.iload_n 2, 1) := by decide +kernel
theorem d_M_giving_76 : decode c_M_giving 76 = .ok (.laload, 1) := by decide +kernel
theorem d_M_giving_77 : decode c_M_giving 77 = .ok (.lastore, 1) := by decide +kernel
theorem d_M_giving_78 : decode c_M_giving 78 = .ok (.iinc 2 1, 3) := by decide +kernel
theorem d_M_giving_81 : decode c_M_giving 81 = .ok (.goto (-39), 3) := by decide +kernel
theorem d_M_giving_84 : decode c_M_giving 84 = .ok (.aload_n 0, 1) := by decide +kernel
theorem d_M_giving_85 : decode c_M_giving 85 = .ok (.iload_n 1, 1) := by decide +kernel
theorem d_M_giving_86 : decode c_M_giving 86 = .ok (.iconst 2, 1) := by decide +kernel
theorem d_M_giving_87 : decode c_M_giving 87 = .ok (.invokevirtual 112, 3) := by decide +kernel
theorem d_M_giving_90 : decode c_M_giving 90 = .ok (.aload_n 0, 1) := by decide +kernel
theorem d_M_giving_91 : decode c_M_giving 91 = .ok (.bipush 6, 2) := by decide +kernel
theorem d_M_giving_93 : decode c_M_giving 93 = .ok (.iconst 2, 1) := by decide +kernel
theorem d_M_giving_94 : decode c_M_giving 94 = .ok (.bipush 7, 2) := by decide +kernel
theorem d_M_giving_96 : decode c_M_giving 96 = .ok (.invokevirtual 115, 3) := by decide +kernel
theorem d_M_giving_99 : decode c_M_giving 99 = .ok (.aload_n 0, 1) := by decide +kernel
theorem d_M_giving_100 : decode c_M_giving 100 = .ok (.iconst 3, 1) := by decide +kernel
theorem d_M_giving_101 : decode c_M_giving 101 = .ok (.iconst 2, 1) := by decide +kernel
theorem d_M_giving_102 : decode c_M_giving 102 = .ok (.iconst 1, 1) := by decide +kernel
theorem d_M_giving_103 : decode c_M_giving 103 = .ok (.invokevirtual 115, 3) := by decide +kernel
theorem d_M_giving_106 : decode c_M_giving 106 = .ok (.aload_n 0, 1) := by decide +kernel
theorem d_M_giving_107 : decode c_M_giving 107 = .ok (.iload_n 1, 1) := by decide +kernel
theorem d_M_giving_108 : decode c_M_giving 108 = .ok (.iconst 2, 1) := by decide +kernel
theorem d_M_giving_109 : decode c_M_giving 109 = .ok (.invokevirtual 109, 3) := by decide +kernel
theorem d_M_giving_112 : decode c_M_giving 112 = .ok (.aload_n 0, 1) := by decide +kernel
theorem d_M_giving_113 : decode c_M_giving 113 = .ok (.iconst 2, 1) := by decide +kernel
theorem d_M_giving_114 : decode c_M_giving 114 = .ok (.iconst 3, 1) := by decide +kernel
theorem d_M_giving_115 : decode c_M_giving 115 = .ok (.iconst 0, 1) := by decide +kernel
theorem d_M_giving_116 : decode c_M_giving 116 = .ok (.invokevirtual 115, 3) := by decide +kernel
theorem d_M_giving_119 : decode c_M_giving 119 = .ok (.aload_n 0, 1) := by decide +kernel
theorem d_M_giving_120 : decode c_M_giving 120 = .ok (.getfield 13, 3) := by decide +kernel
theorem d_M_giving_123 : decode c_M_giving 123 = .ok (.iload_n 1, 1) := by decide +kernel
theorem d_M_giving_124 : decode c_M_giving 124 = .ok (.iaload, 1) := by decide +kernel
theorem d_M_giving_125 : decode c_M_giving 125 = .ok (.istore_n 2, 1) := by decide +kernel
theorem d_M_giving_126 : decode c_M_giving 126 = .ok (.iload_n 2, 1) := by decide +kernel
theorem d_M_giving_127 : decode c_M_giving 127 = .ok (.ifCond .lt 27, 3) := by decide +kernel
theorem d_M_giving_130 : decode c_M_giving 130 = .ok (.aload_n 0, 1) := by decide +kernel
theorem d_M_giving_131 : decode c_M_giving 131 = .ok (.iconst 0, 1) := by decide +kernel
theorem d_M_giving_132 : decode c_M_giving 132 = .ok (.bipush 7, 2) := by decide +kernel
theorem d_M_giving_134 : decode c_M_giving 134 = .ok (.invokevirtual 88, 3) := by decide +kernel
theorem d_M_giving_137 : decode c_M_giving 137 = .ok (.aload_n 0, 1) := by decide +kernel
theorem d_M_giving_138 : decode c_M_giving 138 = .ok (.iconst 0, 1) := by decide +kernel
theorem d_M_giving_139 : decode c_M_giving 139 = .ok (.invokevirtual 77, 3) := by decide +kernel
theorem d_M_giving_142 : decode c_M_giving 142 = .ok (.ifCond .eq 7, 3) := by decide +kernel
theorem d_M_giving_145 : decode c_M_giving 145 = .ok (.iconst 0, 1) := by decide +kernel
theorem d_M_giving_146 : decode c_M_giving 146 = .ok (.goto 4, 3) := by decide +kernel
theorem d_M_giving_149 : decode c_M_giving 149 = .ok (.iconst 1, 1) := by decide +kernel
theorem d_M_giving_150 : decode c_M_giving 150 = .ok (.istore_n 2, 1) := by decide +kernel
theorem d_M_giving_151 : decode c_M_giving 151 = .ok (.goto 51, 3) := by decide +kernel
theorem d_M_giving_154 : decode c_M_giving 154 = .ok (.aload_n 0, 1) := by decide +kernel
theorem d_M_giving_155 : decode c_M_giving 155 = .ok (.iconst 0, 1) := by decide +kernel
theorem d_M_giving_156 : decode c_M_giving 156 = .ok (.bipush 7, 2) := by decide +kernel
theorem d_M_giving_158 : decode c_M_giving 158 = .ok (.invokevirtual 80, 3) := by decide +kernel
theorem d_M_giving_161 : decode c_M_giving 161 = .ok (.ifCond .le 13, 3) := by decide +kernel
theorem d_M_giving_164 : decode c_M_giving 164 = .ok (.aload_n 0, 1) := by decide +kernel
theorem d_M_giving_165 : decode c_M_giving 165 = .ok (.iconst 0, 1) := by decide +kernel
theorem d_M_giving_166 : decode c_M_giving 166 = .ok (.bipush 7, 2) := by decide +kernel
theorem d_M_giving_168 : decode c_M_giving 168 = .ok (.invokevirtual 84, 3) := by decide +kernel
theorem d_M_giving_171 : decode c_M_giving 171 = .ok (.goto 31, 3) := by decide +kernel
theorem d_M_giving_174 : decode c_M_giving 174 = .ok (.aload_n 0, 1) := by decide +kernel
theorem d_M_giving_175 : decode c_M_giving 175 = .ok (.bipush 7, 2) := by decide +kernel
theorem d_M_giving_177 : decode c_M_giving 177 = .ok (.iconst 0, 1) := by decide +kernel
theorem d_M_giving_178 : decode c_M_giving 178 = .ok (.invokevirtual 84, 3) := by decide +kernel
theorem d_M_giving_181 : decode c_M_giving 181 = .ok (.aload_n 0, 1) := by decide +kernel
theorem d_M_giving_182 : decode c_M_giving 182 = .ok (.bipush 7, 2) := by decide +kernel
theorem d_M_giving_184 : decode c_M_giving 184 = .ok (.iconst 0, 1) := by decide +kernel
theorem d_M_giving_185 : decode c_M_giving 185 = .ok (.invokevirtual 95, 3) := by decide +kernel
theorem d_M_giving_188 : decode c_M_giving 188 = .ok (.aload_n 0, 1) := by decide +kernel
theorem d_M_giving_189 : decode c_M_giving 189 = .ok (.iconst 0, 1) := by decide +kernel
theorem d_M_giving_190 : decode c_M_giving 190 = .ok (.invokevirtual 77, 3) := by decide +kernel
theorem d_M_giving_193 : decode c_M_giving 193 = .ok (.ifCond .eq 7, 3) := by decide +kernel
theorem d_M_giving_196 : decode c_M_giving 196 = .ok (.iconst 0, 1) := by decide +kernel
theorem d_M_giving_197 : decode c_M_giving 197 = .ok (.goto 4, 3) := by decide +kernel
theorem d_M_giving_200 : decode c_M_giving 200 = .ok (.iconst 1, 1) := by decide +kernel
theorem d_M_giving_201 : decode c_M_giving 201 = .ok (.istore_n 2, 1) := by decide +kernel
theorem d_M_giving_202 : decode c_M_giving 202 = .ok (.aload_n 0, 1) := by decide +kernel
theorem d_M_giving_203 : decode c_M_giving 203 = .ok (.invokevirtual 150, 3) := by decide +kernel
theorem d_M_giving_206 : decode c_M_giving 206 = .ok (.ifCond .ne 5, 3) := by decide +kernel
theorem d_M_giving_209 : decode c_M_giving 209 = .ok (.iconst (-1), 1) := by decide +kernel
theorem d_M_giving_210 : decode c_M_giving 210 = .ok (.ireturn, 1) := by decide +kernel
theorem d_M_giving_211 : decode c_M_giving 211 = .ok (.aload_n 0, 1) := by decide +kernel
theorem d_M_giving_212 : decode c_M_giving 212 = .ok (.iconst 0, 1) := by decide +kernel
theorem d_M_giving_213 : decode c_M_giving 213 = .ok (.iconst 2, 1) := by decide +kernel
theorem d_M_giving_214 : decode c_M_giving 214 = .ok (.invokevirtual 95, 3) := by decide +kernel
theorem d_M_giving_217 : decode c_M_giving 217 = .ok (.aload_n 0, 1) := by decide +kernel
theorem d_M_giving_218 : decode c_M_giving 218 = .ok (.iconst 2, 1) := by decide +kernel
theorem d_M_giving_219 : decode c_M_giving 219 = .ok (.iconst 1, 1) := by decide +kernel
theorem d_M_giving_220 : decode c_M_giving 220 = .ok (.iconst 3, 1) := by decide +kernel
theorem d_M_giving_221 : decode c_M_giving 221 = .ok (.invokevirtual 101, 3) := by decide +kernel
theorem d_M_giving_224 : decode c_M_giving 224 = .ok (.iload_n 2, 1) := by decide +kernel
theorem d_M_giving_225 : decode c_M_giving 225 = .ok (.ifCond .ge 46, 3) := by decide +kernel
theorem d_M_giving_228 : decode c_M_giving 228 = .ok (.aload_n 0, 1) := by decide +kernel
theorem d_M_giving_229 : decode c_M_giving 229 = .ok (.iconst 2, 1) := by decide +kernel
theorem d_M_giving_230 : decode c_M_giving 230 = .ok (.invokevirtual 77, 3) := by decide +kernel
theorem d_M_giving_233 : decode c_M_giving 233 = .ok (.ifCond .ne 38, 3) := by decide +kernel
theorem d_M_giving_236 : decode c_M_giving 236 = .ok (.aload_n 0, 1) := by decide +kernel
theorem d_M_giving_237 : decode c_M_giving 237 = .ok (.bipush 6, 2) := by decide +kernel
theorem d_M_giving_239 : decode c_M_giving 239 = .ok (.lconst 1, 1) := by decide +kernel
theorem d_M_giving_240 : decode c_M_giving 240 = .ok (.invokevirtual 91, 3) := by decide +kernel
theorem d_M_giving_243 : decode c_M_giving 243 = .ok (.aload_n 0, 1) := by decide +kernel
theorem d_M_giving_244 : decode c_M_giving 244 = .ok (.iconst 3, 1) := by decide +kernel
theorem d_M_giving_245 : decode c_M_giving 245 = .ok (.bipush 6, 2) := by decide +kernel
theorem d_M_giving_247 : decode c_M_giving 247 = .ok (.invokevirtual 88, 3) := by decide +kernel
theorem d_M_giving_250 : decode c_M_giving 250 = .ok (.aload_n 0, 1) := by decide +kernel
theorem d_M_giving_251 : decode c_M_giving 251 = .ok (.iconst 1, 1) := by decide +kernel
theorem d_M_giving_252 : decode c_M_giving 252 = .ok (.bipush 6, 2) := by decide +kernel
theorem d_M_giving_254 : decode c_M_giving 254 = .ok (.invokevirtual 95, 3) := by decide +kernel
theorem d_M_giving_257 : decode c_M_giving 257 = .ok (.aload_n 0, 1) := by decide +kernel
theorem d_M_giving_258 : decode c_M_giving 258 = .ok (.bipush 6, 2) := by decide +kernel
theorem d_M_giving_260 : decode c_M_giving 260 = .ok (.iconst 2, 1) := by decide +kernel
theorem d_M_giving_261 : decode c_M_giving 261 = .ok (.invokevirtual 84, 3) := by decide +kernel
theorem d_M_giving_264 : decode c_M_giving 264 = .ok (.aload_n 0, 1) := by decide +kernel
theorem d_M_giving_265 : decode c_M_giving 265 = .ok (.bipush 6, 2) := by decide +kernel
theorem d_M_giving_267 : decode c_M_giving 267 = .ok (.iconst 2, 1) := by decide +kernel
theorem d_M_giving_268 : decode c_M_giving 268 = .ok (.invokevirtual 95, 3) := by decide +kernel
theorem d_M_giving_271 : decode c_M_giving 271 = .ok (.aload_n 0, 1) := by decide +kernel
theorem d_M_giving_272 : decode c_M_giving 272 = .ok (.iconst 3, 1) := by decide +kernel
theorem d_M_giving_273 : decode c_M_giving 273 = .ok (.invokevirtual 56, 3) := by decide +kernel
theorem d_M_giving_276 : decode c_M_giving 276 = .ok (.bipush 8, 2) := by decide +kernel
theorem d_M_giving_278 : decode c_M_giving 278 = .ok (.if_icmp .lt 5, 3) := by decide +kernel
theorem d_M_giving_281 : decode c_M_giving 281 = .ok (.iconst (-1), 1) := by decide +kernel
theorem d_M_giving_282 : decode c_M_giving 282 = .ok (.ireturn, 1) := by decide +kernel
theorem d_M_giving_283 : decode c_M_giving 283 = .ok (.iconst 0, 1) := by decide +kernel
theorem d_M_giving_284 : decode c_M_giving 284 = .ok (.istore_n 3, 1) := by decide +kernel
theorem d_M_giving_285 : decode c_M_giving 285 = .ok (.iload_n 3, 1) := by decide +kernel
theorem d_M_giving_286 : decode c_M_giving 286 = .ok (.bipush 8, 2) := by decide +kernel
theorem d_M_giving_288 : decode c_M_giving 288 = .ok (.if_icmp .ge 51, 3) := by decide +kernel
theorem d_M_giving_291 : decode c_M_giving 291 = .ok (.aload_n 0, 1) := by decide +kernel
theorem d_M_giving_292 : decode c_M_giving 292 = .ok (.getfield 32, 3) := by decide +kernel
theorem d_M_giving_295 : decode c_M_giving 295 = .ok (.iload_n 3, 1) := by decide +kernel
theorem d_M_giving_296 : decode c_M_giving 296 = .ok (.aload_n 0, 1) := by decide +kernel
theorem d_M_giving_297 : decode c_M_giving 297 = .ok (.getfield 7, 3) := by decide +kernel
theorem d_M_giving_300 : decode c_M_giving 300 = .ok (.bipush 40, 2) := by decide +kernel
theorem d_M_giving_302 : decode c_M_giving 302 = .ok (.iload_n 3, 1) := by decide +kernel
theorem d_M_giving_303 : decode c_M_giving 303 = .ok (.iadd, 1) := by decide +kernel
theorem d_M_giving_304 : decode c_M_giving 304 = .ok (.laload, 1) := by decide +kernel
theorem d_M_giving_305 : decode c_M_giving 305 = .ok (.lastore, 1) := by decide +kernel
theorem d_M_giving_306 : decode c_M_giving 306 = .ok (.aload_n 0, 1) := by decide +kernel
theorem d_M_giving_307 : decode c_M_giving 307 = .ok (.getfield 35, 3) := by decide +kernel
theorem d_M_giving_310 : decode c_M_giving 310 = .ok (.iload_n 3, 1) := by decide +kernel
theorem d_M_giving_311 : decode c_M_giving 311 = .ok (.aload_n 0, 1) := by decide +kernel
theorem d_M_giving_312 : decode c_M_giving 312 = .ok (.iconst 2, 1) := by decide +kernel
theorem d_M_giving_313 : decode c_M_giving 313 = .ok (.invokevirtual 77, 3) := by decide +kernel
theorem d_M_giving_316 : decode c_M_giving 316 = .ok (.ifCond .eq 7, 3) := by decide +kernel
theorem d_M_giving_319 : decode c_M_giving 319 = .ok (.lconst 0, 1) := by decide +kernel
theorem d_M_giving_320 : decode c_M_giving 320 = .ok (.goto 12, 3) := by decide +kernel
theorem d_M_giving_323 : decode c_M_giving 323 = .ok (.aload_n 0, 1) := by decide +kernel
theorem d_M_giving_324 : decode c_M_giving 324 = .ok (.getfield 7, 3) := by decide +kernel
theorem d_M_giving_327 : decode c_M_giving 327 = .ok (.bipush 20, 2) := by decide +kernel
theorem d_M_giving_329 : decode c_M_giving 329 = .ok (.iload_n 3, 1) := by decide +kernel
theorem d_M_giving_330 : decode c_M_giving 330 = .ok (.iadd, 1) := by decide +kernel
theorem d_M_giving_331 : decode c_M_giving 331 = .ok (.laload, 1) := by decide +kernel
theorem d_M_giving_332 : decode c_M_giving 332 = .ok (.lastore, 1) := by decide +kernel
theorem d_M_giving_333 : decode c_M_giving 333 = .ok (.iinc 3 1, 3) := by decide +kernel
theorem d_M_giving_336 : decode c_M_giving 336 = .ok (.goto (-51), 3) := by decide +kernel
theorem d_M_giving_339 : decode c_M_giving 339 = .ok (.aload_n 0, 1) := by decide +kernel
theorem d_M_giving_340 : decode c_M_giving 340 = .ok (.iconst 2, 1) := by decide +kernel
theorem d_M_giving_341 : decode c_M_giving 341 = .ok (.invokevirtual 77, 3) := by decide +kernel
theorem d_M_giving_344 : decode c_M_giving 344 = .ok (.ifCond .eq 10, 3) := by decide +kernel
theorem d_M_giving_347 : decode c_M_giving 347 = .ok (.aload_n 0, 1) := by decide +kernel
theorem d_M_giving_348 : decode c_M_giving 348 = .ok (.getfield 35, 3) := by decide +kernel
theorem d_M_giving_351 : decode c_M_giving 351 = .ok (.iconst 0, 1) := by decide +kernel
theorem d_M_giving_352 : decode c_M_giving 352 = .ok (.lconst 1, 1) := by decide +kernel
theorem d_M_giving_353 : decode c_M_giving 353 = .ok (.lastore, 1) := by decide +kernel
theorem d_M_giving_354 : decode c_M_giving 354 = .ok (.aload_n 0, 1) := by decide +kernel
theorem d_M_giving_355 : decode c_M_giving 355 = .ok (.iconst 3, 1) := by decide +kernel
theorem d_M_giving_356 : decode c_M_giving 356 = .ok (.iconst 0, 1) := by decide +kernel
theorem d_M_giving_357 : decode c_M_giving 357 = .ok (.invokevirtual 95, 3) := by decide +kernel
theorem d_M_giving_360 : decode c_M_giving 360 = .ok (.aload_n 0, 1) := by decide +kernel
theorem d_M_giving_361 : decode c_M_giving 361 = .ok (.iconst 1, 1) := by decide +kernel
theorem d_M_giving_362 : decode c_M_giving 362 = .ok (.lconst 1, 1) := by decide +kernel
theorem d_M_giving_363 : decode c_M_giving 363 = .ok (.invokevirtual 91, 3) := by decide +kernel
theorem d_M_giving_366 : decode c_M_giving 366 = .ok (.aload_n 0, 1) := by decide +kernel
theorem d_M_giving_367 : decode c_M_giving 367 = .ok (.iload_n 2, 1) := by decide +kernel
theorem d_M_giving_368 : decode c_M_giving 368 = .ok (.invokevirtual 122, 3) := by decide +kernel
theorem d_M_giving_371 : decode c_M_giving 371 = .ok (.ireturn, 1) := by decide +kernel
theorem d_M_lowestOf_0 : decode c_M_lowestOf 0 = .ok (.aload_n 0, 1) := by decide +kernel
theorem d_M_lowestOf_1 : decode c_M_lowestOf 1 = .ok (.invokevirtual 105, 3) := by decide +kernel
theorem d_M_lowestOf_4 : decode c_M_lowestOf 4 = .ok (.istore_n 1, 1) := by decide +kernel
theorem d_M_lowestOf_5 : decode c_M_lowestOf 5 = .ok (.iload_n 1, 1) := by decide +kernel
theorem d_M_lowestOf_6 : decode c_M_lowestOf 6 = .ok (.ifCond .ne 13, 3) := by decide +kernel
theorem d_M_lowestOf_9 : decode c_M_lowestOf 9 = .ok (.aload_n 0, 1) := by decide +kernel
theorem d_M_lowestOf_10 : decode c_M_lowestOf 10 = .ok (.iconst 1, 1) := by decide +kernel
theorem d_M_lowestOf_11 : decode c_M_lowestOf 11 = .ok (.invokevirtual 56, 3) := by decide +kernel
theorem d_M_lowestOf_14 : decode c_M_lowestOf 14 = .ok (.bipush 8, 2) := by decide +kernel
theorem d_M_lowestOf_16 : decode c_M_lowestOf 16 = .ok (.if_icmp .ge 7, 3) := by decide +kernel
theorem d_M_lowestOf_19 : decode c_M_lowestOf 19 = .ok (.iconst 1, 1) := by decide +kernel
theorem d_M_lowestOf_20 : decode c_M_lowestOf 20 = .ok (.goto 4, 3) := by decide +kernel
theorem d_M_lowestOf_23 : decode c_M_lowestOf 23 = .ok (.iconst 0, 1) := by decide +kernel
theorem d_M_lowestOf_24 : decode c_M_lowestOf 24 = .ok (.ireturn, 1) := by decide +kernel
theorem d_M_rest_0 : decode c_M_rest 0 = .ok (.aload_n 0, 1) := by decide +kernel
theorem d_M_rest_1 : decode c_M_rest 1 = .ok (.aload_n 0, 1) := by decide +kernel
theorem d_M_rest_2 : decode c_M_rest 2 = .ok (.getfield 42, 3) := by decide +kernel
theorem d_M_rest_5 : decode c_M_rest 5 = .ok (.bipush 100, 2) := by decide +kernel
theorem d_M_rest_7 : decode c_M_rest 7 = .ok (.if_icmp .ge 7, 3) := by decide +kernel
theorem d_M_rest_10 : decode c_M_rest 10 = .ok (.iconst 1, 1) := by decide +kernel
theorem d_M_rest_11 : decode c_M_rest 11 = .ok (.goto 4, 3) := by decide +kernel
theorem d_M_rest_14 : decode c_M_rest 14 = .ok (.iconst 0, 1) := by decide +kernel
theorem d_M_rest_15 : decode c_M_rest 15 = .ok (.iconst 1, 1) := by decide +kernel
theorem d_M_rest_16 : decode c_M_rest 16 = .ok (.iconst 1, 1) := by decide +kernel
theorem d_M_rest_17 : decode c_M_rest 17 = .ok (.invokevirtual 118, 3) := by decide +kernel
theorem d_M_rest_20 : decode c_M_rest 20 = .ok (.ifCond .ne 5, 3) := by decide +kernel
theorem d_M_rest_23 : decode c_M_rest 23 = .ok (.iconst 0, 1) := by decide +kernel
theorem d_M_rest_24 : decode c_M_rest 24 = .ok (.ireturn, 1) := by decide +kernel
theorem d_M_rest_25 : decode c_M_rest 25 = .ok (.aload_n 0, 1) := by decide +kernel
theorem d_M_rest_26 : decode c_M_rest 26 = .ok (.iconst 0, 1) := by decide +kernel
theorem d_M_rest_27 : decode c_M_rest 27 = .ok (.invokevirtual 48, 3) := by decide +kernel
theorem d_M_rest_30 : decode c_M_rest 30 = .ok (.aload_n 0, 1) := by decide +kernel
theorem d_M_rest_31 : decode c_M_rest 31 = .ok (.iconst 1, 1) := by decide +kernel
theorem d_M_rest_32 : decode c_M_rest 32 = .ok (.invokevirtual 48, 3) := by decide +kernel
theorem d_M_rest_35 : decode c_M_rest 35 = .ok (.iconst 0, 1) := by decide +kernel
theorem d_M_rest_36 : decode c_M_rest 36 = .ok (.istore_n 1, 1) := by decide +kernel
theorem d_M_rest_37 : decode c_M_rest 37 = .ok (.iload_n 1, 1) := by decide +kernel
theorem d_M_rest_38 : decode c_M_rest 38 = .ok (.bipush 8, 2) := by decide +kernel
theorem d_M_rest_40 : decode c_M_rest 40 = .ok (.if_icmp .ge 38, 3) := by decide +kernel
theorem d_M_rest_43 : decode c_M_rest 43 = .ok (.aload_n 0, 1) := by decide +kernel
theorem d_M_rest_44 : decode c_M_rest 44 = .ok (.getfield 7, 3) := by decide +kernel
theorem d_M_rest_47 : decode c_M_rest 47 = .ok (.iconst 0, 1) := by decide +kernel
theorem d_M_rest_48 : decode c_M_rest 48 = .ok (.iload_n 1, 1) := by decide +kernel
theorem d_M_rest_49 : decode c_M_rest 49 = .ok (.iadd, 1) := by decide +kernel
theorem d_M_rest_50 : decode c_M_rest 50 = .ok (.aload_n 0, 1) := by decide +kernel
theorem d_M_rest_51 : decode c_M_rest 51 = .ok (.getfield 32, 3) := by decide +kernel
theorem d_M_rest_54 : decode c_M_rest 54 = .ok (.iload_n 1, 1) := by decide +kernel
theorem d_M_rest_55 : decode c_M_rest 55 = .ok (.laload, 1) := by decide +kernel
theorem d_M_rest_56 : decode c_M_rest 56 = .ok (.lastore, 1) := by decide +kernel
theorem d_M_rest_57 : decode c_M_rest 57 = .ok (.aload_n 0, 1) := by decide +kernel
theorem d_M_rest_58 : decode c_M_rest 58 = .ok (.getfield 7, 3) := by decide +kernel
theorem d_M_rest_61 : decode c_M_rest 61 = .ok (.bipush 20, 2) := by decide +kernel
theorem d_M_rest_63 : decode c_M_rest 63 = .ok (.iload_n 1, 1) := by decide +kernel
theorem d_M_rest_64 : decode c_M_rest 64 = .ok (.iadd, 1) := by decide +kernel
theorem d_M_rest_65 : decode c_M_rest 65 = .ok (.aload_n 0, 1) := by decide +kernel
theorem d_M_rest_66 : decode c_M_rest 66 = .ok (.getfield 35, 3) := by decide +kernel
theorem d_M_rest_69 : decode c_M_rest 69 = .ok (.iload_n 1, 1) := by decide +kernel
theorem d_M_rest_70 : decode c_M_rest 70 = .ok (.laload, 1) := by decide +kernel
theorem d_M_rest_71 : decode c_M_rest 71 = .ok (.lastore, 1) := by decide +kernel
theorem d_M_rest_72 : decode c_M_rest 72 = .ok (.iinc 1 1, 3) := by decide +kernel
theorem d_M_rest_75 : decode c_M_rest 75 = .ok (.goto (-38), 3) := by decide +kernel
theorem d_M_rest_78 : decode c_M_rest 78 = .ok (.aload_n 0, 1) := by decide +kernel
theorem d_M_rest_79 : decode c_M_rest 79 = .ok (.iconst 1, 1) := by decide +kernel
theorem d_M_rest_80 : decode c_M_rest 80 = .ok (.invokevirtual 122, 3) := by decide +kernel
theorem d_M_rest_83 : decode c_M_rest 83 = .ok (.ireturn, 1) := by decide +kernel
theorem d_M_sign_0 : decode c_M_sign 0 = .ok (.aload_n 0, 1) := by decide +kernel
theorem d_M_sign_1 : decode c_M_sign 1 = .ok (.aload_n 0, 1) := by decide +kernel
theorem d_M_sign_2 : decode c_M_sign 2 = .ok (.iload_n 1, 1) := by decide +kernel
theorem d_M_sign_3 : decode c_M_sign 3 = .ok (.invokevirtual 125, 3) := by decide +kernel
theorem d_M_sign_6 : decode c_M_sign 6 = .ok (.iconst 1, 1) := by decide +kernel
theorem d_M_sign_7 : decode c_M_sign 7 = .ok (.iconst 1, 1) := by decide +kernel
theorem d_M_sign_8 : decode c_M_sign 8 = .ok (.invokevirtual 118, 3) := by decide +kernel
theorem d_M_sign_11 : decode c_M_sign 11 = .ok (.ifCond .ne 5, 3) := by decide +kernel
theorem d_M_sign_14 : decode c_M_sign 14 = .ok (.iconst 0, 1) := by decide +kernel
theorem d_M_sign_15 : decode c_M_sign 15 = .ok (.ireturn, 1) := by decide +kernel
theorem d_M_sign_16 : decode c_M_sign 16 = .ok (.aload_n 0, 1) := by decide +kernel
theorem d_M_sign_17 : decode c_M_sign 17 = .ok (.getfield 13, 3) := by decide +kernel
theorem d_M_sign_20 : decode c_M_sign 20 = .ok (.iload_n 1, 1) := by decide +kernel
theorem d_M_sign_21 : decode c_M_sign 21 = .ok (.iaload, 1) := by decide +kernel
theorem d_M_sign_22 : decode c_M_sign 22 = .ok (.ireturn, 1) := by decide +kernel
theorem d_M_digit_0 : decode c_M_digit 0 = .ok (.aload_n 0, 1) := by decide +kernel
theorem d_M_digit_1 : decode c_M_digit 1 = .ok (.iload_n 1, 1) := by decide +kernel
theorem d_M_digit_2 : decode c_M_digit 2 = .ok (.invokevirtual 125, 3) := by decide +kernel
theorem d_M_digit_5 : decode c_M_digit 5 = .ok (.ifCond .eq 16, 3) := by decide +kernel
theorem d_M_digit_8 : decode c_M_digit 8 = .ok (.iload_n 2, 1) := by decide +kernel
theorem d_M_digit_9 : decode c_M_digit 9 = .ok (.ifCond .lt 12, 3) := by decide +kernel
theorem d_M_digit_12 : decode c_M_digit 12 = .ok (.iload_n 2, 1) := by decide +kernel
theorem d_M_digit_13 : decode c_M_digit 13 = .ok (.iconst 1, 1) := by decide +kernel
theorem d_M_digit_14 : decode c_M_digit 14 = .ok (.if_icmp .gt 7, 3) := by decide +kernel
theorem d_M_digit_17 : decode c_M_digit 17 = .ok (.iconst 1, 1) := by decide +kernel
theorem d_M_digit_18 : decode c_M_digit 18 = .ok (.goto 4, 3) := by decide +kernel
theorem d_M_digit_21 : decode c_M_digit 21 = .ok (.iconst 0, 1) := by decide +kernel
theorem d_M_digit_22 : decode c_M_digit 22 = .ok (.istore 4, 2) := by decide +kernel
theorem d_M_digit_24 : decode c_M_digit 24 = .ok (.iconst 0, 1) := by decide +kernel
theorem d_M_digit_25 : decode c_M_digit 25 = .ok (.istore 5, 2) := by decide +kernel
theorem d_M_digit_27 : decode c_M_digit 27 = .ok (.lconst 0, 1) := by decide +kernel
theorem d_M_digit_28 : decode c_M_digit 28 = .ok (.lstore 6, 2) := by decide +kernel
theorem d_M_digit_30 : decode c_M_digit 30 = .ok (.iconst 0, 1) := by decide +kernel
theorem d_M_digit_31 : decode c_M_digit 31 = .ok (.istore 8, 2) := by decide +kernel
theorem d_M_digit_33 : decode c_M_digit 33 = .ok (.iload 8, 2) := by decide +kernel
theorem d_M_digit_35 : decode c_M_digit 35 = .ok (.bipush 8, 2) := by decide +kernel
theorem d_M_digit_37 : decode c_M_digit 37 = .ok (.if_icmp .ge 84, 3) := by decide +kernel
theorem d_M_digit_40 : decode c_M_digit 40 = .ok (.iload 4, 2) := by decide +kernel
theorem d_M_digit_42 : decode c_M_digit 42 = .ok (.ifCond .eq 79, 3) := by decide +kernel
theorem d_M_digit_45 : decode c_M_digit 45 = .ok (.iload_n 2, 1) := by decide +kernel
theorem d_M_digit_46 : decode c_M_digit 46 = .ok (.ifCond .ne 18, 3) := by decide +kernel
theorem d_M_digit_49 : decode c_M_digit 49 = .ok (.aload_n 0, 1) := by decide +kernel
theorem d_M_digit_50 : decode c_M_digit 50 = .ok (.getfield 17, 3) := by decide +kernel
theorem d_M_digit_53 : decode c_M_digit 53 = .ok (.bipush 8, 2) := by decide +kernel
theorem d_M_digit_55 : decode c_M_digit 55 = .ok (.iload_n 1, 1) := by decide +kernel
theorem d_M_digit_56 : decode c_M_digit 56 = .ok (.imul, 1) := by decide +kernel
theorem d_M_digit_57 : decode c_M_digit 57 = .ok (.iload 8, 2) := by decide +kernel
theorem d_M_digit_59 : decode c_M_digit 59 = .ok (.iadd, 1) := by decide +kernel
theorem d_M_digit_60 : decode c_M_digit 60 = .ok (.laload, 1) := by decide +kernel
theorem d_M_digit_61 : decode c_M_digit 61 = .ok (.goto 15, 3) := by decide +kernel
theorem d_M_digit_64 : decode c_M_digit 64 = .ok (.aload_n 0, 1) := by decide +kernel
theorem d_M_digit_65 : decode c_M_digit 65 = .ok (.getfield 20, 3) := by decide +kernel
theorem d_M_digit_68 : decode c_M_digit 68 = .ok (.bipush 8, 2) := by decide +kernel
theorem d_M_digit_70 : decode c_M_digit 70 = .ok (.iload_n 1, 1) := by decide +kernel
theorem d_M_digit_71 : decode c_M_digit 71 = .ok (.imul, 1) := by decide +kernel
theorem d_M_digit_72 : decode c_M_digit 72 = .ok (.iload 8, 2) := by decide +kernel
theorem d_M_digit_74 : decode c_M_digit 74 = .ok (.iadd, 1) := by decide +kernel
theorem d_M_digit_75 : decode c_M_digit 75 = .ok (.laload, 1) := by decide +kernel
theorem d_M_digit_76 : decode c_M_digit 76 = .ok (.lstore 9, 2) := by decide +kernel
theorem d_M_digit_78 : decode c_M_digit 78 = .ok (.lload 9, 2) := by decide +kernel
theorem d_M_digit_80 : decode c_M_digit 80 = .ok (.lconst 0, 1) := by decide +kernel
theorem d_M_digit_81 : decode c_M_digit 81 = .ok (.lcmp, 1) := by decide +kernel
theorem d_M_digit_82 : decode c_M_digit 82 = .ok (.ifCond .le 16, 3) := by decide +kernel
theorem d_M_digit_85 : decode c_M_digit 85 = .ok (.bipush 6, 2) := by decide +kernel
theorem d_M_digit_87 : decode c_M_digit 87 = .ok (.iload 8, 2) := by decide +kernel
theorem d_M_digit_89 : decode c_M_digit 89 = .ok (.imul, 1) := by decide +kernel
theorem d_M_digit_90 : decode c_M_digit 90 = .ok (.lload 9, 2) := by decide +kernel
theorem d_M_digit_92 : decode c_M_digit 92 = .ok (.invokestatic 155, 3) := by decide +kernel
theorem d_M_digit_95 : decode c_M_digit 95 = .ok (.iadd, 1) := by decide +kernel
theorem d_M_digit_96 : decode c_M_digit 96 = .ok (.istore 5, 2) := by decide +kernel
theorem d_M_digit_98 : decode c_M_digit 98 = .ok (.iload_n 3, 1) := by decide +kernel
theorem d_M_digit_99 : decode c_M_digit 99 = .ok (.ifCond .lt 16, 3) := by decide +kernel
theorem d_M_digit_102 : decode c_M_digit 102 = .ok (.iload 8, 2) := by decide +kernel
theorem d_M_digit_104 : decode c_M_digit 104 = .ok (.iload_n 3, 1) := by decide +kernel
theorem d_M_digit_105 : decode c_M_digit 105 = .ok (.bipush 6, 2) := by decide +kernel
theorem d_M_digit_107 : decode c_M_digit 107 = .ok (.idiv, 1) := by decide +kernel
theorem d_M_digit_108 : decode c_M_digit 108 = .ok (.if_icmp .ne 7, 3) := by decide +kernel
theorem d_M_digit_111 : decode c_M_digit 111 = .ok (.lload 9, 2) := by decide +kernel
theorem d_M_digit_113 : decode c_M_digit 113 = .ok (.lstore 6, 2) := by decide +kernel
theorem d_M_digit_115 : decode c_M_digit 115 = .ok (.iinc 8 1, 3) := by decide +kernel
theorem d_M_digit_118 : decode c_M_digit 118 = .ok (.goto (-85), 3) := by decide +kernel
theorem d_M_digit_121 : decode c_M_digit 121 = .ok (.iload 5, 2) := by decide +kernel
theorem d_M_digit_123 : decode c_M_digit 123 = .ok (.ifCond .ne 6, 3) := by decide +kernel
theorem d_M_digit_126 : decode c_M_digit 126 = .ok (.iconst 1, 1) := by decide +kernel
theorem d_M_digit_127 : decode c_M_digit 127 = .ok (.istore 5, 2) := by decide +kernel
theorem d_M_digit_129 : decode c_M_digit 129 = .ok (.aload_n 0, 1) := by decide +kernel
theorem d_M_digit_130 : decode c_M_digit 130 = .ok (.iload 4, 2) := by decide +kernel
theorem d_M_digit_132 : decode c_M_digit 132 = .ok (.ifCond .eq 17, 3) := by decide +kernel
theorem d_M_digit_135 : decode c_M_digit 135 = .ok (.iload_n 3, 1) := by decide +kernel
theorem d_M_digit_136 : decode c_M_digit 136 = .ok (.ifCond .lt 13, 3) := by decide +kernel
theorem d_M_digit_139 : decode c_M_digit 139 = .ok (.iload_n 3, 1) := by decide +kernel
theorem d_M_digit_140 : decode c_M_digit 140 = .ok (.iload 5, 2) := by decide +kernel
theorem d_M_digit_142 : decode c_M_digit 142 = .ok (.if_icmp .ge 7, 3) := by decide +kernel
theorem d_M_digit_145 : decode c_M_digit 145 = .ok (.iconst 1, 1) := by decide +kernel
theorem d_M_digit_146 : decode c_M_digit 146 = .ok (.goto 4, 3) := by decide +kernel
theorem d_M_digit_149 : decode c_M_digit 149 = .ok (.iconst 0, 1) := by decide +kernel
theorem d_M_digit_150 : decode c_M_digit 150 = .ok (.iconst 1, 1) := by decide +kernel
theorem d_M_digit_151 : decode c_M_digit 151 = .ok (.iconst 1, 1) := by decide +kernel
theorem d_M_digit_152 : decode c_M_digit 152 = .ok (.invokevirtual 118, 3) := by decide +kernel
theorem d_M_digit_155 : decode c_M_digit 155 = .ok (.ifCond .ne 5, 3) := by decide +kernel
theorem d_M_digit_158 : decode c_M_digit 158 = .ok (.iconst 0, 1) := by decide +kernel
theorem d_M_digit_159 : decode c_M_digit 159 = .ok (.ireturn, 1) := by decide +kernel
theorem d_M_digit_160 : decode c_M_digit 160 = .ok (.iconst 0, 1) := by decide +kernel
theorem d_M_digit_161 : decode c_M_digit 161 = .ok (.istore 8, 2) := by decide +kernel
theorem d_M_digit_163 : decode c_M_digit 163 = .ok (.iload 8, 2) := by decide +kernel
theorem d_M_digit_165 : decode c_M_digit 165 = .ok (.iload_n 3, 1) := by decide +kernel
theorem d_M_digit_166 : decode c_M_digit 166 = .ok (.bipush 6, 2) := by decide +kernel
theorem d_M_digit_168 : decode c_M_digit 168 = .ok (.irem, 1) := by decide +kernel
theorem d_M_digit_169 : decode c_M_digit 169 = .ok (.if_icmp .ge 17, 3) := by decide +kernel
theorem d_M_digit_172 : decode c_M_digit 172 = .ok (.lload 6, 2) := by decide +kernel
theorem d_M_digit_174 : decode c_M_digit 174 = .ok (.ldc2_w 153, 3) := by decide +kernel
theorem d_M_digit_177 : decode c_M_digit 177 = .ok (.ldiv, 1) := by decide +kernel
theorem d_M_digit_178 : decode c_M_digit 178 = .ok (.lstore 6, 2) := by decide +kernel
theorem d_M_digit_180 : decode c_M_digit 180 = .ok (.iinc 8 1, 3) := by decide +kernel
theorem d_M_digit_183 : decode c_M_digit 183 = .ok (.goto (-20), 3) := by decide +kernel
theorem d_M_digit_186 : decode c_M_digit 186 = .ok (.lload 6, 2) := by decide +kernel
theorem d_M_digit_188 : decode c_M_digit 188 = .ok (.ldc2_w 153, 3) := by decide +kernel
theorem d_M_digit_191 : decode c_M_digit 191 = .ok (.lrem, 1) := by decide +kernel
theorem d_M_digit_192 : decode c_M_digit 192 = .ok (.l2i, 1) := by decide +kernel
theorem d_M_digit_193 : decode c_M_digit 193 = .ok (.ireturn, 1) := by decide +kernel
theorem d_M_many_0 : decode c_M_many 0 = .ok (.iconst 0, 1) := by decide +kernel
theorem d_M_many_1 : decode c_M_many 1 = .ok (.istore_n 2, 1) := by decide +kernel
theorem d_M_many_2 : decode c_M_many 2 = .ok (.lload_n 0, 1) := by decide +kernel
theorem d_M_many_3 : decode c_M_many 3 = .ok (.lstore_n 3, 1) := by decide +kernel
theorem d_M_many_4 : decode c_M_many 4 = .ok (.lload_n 3, 1) := by decide +kernel
theorem d_M_many_5 : decode c_M_many 5 = .ok (.lconst 0, 1) := by decide +kernel
theorem d_M_many_6 : decode c_M_many 6 = .ok (.lcmp, 1) := by decide +kernel
theorem d_M_many_7 : decode c_M_many 7 = .ok (.ifCond .le 15, 3) := by decide +kernel
theorem d_M_many_10 : decode c_M_many 10 = .ok (.iinc 2 1, 3) := by decide +kernel
theorem d_M_many_13 : decode c_M_many 13 = .ok (.lload_n 3, 1) := by decide +kernel
theorem d_M_many_14 : decode c_M_many 14 = .ok (.ldc2_w 153, 3) := by decide +kernel
theorem d_M_many_17 : decode c_M_many 17 = .ok (.ldiv, 1) := by decide +kernel
theorem d_M_many_18 : decode c_M_many 18 = .ok (.lstore_n 3, 1) := by decide +kernel
theorem d_M_many_19 : decode c_M_many 19 = .ok (.goto (-15), 3) := by decide +kernel
theorem d_M_many_22 : decode c_M_many 22 = .ok (.iload_n 2, 1) := by decide +kernel
theorem d_M_many_23 : decode c_M_many 23 = .ok (.ireturn, 1) := by decide +kernel
