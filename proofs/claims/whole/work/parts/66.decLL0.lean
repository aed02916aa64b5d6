theorem d_L_law_0 : decode c_L_law 0 = .ok (.new 8, 3) := by decide +kernel
theorem d_L_law_3 : decode c_L_law 3 = .ok (.dup, 1) := by decide +kernel
theorem d_L_law_4 : decode c_L_law 4 = .ok (.invokespecial 77, 3) := by decide +kernel
theorem d_L_law_7 : decode c_L_law 7 = .ok (.astore_n 1, 1) := by decide +kernel
theorem d_L_law_8 : decode c_L_law 8 = .ok (.new 78, 3) := by decide +kernel
theorem d_L_law_11 : decode c_L_law 11 = .ok (.dup, 1) := by decide +kernel
theorem d_L_law_12 : decode c_L_law 12 = .ok (.invokespecial 80, 3) := by decide +kernel
theorem d_L_law_15 : decode c_L_law 15 = .ok (.astore_n 2, 1) := by decide +kernel
theorem d_L_law_16 : decode c_L_law 16 = .ok (.iconst 1, 1) := by decide +kernel
theorem d_L_law_17 : decode c_L_law 17 = .ok (.newarray .long, 2) := by decide +kernel
theorem d_L_law_19 : decode c_L_law 19 = .ok (.astore_n 3, 1) := by decide +kernel
theorem d_L_law_20 : decode c_L_law 20 = .ok (.iconst 0, 1) := by decide +kernel
theorem d_L_law_21 : decode c_L_law 21 = .ok (.istore 4, 2) := by decide +kernel
theorem d_L_law_23 : decode c_L_law 23 = .ok (.iload 4, 2) := by decide +kernel
theorem d_L_law_25 : decode c_L_law 25 = .ok (.aload_n 0, 1) := by decide +kernel
theorem d_L_law_26 : decode c_L_law 26 = .ok (.arraylength, 1) := by decide +kernel
theorem d_L_law_27 : decode c_L_law 27 = .ok (.iconst 5, 1) := by decide +kernel
theorem d_L_law_28 : decode c_L_law 28 = .ok (.isub, 1) := by decide +kernel
theorem d_L_law_29 : decode c_L_law 29 = .ok (.if_icmp .gt 1383, 3) := by decide +kernel
theorem d_L_law_32 : decode c_L_law 32 = .ok (.aload_n 0, 1) := by decide +kernel
theorem d_L_law_33 : decode c_L_law 33 = .ok (.iload 4, 2) := by decide +kernel
theorem d_L_law_35 : decode c_L_law 35 = .ok (.iaload, 1) := by decide +kernel
theorem d_L_law_36 : decode c_L_law 36 = .ok (.bipush 31, 2) := by decide +kernel
theorem d_L_law_38 : decode c_L_law 38 = .ok (.iand, 1) := by decide +kernel
theorem d_L_law_39 : decode c_L_law 39 = .ok (.tableswitch 1367 0 16 #[81, 213, 281, 349, 417, 485, 553, 665, 733, 801, 869, 944, 1032, 1131, 1187, 1231, 1287], 81) := by decide +kernel
theorem d_L_law_120 : decode c_L_law 120 = .ok (.aload_n 1, 1) := by decide +kernel
theorem d_L_law_121 : decode c_L_law 121 = .ok (.aload_n 0, 1) := by decide +kernel
theorem d_L_law_122 : decode c_L_law 122 = .ok (.iload 4, 2) := by decide +kernel
theorem d_L_law_124 : decode c_L_law 124 = .ok (.iconst 1, 1) := by decide +kernel
theorem d_L_law_125 : decode c_L_law 125 = .ok (.iadd, 1) := by decide +kernel
theorem d_L_law_126 : decode c_L_law 126 = .ok (.iaload, 1) := by decide +kernel
theorem d_L_law_127 : decode c_L_law 127 = .ok (.i2l, 1) := by decide +kernel
theorem d_L_law_128 : decode c_L_law 128 = .ok (.bipush 32, 2) := by decide +kernel
theorem d_L_law_130 : decode c_L_law 130 = .ok (.lshl, 1) := by decide +kernel
theorem d_L_law_131 : decode c_L_law 131 = .ok (.aload_n 0, 1) := by decide +kernel
theorem d_L_law_132 : decode c_L_law 132 = .ok (.iload 4, 2) := by decide +kernel
theorem d_L_law_134 : decode c_L_law 134 = .ok (.iconst 2, 1) := by decide +kernel
theorem d_L_law_135 : decode c_L_law 135 = .ok (.iadd, 1) := by decide +kernel
theorem d_L_law_136 : decode c_L_law 136 = .ok (.iaload, 1) := by decide +kernel
theorem d_L_law_137 : decode c_L_law 137 = .ok (.i2l, 1) := by decide +kernel
theorem d_L_law_138 : decode c_L_law 138 = .ok (.ldc2_w 81, 3) := by decide +kernel
theorem d_L_law_141 : decode c_L_law 141 = .ok (.land, 1) := by decide +kernel
theorem d_L_law_142 : decode c_L_law 142 = .ok (.lor, 1) := by decide +kernel
theorem d_L_law_143 : decode c_L_law 143 = .ok (.aload_n 0, 1) := by decide +kernel
theorem d_L_law_144 : decode c_L_law 144 = .ok (.iload 4, 2) := by decide +kernel
theorem d_L_law_146 : decode c_L_law 146 = .ok (.iconst 3, 1) := by decide +kernel
theorem d_L_law_147 : decode c_L_law 147 = .ok (.iadd, 1) := by decide +kernel
theorem d_L_law_148 : decode c_L_law 148 = .ok (.iaload, 1) := by decide +kernel
theorem d_L_law_149 : decode c_L_law 149 = .ok (.i2l, 1) := by decide +kernel
theorem d_L_law_150 : decode c_L_law 150 = .ok (.bipush 32, 2) := by decide +kernel
theorem d_L_law_152 : decode c_L_law 152 = .ok (.lshl, 1) := by decide +kernel
theorem d_L_law_153 : decode c_L_law 153 = .ok (.aload_n 0, 1) := by decide +kernel
theorem d_L_law_154 : decode c_L_law 154 = .ok (.iload 4, 2) := by decide +kernel
theorem d_L_law_156 : decode c_L_law 156 = .ok (.iconst 4, 1) := by decide +kernel
theorem d_L_law_157 : decode c_L_law 157 = .ok (.iadd, 1) := by decide +kernel
theorem d_L_law_158 : decode c_L_law 158 = .ok (.iaload, 1) := by decide +kernel
theorem d_L_law_159 : decode c_L_law 159 = .ok (.i2l, 1) := by decide +kernel
theorem d_L_law_160 : decode c_L_law 160 = .ok (.ldc2_w 81, 3) := by decide +kernel
theorem d_L_law_163 : decode c_L_law 163 = .ok (.land, 1) := by decide +kernel
theorem d_L_law_164 : decode c_L_law 164 = .ok (.lor, 1) := by decide +kernel
theorem d_L_law_165 : decode c_L_law 165 = .ok (.aload_n 3, 1) := by decide +kernel
theorem d_L_law_166 : decode c_L_law 166 = .ok (.invokestatic 83, 3) := by decide +kernel
theorem d_L_law_169 : decode c_L_law 169 = .ok (.istore 5, 2) := by decide +kernel
theorem d_L_law_171 : decode c_L_law 171 = .ok (.aload_n 2, 1) := by decide +kernel
theorem d_L_law_172 : decode c_L_law 172 = .ok (.aload_n 0, 1) := by decide +kernel
theorem d_L_law_173 : decode c_L_law 173 = .ok (.iload 4, 2) := by decide +kernel
theorem d_L_law_175 : decode c_L_law 175 = .ok (.iconst 1, 1) := by decide +kernel
theorem d_L_law_176 : decode c_L_law 176 = .ok (.iadd, 1) := by decide +kernel
theorem d_L_law_177 : decode c_L_law 177 = .ok (.iaload, 1) := by decide +kernel
theorem d_L_law_178 : decode c_L_law 178 = .ok (.i2l, 1) := by decide +kernel
theorem d_L_law_179 : decode c_L_law 179 = .ok (.bipush 32, 2) := by decide +kernel
theorem d_L_law_181 : decode c_L_law 181 = .ok (.lshl, 1) := by decide +kernel
theorem d_L_law_182 : decode c_L_law 182 = .ok (.aload_n 0, 1) := by decide +kernel
theorem d_L_law_183 : decode c_L_law 183 = .ok (.iload 4, 2) := by decide +kernel
theorem d_L_law_185 : decode c_L_law 185 = .ok (.iconst 2, 1) := by decide +kernel
theorem d_L_law_186 : decode c_L_law 186 = .ok (.iadd, 1) := by decide +kernel
theorem d_L_law_187 : decode c_L_law 187 = .ok (.iaload, 1) := by decide +kernel
theorem d_L_law_188 : decode c_L_law 188 = .ok (.i2l, 1) := by decide +kernel
theorem d_L_law_189 : decode c_L_law 189 = .ok (.ldc2_w 81, 3) := by decide +kernel
theorem d_L_law_192 : decode c_L_law 192 = .ok (.land, 1) := by decide +kernel
theorem d_L_law_193 : decode c_L_law 193 = .ok (.lor, 1) := by decide +kernel
theorem d_L_law_194 : decode c_L_law 194 = .ok (.aload_n 0, 1) := by decide +kernel
theorem d_L_law_195 : decode c_L_law 195 = .ok (.iload 4, 2) := by decide +kernel
theorem d_L_law_197 : decode c_L_law 197 = .ok (.iconst 3, 1) := by decide +kernel
theorem d_L_law_198 : decode c_L_law 198 = .ok (.iadd, 1) := by decide +kernel
theorem d_L_law_199 : decode c_L_law 199 = .ok (.iaload, 1) := by decide +kernel
theorem d_L_law_200 : decode c_L_law 200 = .ok (.i2l, 1) := by decide +kernel
theorem d_L_law_201 : decode c_L_law 201 = .ok (.bipush 32, 2) := by decide +kernel
theorem d_L_law_203 : decode c_L_law 203 = .ok (.lshl, 1) := by decide +kernel
theorem d_L_law_204 : decode c_L_law 204 = .ok (.aload_n 0, 1) := by decide +kernel
theorem d_L_law_205 : decode c_L_law 205 = .ok (.iload 4, 2) := by decide +kernel
theorem d_L_law_207 : decode c_L_law 207 = .ok (.iconst 4, 1) := by decide +kernel
theorem d_L_law_208 : decode c_L_law 208 = .ok (.iadd, 1) := by decide +kernel
theorem d_L_law_209 : decode c_L_law 209 = .ok (.iaload, 1) := by decide +kernel
theorem d_L_law_210 : decode c_L_law 210 = .ok (.i2l, 1) := by decide +kernel
theorem d_L_law_211 : decode c_L_law 211 = .ok (.ldc2_w 81, 3) := by decide +kernel
theorem d_L_law_214 : decode c_L_law 214 = .ok (.land, 1) := by decide +kernel
theorem d_L_law_215 : decode c_L_law 215 = .ok (.lor, 1) := by decide +kernel
theorem d_L_law_216 : decode c_L_law 216 = .ok (.invokevirtual 88, 3) := by decide +kernel
theorem d_L_law_219 : decode c_L_law 219 = .ok (.istore 6, 2) := by decide +kernel
theorem d_L_law_221 : decode c_L_law 221 = .ok (.aload_n 2, 1) := by decide +kernel
theorem d_L_law_222 : decode c_L_law 222 = .ok (.invokevirtual 89, 3) := by decide +kernel
theorem d_L_law_225 : decode c_L_law 225 = .ok (.iload 5, 2) := by decide +kernel
theorem d_L_law_227 : decode c_L_law 227 = .ok (.if_icmp .eq 5, 3) := by decide +kernel
theorem d_L_law_230 : decode c_L_law 230 = .ok (.iconst 0, 1) := by decide +kernel
theorem d_L_law_231 : decode c_L_law 231 = .ok (.ireturn, 1) := by decide +kernel
theorem d_L_law_232 : decode c_L_law 232 = .ok (.iload 5, 2) := by decide +kernel
theorem d_L_law_234 : decode c_L_law 234 = .ok (.ifCond .ne 15, 3) := by decide +kernel
theorem d_L_law_237 : decode c_L_law 237 = .ok (.aload_n 3, 1) := by decide +kernel
theorem d_L_law_238 : decode c_L_law 238 = .ok (.iconst 0, 1) := by decide +kernel
theorem d_L_law_239 : decode c_L_law 239 = .ok (.laload, 1) := by decide +kernel
theorem d_L_law_240 : decode c_L_law 240 = .ok (.iload 6, 2) := by decide +kernel
theorem d_L_law_242 : decode c_L_law 242 = .ok (.i2l, 1) := by decide +kernel
theorem d_L_law_243 : decode c_L_law 243 = .ok (.lcmp, 1) := by decide +kernel
theorem d_L_law_244 : decode c_L_law 244 = .ok (.ifCond .eq 5, 3) := by decide +kernel
theorem d_L_law_247 : decode c_L_law 247 = .ok (.iconst 0, 1) := by decide +kernel
theorem d_L_law_248 : decode c_L_law 248 = .ok (.ireturn, 1) := by decide +kernel
theorem d_L_law_249 : decode c_L_law 249 = .ok (.goto 1157, 3) := by decide +kernel
theorem d_L_law_252 : decode c_L_law 252 = .ok (.aload_n 1, 1) := by decide +kernel
theorem d_L_law_253 : decode c_L_law 253 = .ok (.aload_n 0, 1) := by decide +kernel
theorem d_L_law_254 : decode c_L_law 254 = .ok (.iload 4, 2) := by decide +kernel
theorem d_L_law_256 : decode c_L_law 256 = .ok (.iconst 1, 1) := by decide +kernel
theorem d_L_law_257 : decode c_L_law 257 = .ok (.iadd, 1) := by decide +kernel
theorem d_L_law_258 : decode c_L_law 258 = .ok (.iaload, 1) := by decide +kernel
theorem d_L_law_259 : decode c_L_law 259 = .ok (.aload_n 0, 1) := by decide +kernel
theorem d_L_law_260 : decode c_L_law 260 = .ok (.iload 4, 2) := by decide +kernel
theorem d_L_law_262 : decode c_L_law 262 = .ok (.iconst 2, 1) := by decide +kernel
theorem d_L_law_263 : decode c_L_law 263 = .ok (.iadd, 1) := by decide +kernel
theorem d_L_law_264 : decode c_L_law 264 = .ok (.iaload, 1) := by decide +kernel
theorem d_L_law_265 : decode c_L_law 265 = .ok (.aload_n 3, 1) := by decide +kernel
theorem d_L_law_266 : decode c_L_law 266 = .ok (.invokestatic 92, 3) := by decide +kernel
theorem d_L_law_269 : decode c_L_law 269 = .ok (.istore 5, 2) := by decide +kernel
theorem d_L_law_271 : decode c_L_law 271 = .ok (.aload_n 2, 1) := by decide +kernel
theorem d_L_law_272 : decode c_L_law 272 = .ok (.aload_n 0, 1) := by decide +kernel
theorem d_L_law_273 : decode c_L_law 273 = .ok (.iload 4, 2) := by decide +kernel
theorem d_L_law_275 : decode c_L_law 275 = .ok (.iconst 1, 1) := by decide +kernel
theorem d_L_law_276 : decode c_L_law 276 = .ok (.iadd, 1) := by decide +kernel
theorem d_L_law_277 : decode c_L_law 277 = .ok (.iaload, 1) := by decide +kernel
theorem d_L_law_278 : decode c_L_law 278 = .ok (.aload_n 0, 1) := by decide +kernel
theorem d_L_law_279 : decode c_L_law 279 = .ok (.iload 4, 2) := by decide +kernel
theorem d_L_law_281 : decode c_L_law 281 = .ok (.iconst 2, 1) := by decide +kernel
theorem d_L_law_282 : decode c_L_law 282 = .ok (.iadd, 1) := by decide +kernel
theorem d_L_law_283 : decode c_L_law 283 = .ok (.iaload, 1) := by decide +kernel
theorem d_L_law_284 : decode c_L_law 284 = .ok (.invokevirtual 95, 3) := by decide +kernel
theorem d_L_law_287 : decode c_L_law 287 = .ok (.istore 6, 2) := by decide +kernel
theorem d_L_law_289 : decode c_L_law 289 = .ok (.aload_n 2, 1) := by decide +kernel
theorem d_L_law_290 : decode c_L_law 290 = .ok (.invokevirtual 89, 3) := by decide +kernel
theorem d_L_law_293 : decode c_L_law 293 = .ok (.iload 5, 2) := by decide +kernel
theorem d_L_law_295 : decode c_L_law 295 = .ok (.if_icmp .eq 5, 3) := by decide +kernel
theorem d_L_law_298 : decode c_L_law 298 = .ok (.iconst 0, 1) := by decide +kernel
theorem d_L_law_299 : decode c_L_law 299 = .ok (.ireturn, 1) := by decide +kernel
theorem d_L_law_300 : decode c_L_law 300 = .ok (.iload 5, 2) := by decide +kernel
theorem d_L_law_302 : decode c_L_law 302 = .ok (.ifCond .ne 15, 3) := by decide +kernel
theorem d_L_law_305 : decode c_L_law 305 = .ok (.aload_n 3, 1) := by decide +kernel
theorem d_L_law_306 : decode c_L_law 306 = .ok (.iconst 0, 1) := by decide +kernel
theorem d_L_law_307 : decode c_L_law 307 = .ok (.laload, 1) := by decide +kernel
theorem d_L_law_308 : decode c_L_law 308 = .ok (.iload 6, 2) := by decide +kernel
theorem d_L_law_310 : decode c_L_law 310 = .ok (.i2l, 1) := by decide +kernel
theorem d_L_law_311 : decode c_L_law 311 = .ok (.lcmp, 1) := by decide +kernel
theorem d_L_law_312 : decode c_L_law 312 = .ok (.ifCond .eq 5, 3) := by decide +kernel
theorem d_L_law_315 : decode c_L_law 315 = .ok (.iconst 0, 1) := by decide +kernel
theorem d_L_law_316 : decode c_L_law 316 = .ok (.ireturn, 1) := by decide +kernel
theorem d_L_law_317 : decode c_L_law 317 = .ok (.goto 1089, 3) := by decide +kernel
theorem d_L_law_320 : decode c_L_law 320 = .ok (.aload_n 1, 1) := by decide +kernel
theorem d_L_law_321 : decode c_L_law 321 = .ok (.aload_n 0, 1) := by decide +kernel
theorem d_L_law_322 : decode c_L_law 322 = .ok (.iload 4, 2) := by decide +kernel
theorem d_L_law_324 : decode c_L_law 324 = .ok (.iconst 1, 1) := by decide +kernel
theorem d_L_law_325 : decode c_L_law 325 = .ok (.iadd, 1) := by decide +kernel
theorem d_L_law_326 : decode c_L_law 326 = .ok (.iaload, 1) := by decide +kernel
theorem d_L_law_327 : decode c_L_law 327 = .ok (.aload_n 0, 1) := by decide +kernel
theorem d_L_law_328 : decode c_L_law 328 = .ok (.iload 4, 2) := by decide +kernel
theorem d_L_law_330 : decode c_L_law 330 = .ok (.iconst 2, 1) := by decide +kernel
theorem d_L_law_331 : decode c_L_law 331 = .ok (.iadd, 1) := by decide +kernel
theorem d_L_law_332 : decode c_L_law 332 = .ok (.iaload, 1) := by decide +kernel
theorem d_L_law_333 : decode c_L_law 333 = .ok (.aload_n 3, 1) := by decide +kernel
theorem d_L_law_334 : decode c_L_law 334 = .ok (.invokestatic 96, 3) := by decide +kernel
theorem d_L_law_337 : decode c_L_law 337 = .ok (.istore 5, 2) := by decide +kernel
theorem d_L_law_339 : decode c_L_law 339 = .ok (.aload_n 2, 1) := by decide +kernel
theorem d_L_law_340 : decode c_L_law 340 = .ok (.aload_n 0, 1) := by decide +kernel
theorem d_L_law_341 : decode c_L_law 341 = .ok (.iload 4, 2) := by decide +kernel
theorem d_L_law_343 : decode c_L_law 343 = .ok (.iconst 1, 1) := by decide +kernel
theorem d_L_law_344 : decode c_L_law 344 = .ok (.iadd, 1) := by decide +kernel
theorem d_L_law_345 : decode c_L_law 345 = .ok (.iaload, 1) := by decide +kernel
theorem d_L_law_346 : decode c_L_law 346 = .ok (.aload_n 0, 1) := by decide +kernel
theorem d_L_law_347 : decode c_L_law 347 = .ok (.iload 4, 2) := by decide +kernel
theorem d_L_law_349 : decode c_L_law 349 = .ok (.iconst 2, 1) := by decide +kernel
theorem d_L_law_350 : decode c_L_law 350 = .ok (.iadd, 1) := by decide +kernel
theorem d_L_law_351 : decode c_L_law 351 = .ok (.iaload, 1) := by decide +kernel
theorem d_L_law_352 : decode c_L_law 352 = .ok (.invokevirtual 98, 3) := by decide +kernel
theorem d_L_law_355 : decode c_L_law 355 = .ok (.istore 6, 2) := by decide +kernel
theorem d_L_law_357 : decode c_L_law 357 = .ok (.aload_n 2, 1) := by decide +kernel
theorem d_L_law_358 : decode c_L_law 358 = .ok (.invokevirtual 89, 3) := by decide +kernel
theorem d_L_law_361 : decode c_L_law 361 = .ok (.iload 5, 2) := by decide +kernel
theorem d_L_law_363 : decode c_L_law 363 = .ok (.if_icmp .eq 5, 3) := by decide +kernel
theorem d_L_law_366 : decode c_L_law 366 = .ok (.iconst 0, 1) := by decide +kernel
theorem d_L_law_367 : decode c_L_law 367 = .ok (.ireturn, 1) := by decide +kernel
theorem d_L_law_368 : decode c_L_law 368 = .ok (.iload 5, 2) := by decide +kernel
theorem d_L_law_370 : decode c_L_law 370 = .ok (.ifCond .ne 15, 3) := by decide +kernel
theorem d_L_law_373 : decode c_L_law 373 = .ok (.aload_n 3, 1) := by decide +kernel
theorem d_L_law_374 : decode c_L_law 374 = .ok (.iconst 0, 1) := by decide +kernel
