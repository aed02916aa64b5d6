theorem d_M_divide_24 : decode c_M_divide 24 = .ok (.iload_n 1, 1) := by decide +kernel
theorem d_M_divide_25 : decode c_M_divide 25 = .ok (.iload_n 2, 1) := by decide +kernel
theorem d_M_divide_26 : decode c_M_divide 26 = .ok (.iload 4, 2) := by decide +kernel
theorem d_M_divide_28 : decode c_M_divide 28 = .ok (.invokevirtual 62, 3) := by decide +kernel
theorem d_M_divide_31 : decode c_M_divide 31 = .ok (.ifCond .eq 157, 3) := by decide +kernel
theorem d_M_divide_34 : decode c_M_divide 34 = .ok (.aload_n 0, 1) := by decide +kernel
theorem d_M_divide_35 : decode c_M_divide 35 = .ok (.iload_n 1, 1) := by decide +kernel
theorem d_M_divide_36 : decode c_M_divide 36 = .ok (.iload_n 2, 1) := by decide +kernel
theorem d_M_divide_37 : decode c_M_divide 37 = .ok (.iload 4, 2) := by decide +kernel
theorem d_M_divide_39 : decode c_M_divide 39 = .ok (.invokevirtual 66, 3) := by decide +kernel
theorem d_M_divide_42 : decode c_M_divide 42 = .ok (.lstore 5, 2) := by decide +kernel
theorem d_M_divide_44 : decode c_M_divide 44 = .ok (.aload_n 0, 1) := by decide +kernel
theorem d_M_divide_45 : decode c_M_divide 45 = .ok (.getfield 7, 3) := by decide +kernel
theorem d_M_divide_48 : decode c_M_divide 48 = .ok (.iload_n 3, 1) := by decide +kernel
theorem d_M_divide_49 : decode c_M_divide 49 = .ok (.bipush 20, 2) := by decide +kernel
theorem d_M_divide_51 : decode c_M_divide 51 = .ok (.imul, 1) := by decide +kernel
theorem d_M_divide_52 : decode c_M_divide 52 = .ok (.iload 4, 2) := by decide +kernel
theorem d_M_divide_54 : decode c_M_divide 54 = .ok (.iadd, 1) := by decide +kernel
theorem d_M_divide_55 : decode c_M_divide 55 = .ok (.aload_n 0, 1) := by decide +kernel
theorem d_M_divide_56 : decode c_M_divide 56 = .ok (.getfield 7, 3) := by decide +kernel
theorem d_M_divide_59 : decode c_M_divide 59 = .ok (.iload_n 3, 1) := by decide +kernel
theorem d_M_divide_60 : decode c_M_divide 60 = .ok (.bipush 20, 2) := by decide +kernel
theorem d_M_divide_62 : decode c_M_divide 62 = .ok (.imul, 1) := by decide +kernel
theorem d_M_divide_63 : decode c_M_divide 63 = .ok (.iload 4, 2) := by decide +kernel
theorem d_M_divide_65 : decode c_M_divide 65 = .ok (.iadd, 1) := by decide +kernel
theorem d_M_divide_66 : decode c_M_divide 66 = .ok (.laload, 1) := by decide +kernel
theorem d_M_divide_67 : decode c_M_divide 67 = .ok (.lload 5, 2) := by decide +kernel
theorem d_M_divide_69 : decode c_M_divide 69 = .ok (.ladd, 1) := by decide +kernel
theorem d_M_divide_70 : decode c_M_divide 70 = .ok (.lastore, 1) := by decide +kernel
theorem d_M_divide_71 : decode c_M_divide 71 = .ok (.lconst 0, 1) := by decide +kernel
theorem d_M_divide_72 : decode c_M_divide 72 = .ok (.lstore 7, 2) := by decide +kernel
theorem d_M_divide_74 : decode c_M_divide 74 = .ok (.aload_n 0, 1) := by decide +kernel
theorem d_M_divide_75 : decode c_M_divide 75 = .ok (.iload_n 1, 1) := by decide +kernel
theorem d_M_divide_76 : decode c_M_divide 76 = .ok (.invokevirtual 56, 3) := by decide +kernel
theorem d_M_divide_79 : decode c_M_divide 79 = .ok (.istore 9, 2) := by decide +kernel
theorem d_M_divide_81 : decode c_M_divide 81 = .ok (.iload 4, 2) := by decide +kernel
theorem d_M_divide_83 : decode c_M_divide 83 = .ok (.istore 10, 2) := by decide +kernel
theorem d_M_divide_85 : decode c_M_divide 85 = .ok (.iload 10, 2) := by decide +kernel
theorem d_M_divide_87 : decode c_M_divide 87 = .ok (.iload 9, 2) := by decide +kernel
theorem d_M_divide_89 : decode c_M_divide 89 = .ok (.if_icmp .gt 96, 3) := by decide +kernel
theorem d_M_divide_92 : decode c_M_divide 92 = .ok (.aload_n 0, 1) := by decide +kernel
theorem d_M_divide_93 : decode c_M_divide 93 = .ok (.getfield 7, 3) := by decide +kernel
theorem d_M_divide_96 : decode c_M_divide 96 = .ok (.iload_n 1, 1) := by decide +kernel
theorem d_M_divide_97 : decode c_M_divide 97 = .ok (.bipush 20, 2) := by decide +kernel
theorem d_M_divide_99 : decode c_M_divide 99 = .ok (.imul, 1) := by decide +kernel
theorem d_M_divide_100 : decode c_M_divide 100 = .ok (.iload 10, 2) := by decide +kernel
theorem d_M_divide_102 : decode c_M_divide 102 = .ok (.iadd, 1) := by decide +kernel
theorem d_M_divide_103 : decode c_M_divide 103 = .ok (.laload, 1) := by decide +kernel
theorem d_M_divide_104 : decode c_M_divide 104 = .ok (.lload 7, 2) := by decide +kernel
theorem d_M_divide_106 : decode c_M_divide 106 = .ok (.lsub, 1) := by decide +kernel
theorem d_M_divide_107 : decode c_M_divide 107 = .ok (.lload 5, 2) := by decide +kernel
theorem d_M_divide_109 : decode c_M_divide 109 = .ok (.aload_n 0, 1) := by decide +kernel
theorem d_M_divide_110 : decode c_M_divide 110 = .ok (.getfield 7, 3) := by decide +kernel
theorem d_M_divide_113 : decode c_M_divide 113 = .ok (.iload_n 2, 1) := by decide +kernel
theorem d_M_divide_114 : decode c_M_divide 114 = .ok (.bipush 20, 2) := by decide +kernel
theorem d_M_divide_116 : decode c_M_divide 116 = .ok (.imul, 1) := by decide +kernel
theorem d_M_divide_117 : decode c_M_divide 117 = .ok (.iload 10, 2) := by decide +kernel
theorem d_M_divide_119 : decode c_M_divide 119 = .ok (.iadd, 1) := by decide +kernel
theorem d_M_divide_120 : decode c_M_divide 120 = .ok (.iload 4, 2) := by decide +kernel
theorem d_M_divide_122 : decode c_M_divide 122 = .ok (.isub, 1) := by decide +kernel
theorem d_M_divide_123 : decode c_M_divide 123 = .ok (.laload, 1) := by decide +kernel
theorem d_M_divide_124 : decode c_M_divide 124 = .ok (.lmul, 1) := by decide +kernel
theorem d_M_divide_125 : decode c_M_divide 125 = .ok (.lsub, 1) := by decide +kernel
theorem d_M_divide_126 : decode c_M_divide 126 = .ok (.lstore 11, 2) := by decide +kernel
theorem d_M_divide_128 : decode c_M_divide 128 = .ok (.lload 11, 2) := by decide +kernel
theorem d_M_divide_130 : decode c_M_divide 130 = .ok (.lconst 0, 1) := by decide +kernel
theorem d_M_divide_131 : decode c_M_divide 131 = .ok (.lcmp, 1) := by decide +kernel
theorem d_M_divide_132 : decode c_M_divide 132 = .ok (.ifCond .ge 19, 3) := by decide +kernel
theorem d_M_divide_135 : decode c_M_divide 135 = .ok (.lload 11, 2) := by decide +kernel
theorem d_M_divide_137 : decode c_M_divide 137 = .ok (.lneg, 1) := by decide +kernel
theorem d_M_divide_138 : decode c_M_divide 138 = .ok (.ldc2_w 54, 3) := by decide +kernel
theorem d_M_divide_141 : decode c_M_divide 141 = .ok (.ladd, 1) := by decide +kernel
theorem d_M_divide_142 : decode c_M_divide 142 = .ok (.lconst 1, 1) := by decide +kernel
theorem d_M_divide_143 : decode c_M_divide 143 = .ok (.lsub, 1) := by decide +kernel
theorem d_M_divide_144 : decode c_M_divide 144 = .ok (.ldc2_w 54, 3) := by decide +kernel
theorem d_M_divide_147 : decode c_M_divide 147 = .ok (.ldiv, 1) := by decide +kernel
theorem d_M_divide_148 : decode c_M_divide 148 = .ok (.goto 4, 3) := by decide +kernel
theorem d_M_divide_151 : decode c_M_divide 151 = .ok (.lconst 0, 1) := by decide +kernel
theorem d_M_divide_152 : decode c_M_divide 152 = .ok (.lstore 13, 2) := by decide +kernel
theorem d_M_divide_154 : decode c_M_divide 154 = .ok (.aload_n 0, 1) := by decide +kernel
theorem d_M_divide_155 : decode c_M_divide 155 = .ok (.getfield 7, 3) := by decide +kernel
theorem d_M_divide_158 : decode c_M_divide 158 = .ok (.iload_n 1, 1) := by decide +kernel
theorem d_M_divide_159 : decode c_M_divide 159 = .ok (.bipush 20, 2) := by decide +kernel
theorem d_M_divide_161 : decode c_M_divide 161 = .ok (.imul, 1) := by decide +kernel
theorem d_M_divide_162 : decode c_M_divide 162 = .ok (.iload 10, 2) := by decide +kernel
theorem d_M_divide_164 : decode c_M_divide 164 = .ok (.iadd, 1) := by decide +kernel
theorem d_M_divide_165 : decode c_M_divide 165 = .ok (.lload 11, 2) := by decide +kernel
theorem d_M_divide_167 : decode c_M_divide 167 = .ok (.lload 13, 2) := by decide +kernel
theorem d_M_divide_169 : decode c_M_divide 169 = .ok (.ldc2_w 54, 3) := by decide +kernel
theorem d_M_divide_172 : decode c_M_divide 172 = .ok (.lmul, 1) := by decide +kernel
theorem d_M_divide_173 : decode c_M_divide 173 = .ok (.ladd, 1) := by decide +kernel
theorem d_M_divide_174 : decode c_M_divide 174 = .ok (.lastore, 1) := by decide +kernel
theorem d_M_divide_175 : decode c_M_divide 175 = .ok (.lload 13, 2) := by decide +kernel
theorem d_M_divide_177 : decode c_M_divide 177 = .ok (.lstore 7, 2) := by decide +kernel
theorem d_M_divide_179 : decode c_M_divide 179 = .ok (.iinc 10 1, 3) := by decide +kernel
theorem d_M_divide_182 : decode c_M_divide 182 = .ok (.goto (-97), 3) := by decide +kernel
theorem d_M_divide_185 : decode c_M_divide 185 = .ok (.goto (-162), 3) := by decide +kernel
theorem d_M_divide_188 : decode c_M_divide 188 = .ok (.iinc 4 (-1), 3) := by decide +kernel
theorem d_M_divide_191 : decode c_M_divide 191 = .ok (.goto (-173), 3) := by decide +kernel
theorem d_M_divide_194 : decode c_M_divide 194 = .ok (.iconst 0, 1) := by decide +kernel
theorem d_M_divide_195 : decode c_M_divide 195 = .ok (.istore 4, 2) := by decide +kernel
theorem d_M_divide_197 : decode c_M_divide 197 = .ok (.iload 4, 2) := by decide +kernel
theorem d_M_divide_199 : decode c_M_divide 199 = .ok (.bipush 19, 2) := by decide +kernel
theorem d_M_divide_201 : decode c_M_divide 201 = .ok (.if_icmp .ge 82, 3) := by decide +kernel
theorem d_M_divide_204 : decode c_M_divide 204 = .ok (.aload_n 0, 1) := by decide +kernel
theorem d_M_divide_205 : decode c_M_divide 205 = .ok (.getfield 7, 3) := by decide +kernel
theorem d_M_divide_208 : decode c_M_divide 208 = .ok (.iload_n 3, 1) := by decide +kernel
theorem d_M_divide_209 : decode c_M_divide 209 = .ok (.bipush 20, 2) := by decide +kernel
theorem d_M_divide_211 : decode c_M_divide 211 = .ok (.imul, 1) := by decide +kernel
theorem d_M_divide_212 : decode c_M_divide 212 = .ok (.iload 4, 2) := by decide +kernel
theorem d_M_divide_214 : decode c_M_divide 214 = .ok (.iadd, 1) := by decide +kernel
theorem d_M_divide_215 : decode c_M_divide 215 = .ok (.iconst 1, 1) := by decide +kernel
theorem d_M_divide_216 : decode c_M_divide 216 = .ok (.iadd, 1) := by decide +kernel
theorem d_M_divide_217 : decode c_M_divide 217 = .ok (.aload_n 0, 1) := by decide +kernel
theorem d_M_divide_218 : decode c_M_divide 218 = .ok (.getfield 7, 3) := by decide +kernel
theorem d_M_divide_221 : decode c_M_divide 221 = .ok (.iload_n 3, 1) := by decide +kernel
theorem d_M_divide_222 : decode c_M_divide 222 = .ok (.bipush 20, 2) := by decide +kernel
theorem d_M_divide_224 : decode c_M_divide 224 = .ok (.imul, 1) := by decide +kernel
theorem d_M_divide_225 : decode c_M_divide 225 = .ok (.iload 4, 2) := by decide +kernel
theorem d_M_divide_227 : decode c_M_divide 227 = .ok (.iadd, 1) := by decide +kernel
theorem d_M_divide_228 : decode c_M_divide 228 = .ok (.iconst 1, 1) := by decide +kernel
theorem d_M_divide_229 : decode c_M_divide 229 = .ok (.iadd, 1) := by decide +kernel
theorem d_M_divide_230 : decode c_M_divide 230 = .ok (.laload, 1) := by decide +kernel
theorem d_M_divide_231 : decode c_M_divide 231 = .ok (.aload_n 0, 1) := by decide +kernel
theorem d_M_divide_232 : decode c_M_divide 232 = .ok (.getfield 7, 3) := by decide +kernel
theorem d_M_divide_235 : decode c_M_divide 235 = .ok (.iload_n 3, 1) := by decide +kernel
theorem d_M_divide_236 : decode c_M_divide 236 = .ok (.bipush 20, 2) := by decide +kernel
theorem d_M_divide_238 : decode c_M_divide 238 = .ok (.imul, 1) := by decide +kernel
theorem d_M_divide_239 : decode c_M_divide 239 = .ok (.iload 4, 2) := by decide +kernel
theorem d_M_divide_241 : decode c_M_divide 241 = .ok (.iadd, 1) := by decide +kernel
theorem d_M_divide_242 : decode c_M_divide 242 = .ok (.laload, 1) := by decide +kernel
theorem d_M_divide_243 : decode c_M_divide 243 = .ok (.ldc2_w 54, 3) := by decide +kernel
theorem d_M_divide_246 : decode c_M_divide 246 = .ok (.ldiv, 1) := by decide +kernel
theorem d_M_divide_247 : decode c_M_divide 247 = .ok (.ladd, 1) := by decide +kernel
theorem d_M_divide_248 : decode c_M_divide 248 = .ok (.lastore, 1) := by decide +kernel
theorem d_M_divide_249 : decode c_M_divide 249 = .ok (.aload_n 0, 1) := by decide +kernel
theorem d_M_divide_250 : decode c_M_divide 250 = .ok (.getfield 7, 3) := by decide +kernel
theorem d_M_divide_253 : decode c_M_divide 253 = .ok (.iload_n 3, 1) := by decide +kernel
theorem d_M_divide_254 : decode c_M_divide 254 = .ok (.bipush 20, 2) := by decide +kernel
theorem d_M_divide_256 : decode c_M_divide 256 = .ok (.imul, 1) := by decide +kernel
theorem d_M_divide_257 : decode c_M_divide 257 = .ok (.iload 4, 2) := by decide +kernel
theorem d_M_divide_259 : decode c_M_divide 259 = .ok (.iadd, 1) := by decide +kernel
theorem d_M_divide_260 : decode c_M_divide 260 = .ok (.aload_n 0, 1) := by decide +kernel
theorem d_M_divide_261 : decode c_M_divide 261 = .ok (.getfield 7, 3) := by decide +kernel
theorem d_M_divide_264 : decode c_M_divide 264 = .ok (.iload_n 3, 1) := by decide +kernel
theorem d_M_divide_265 : decode c_M_divide 265 = .ok (.bipush 20, 2) := by decide +kernel
theorem d_M_divide_267 : decode c_M_divide 267 = .ok (.imul, 1) := by decide +kernel
theorem d_M_divide_268 : decode c_M_divide 268 = .ok (.iload 4, 2) := by decide +kernel
theorem d_M_divide_270 : decode c_M_divide 270 = .ok (.iadd, 1) := by decide +kernel
theorem d_M_divide_271 : decode c_M_divide 271 = .ok (.laload, 1) := by decide +kernel
theorem d_M_divide_272 : decode c_M_divide 272 = .ok (.ldc2_w 54, 3) := by decide +kernel
theorem d_M_divide_275 : decode c_M_divide 275 = .ok (.lrem, 1) := by decide +kernel
theorem d_M_divide_276 : decode c_M_divide 276 = .ok (.lastore, 1) := by decide +kernel
theorem d_M_divide_277 : decode c_M_divide 277 = .ok (.iinc 4 1, 3) := by decide +kernel
theorem d_M_divide_280 : decode c_M_divide 280 = .ok (.goto (-83), 3) := by decide +kernel
theorem d_M_divide_283 : decode c_M_divide 283 = .ok (.return_, 1) := by decide +kernel
theorem d_M_reaches_0 : decode c_M_reaches 0 = .ok (.aload_n 0, 1) := by decide +kernel
theorem d_M_reaches_1 : decode c_M_reaches 1 = .ok (.iload_n 1, 1) := by decide +kernel
theorem d_M_reaches_2 : decode c_M_reaches 2 = .ok (.invokevirtual 56, 3) := by decide +kernel
theorem d_M_reaches_5 : decode c_M_reaches 5 = .ok (.istore 4, 2) := by decide +kernel
theorem d_M_reaches_7 : decode c_M_reaches 7 = .ok (.aload_n 0, 1) := by decide +kernel
theorem d_M_reaches_8 : decode c_M_reaches 8 = .ok (.iload_n 2, 1) := by decide +kernel
theorem d_M_reaches_9 : decode c_M_reaches 9 = .ok (.invokevirtual 56, 3) := by decide +kernel
theorem d_M_reaches_12 : decode c_M_reaches 12 = .ok (.iload_n 3, 1) := by decide +kernel
theorem d_M_reaches_13 : decode c_M_reaches 13 = .ok (.iadd, 1) := by decide +kernel
theorem d_M_reaches_14 : decode c_M_reaches 14 = .ok (.istore 5, 2) := by decide +kernel
theorem d_M_reaches_16 : decode c_M_reaches 16 = .ok (.iload 4, 2) := by decide +kernel
theorem d_M_reaches_18 : decode c_M_reaches 18 = .ok (.iload 5, 2) := by decide +kernel
theorem d_M_reaches_20 : decode c_M_reaches 20 = .ok (.if_icmp .eq 16, 3) := by decide +kernel
theorem d_M_reaches_23 : decode c_M_reaches 23 = .ok (.iload 4, 2) := by decide +kernel
theorem d_M_reaches_25 : decode c_M_reaches 25 = .ok (.iload 5, 2) := by decide +kernel
theorem d_M_reaches_27 : decode c_M_reaches 27 = .ok (.if_icmp .le 7, 3) := by decide +kernel
theorem d_M_reaches_30 : decode c_M_reaches 30 = .ok (.iconst 1, 1) := by decide +kernel
theorem d_M_reaches_31 : decode c_M_reaches 31 = .ok (.goto 4, 3) := by decide +kernel
theorem d_M_reaches_34 : decode c_M_reaches 34 = .ok (.iconst 0, 1) := by decide +kernel
theorem d_M_reaches_35 : decode c_M_reaches 35 = .ok (.ireturn, 1) := by decide +kernel
theorem d_M_reaches_36 : decode c_M_reaches 36 = .ok (.iload 4, 2) := by decide +kernel
theorem d_M_reaches_38 : decode c_M_reaches 38 = .ok (.istore 6, 2) := by decide +kernel
theorem d_M_reaches_40 : decode c_M_reaches 40 = .ok (.iload 6, 2) := by decide +kernel
theorem d_M_reaches_42 : decode c_M_reaches 42 = .ok (.ifCond .lt 71, 3) := by decide +kernel
theorem d_M_reaches_45 : decode c_M_reaches 45 = .ok (.aload_n 0, 1) := by decide +kernel
theorem d_M_reaches_46 : decode c_M_reaches 46 = .ok (.getfield 7, 3) := by decide +kernel
theorem d_M_reaches_49 : decode c_M_reaches 49 = .ok (.iload_n 1, 1) := by decide +kernel
theorem d_M_reaches_50 : decode c_M_reaches 50 = .ok (.bipush 20, 2) := by decide +kernel
theorem d_M_reaches_52 : decode c_M_reaches 52 = .ok (.imul, 1) := by decide +kernel
theorem d_M_reaches_53 : decode c_M_reaches 53 = .ok (.iload 6, 2) := by decide +kernel
theorem d_M_reaches_55 : decode c_M_reaches 55 = .ok (.iadd, 1) := by decide +kernel
theorem d_M_reaches_56 : decode c_M_reaches 56 = .ok (.laload, 1) := by decide +kernel
theorem d_M_reaches_57 : decode c_M_reaches 57 = .ok (.lstore 7, 2) := by decide +kernel
theorem d_M_reaches_59 : decode c_M_reaches 59 = .ok (.iload 6, 2) := by decide +kernel
theorem d_M_reaches_61 : decode c_M_reaches 61 = .ok (.iload_n 3, 1) := by decide +kernel
theorem d_M_reaches_62 : decode c_M_reaches 62 = .ok (.if_icmp .lt 20, 3) := by decide +kernel
theorem d_M_reaches_65 : decode c_M_reaches 65 = .ok (.aload_n 0, 1) := by decide +kernel
theorem d_M_reaches_66 : decode c_M_reaches 66 = .ok (.getfield 7, 3) := by decide +kernel
theorem d_M_reaches_69 : decode c_M_reaches 69 = .ok (.iload_n 2, 1) := by decide +kernel
theorem d_M_reaches_70 : decode c_M_reaches 70 = .ok (.bipush 20, 2) := by decide +kernel
theorem d_M_reaches_72 : decode c_M_reaches 72 = .ok (.imul, 1) := by decide +kernel
theorem d_M_reaches_73 : decode c_M_reaches 73 = .ok (.iload 6, 2) := by decide +kernel
theorem d_M_reaches_75 : decode c_M_reaches 75 = .ok (.iadd, 1) := by decide +kernel
theorem d_M_reaches_76 : decode c_M_reaches 76 = .ok (.iload_n 3, 1) := by decide +kernel
theorem d_M_reaches_77 : decode c_M_reaches 77 = .ok (.isub, 1) := by decide +kernel
theorem d_M_reaches_78 : decode c_M_reaches 78 = .ok (.laload, 1) := by decide +kernel
theorem d_M_reaches_79 : decode c_M_reaches 79 = .ok (.goto 4, 3) := by decide +kernel
theorem d_M_reaches_82 : decode c_M_reaches 82 = .ok (.lconst 0, 1) := by decide +kernel
theorem d_M_reaches_83 : decode c_M_reaches 83 = .ok (.lstore 9, 2) := by decide +kernel
theorem d_M_reaches_85 : decode c_M_reaches 85 = .ok (.lload 7, 2) := by decide +kernel
theorem d_M_reaches_87 : decode c_M_reaches 87 = .ok (.lload 9, 2) := by decide +kernel
theorem d_M_reaches_89 : decode c_M_reaches 89 = .ok (.lcmp, 1) := by decide +kernel
theorem d_M_reaches_90 : decode c_M_reaches 90 = .ok (.ifCond .eq 17, 3) := by decide +kernel
theorem d_M_reaches_93 : decode c_M_reaches 93 = .ok (.lload 7, 2) := by decide +kernel
theorem d_M_reaches_95 : decode c_M_reaches 95 = .ok (.lload 9, 2) := by decide +kernel
theorem d_M_reaches_97 : decode c_M_reaches 97 = .ok (.lcmp, 1) := by decide +kernel
theorem d_M_reaches_98 : decode c_M_reaches 98 = .ok (.ifCond .le 7, 3) := by decide +kernel
theorem d_M_reaches_101 : decode c_M_reaches 101 = .ok (.iconst 1, 1) := by decide +kernel
theorem d_M_reaches_102 : decode c_M_reaches 102 = .ok (.goto 4, 3) := by decide +kernel
theorem d_M_reaches_105 : decode c_M_reaches 105 = .ok (.iconst 0, 1) := by decide +kernel
theorem d_M_reaches_106 : decode c_M_reaches 106 = .ok (.ireturn, 1) := by decide +kernel
theorem d_M_reaches_107 : decode c_M_reaches 107 = .ok (.iinc 6 (-1), 3) := by decide +kernel
theorem d_M_reaches_110 : decode c_M_reaches 110 = .ok (.goto (-70), 3) := by decide +kernel
theorem d_M_reaches_113 : decode c_M_reaches 113 = .ok (.iconst 1, 1) := by decide +kernel
theorem d_M_reaches_114 : decode c_M_reaches 114 = .ok (.ireturn, 1) := by decide +kernel
theorem d_M_often_0 : decode c_M_often 0 = .ok (.aload_n 0, 1) := by decide +kernel
theorem d_M_often_1 : decode c_M_often 1 = .ok (.iload_n 2, 1) := by decide +kernel
theorem d_M_often_2 : decode c_M_often 2 = .ok (.invokevirtual 56, 3) := by decide +kernel
theorem d_M_often_5 : decode c_M_often 5 = .ok (.istore 4, 2) := by decide +kernel
theorem d_M_often_7 : decode c_M_often 7 = .ok (.iload 4, 2) := by decide +kernel
theorem d_M_often_9 : decode c_M_often 9 = .ok (.iload_n 3, 1) := by decide +kernel
theorem d_M_often_10 : decode c_M_often 10 = .ok (.iadd, 1) := by decide +kernel
theorem d_M_often_11 : decode c_M_often 11 = .ok (.iconst 1, 1) := by decide +kernel
theorem d_M_often_12 : decode c_M_often 12 = .ok (.iadd, 1) := by decide +kernel
theorem d_M_often_13 : decode c_M_often 13 = .ok (.bipush 20, 2) := by decide +kernel
theorem d_M_often_15 : decode c_M_often 15 = .ok (.if_icmp .ge 22, 3) := by decide +kernel
theorem d_M_often_18 : decode c_M_often 18 = .ok (.aload_n 0, 1) := by decide +kernel
theorem d_M_often_19 : decode c_M_often 19 = .ok (.getfield 7, 3) := by decide +kernel
theorem d_M_often_22 : decode c_M_often 22 = .ok (.iload_n 1, 1) := by decide +kernel
theorem d_M_often_23 : decode c_M_often 23 = .ok (.bipush 20, 2) := by decide +kernel
theorem d_M_often_25 : decode c_M_often 25 = .ok (.imul, 1) := by decide +kernel
theorem d_M_often_26 : decode c_M_often 26 = .ok (.iload 4, 2) := by decide +kernel
theorem d_M_often_28 : decode c_M_often 28 = .ok (.iadd, 1) := by decide +kernel
theorem d_M_often_29 : decode c_M_often 29 = .ok (.iload_n 3, 1) := by decide +kernel
theorem d_M_often_30 : decode c_M_often 30 = .ok (.iadd, 1) := by decide +kernel
theorem d_M_often_31 : decode c_M_often 31 = .ok (.iconst 1, 1) := by decide +kernel
theorem d_M_often_32 : decode c_M_often 32 = .ok (.iadd, 1) := by decide +kernel
theorem d_M_often_33 : decode c_M_often 33 = .ok (.laload, 1) := by decide +kernel
theorem d_M_often_34 : decode c_M_often 34 = .ok (.goto 4, 3) := by decide +kernel
theorem d_M_often_37 : decode c_M_often 37 = .ok (.lconst 0, 1) := by decide +kernel
theorem d_M_often_38 : decode c_M_often 38 = .ok (.lstore 5, 2) := by decide +kernel
theorem d_M_often_40 : decode c_M_often 40 = .ok (.lload 5, 2) := by decide +kernel
theorem d_M_often_42 : decode c_M_often 42 = .ok (.ldc2_w 54, 3) := by decide +kernel
theorem d_M_often_45 : decode c_M_often 45 = .ok (.lmul, 1) := by decide +kernel
theorem d_M_often_46 : decode c_M_often 46 = .ok (.aload_n 0, 1) := by decide +kernel
theorem d_M_often_47 : decode c_M_often 47 = .ok (.getfield 7, 3) := by decide +kernel
theorem d_M_often_50 : decode c_M_often 50 = .ok (.iload_n 1, 1) := by decide +kernel
theorem d_M_often_51 : decode c_M_often 51 = .ok (.bipush 20, 2) := by decide +kernel
theorem d_M_often_53 : decode c_M_often 53 = .ok (.imul, 1) := by decide +kernel
theorem d_M_often_54 : decode c_M_often 54 = .ok (.iload 4, 2) := by decide +kernel
theorem d_M_often_56 : decode c_M_often 56 = .ok (.iadd, 1) := by decide +kernel
theorem d_M_often_57 : decode c_M_often 57 = .ok (.iload_n 3, 1) := by decide +kernel
theorem d_M_often_58 : decode c_M_often 58 = .ok (.iadd, 1) := by decide +kernel
theorem d_M_often_59 : decode c_M_often 59 = .ok (.laload, 1) := by decide +kernel
theorem d_M_often_60 : decode c_M_often 60 = .ok (.ladd, 1) := by decide +kernel
theorem d_M_often_61 : decode c_M_often 61 = .ok (.lstore 5, 2) := by decide +kernel
theorem d_M_often_63 : decode c_M_often 63 = .ok (.aload_n 0, 1) := by decide +kernel
theorem d_M_often_64 : decode c_M_often 64 = .ok (.getfield 7, 3) := by decide +kernel
theorem d_M_often_67 : decode c_M_often 67 = .ok (.iload_n 2, 1) := by decide +kernel
theorem d_M_often_68 : decode c_M_often 68 = .ok (.bipush 20, 2) := by decide +kernel
theorem d_M_often_70 : decode c_M_often 70 = .ok (.imul, 1) := by decide +kernel
theorem d_M_often_71 : decode c_M_often 71 = .ok (.iload 4, 2) := by decide +kernel
theorem d_M_often_73 : decode c_M_often 73 = .ok (.iadd, 1) := by decide +kernel
theorem d_M_often_74 : decode c_M_often 74 = .ok (.laload, 1) := by decide +kernel
theorem d_M_often_75 : decode c_M_often 75 = .ok (.lstore 7, 2) := by decide +kernel
theorem d_M_often_77 : decode c_M_often 77 = .ok (.iload 4, 2) := by decide +kernel
theorem d_M_often_79 : decode c_M_often 79 = .ok (.ifCond .le 53, 3) := by decide +kernel
theorem d_M_often_82 : decode c_M_often 82 = .ok (.lload 5, 2) := by decide +kernel
theorem d_M_often_84 : decode c_M_often 84 = .ok (.ldc2_w 54, 3) := by decide +kernel
theorem d_M_often_87 : decode c_M_often 87 = .ok (.lmul, 1) := by decide +kernel
theorem d_M_often_88 : decode c_M_often 88 = .ok (.aload_n 0, 1) := by decide +kernel
theorem d_M_often_89 : decode c_M_often 89 = .ok (.getfield 7, 3) := by decide +kernel
theorem d_M_often_92 : decode c_M_often 92 = .ok (.iload_n 1, 1) := by decide +kernel
theorem d_M_often_93 : decode c_M_often 93 = .ok (.bipush 20, 2) := by decide +kernel
theorem d_M_often_95 : decode c_M_often 95 = .ok (.imul, 1) := by decide +kernel
theorem d_M_often_96 : decode c_M_often 96 = .ok (.iload 4, 2) := by decide +kernel
theorem d_M_often_98 : decode c_M_often 98 = .ok (.iadd, 1) := by decide +kernel
theorem d_M_often_99 : decode c_M_often 99 = .ok (.iload_n 3, 1) := by decide +kernel
theorem d_M_often_100 : decode c_M_often 100 = .ok (.iadd, 1) := by decide +kernel
theorem d_M_often_101 : decode c_M_often 101 = .ok (.iconst 1, 1) := by decide +kernel
theorem d_M_often_102 : decode c_M_often 102 = .ok (.isub, 1) := by decide +kernel
theorem d_M_often_103 : decode c_M_often 103 = .ok (.laload, 1) := by decide +kernel
theorem d_M_often_104 : decode c_M_often 104 = .ok (.ladd, 1) := by decide +kernel
theorem d_M_often_105 : decode c_M_often 105 = .ok (.lstore 5, 2) := by decide +kernel
theorem d_M_often_107 : decode c_M_often 107 = .ok (.lload 7, 2) := by decide +kernel
theorem d_M_often_109 : decode c_M_often 109 = .ok (.ldc2_w 54, 3) := by decide +kernel
theorem d_M_often_112 : decode c_M_often 112 = .ok (.lmul, 1) := by decide +kernel
theorem d_M_often_113 : decode c_M_often 113 = .ok (.aload_n 0, 1) := by decide +kernel
theorem d_M_often_114 : decode c_M_often 114 = .ok (.getfield 7, 3) := by decide +kernel
theorem d_M_often_117 : decode c_M_often 117 = .ok (.iload_n 2, 1) := by decide +kernel
theorem d_M_often_118 : decode c_M_often 118 = .ok (.bipush 20, 2) := by decide +kernel
theorem d_M_often_120 : decode c_M_often 120 = .ok (.imul, 1) := by decide +kernel
theorem d_M_often_121 : decode c_M_often 121 = .ok (.iload 4, 2) := by decide +kernel
theorem d_M_often_123 : decode c_M_often 123 = .ok (.iadd, 1) := by decide +kernel
theorem d_M_often_124 : decode c_M_often 124 = .ok (.iconst 1, 1) := by decide +kernel
theorem d_M_often_125 : decode c_M_often 125 = .ok (.isub, 1) := by decide +kernel
theorem d_M_often_126 : decode c_M_often 126 = .ok (.laload, 1) := by decide +kernel
theorem d_M_often_127 : decode c_M_often 127 = .ok (.ladd, 1) := by decide +kernel
theorem d_M_often_128 : decode c_M_often 128 = .ok (.lconst 1, 1) := by decide +kernel
theorem d_M_often_129 : decode c_M_often 129 = .ok (.ladd, 1) := by decide +kernel
theorem d_M_often_130 : decode c_M_often 130 = .ok (.lstore 7, 2) := by decide +kernel
theorem d_M_often_132 : decode c_M_often 132 = .ok (.lload 5, 2) := by decide +kernel
theorem d_M_often_134 : decode c_M_often 134 = .ok (.lload 7, 2) := by decide +kernel
theorem d_M_often_136 : decode c_M_often 136 = .ok (.ldiv, 1) := by decide +kernel
theorem d_M_often_137 : decode c_M_often 137 = .ok (.lstore 9, 2) := by decide +kernel
theorem d_M_often_139 : decode c_M_often 139 = .ok (.lload 9, 2) := by decide +kernel
theorem d_M_often_141 : decode c_M_often 141 = .ok (.lconst 0, 1) := by decide +kernel
theorem d_M_often_142 : decode c_M_often 142 = .ok (.lcmp, 1) := by decide +kernel
theorem d_M_often_143 : decode c_M_often 143 = .ok (.ifCond .le 8, 3) := by decide +kernel
theorem d_M_often_146 : decode c_M_often 146 = .ok (.lload 9, 2) := by decide +kernel
theorem d_M_often_148 : decode c_M_often 148 = .ok (.goto 4, 3) := by decide +kernel
theorem d_M_often_151 : decode c_M_often 151 = .ok (.lconst 1, 1) := by decide +kernel
theorem d_M_often_152 : decode c_M_often 152 = .ok (.lreturn, 1) := by decide +kernel
theorem d_M_add_0 : decode c_M_add 0 = .ok (.aload_n 0, 1) := by decide +kernel
theorem d_M_add_1 : decode c_M_add 1 = .ok (.aload_n 0, 1) := by decide +kernel
theorem d_M_add_2 : decode c_M_add 2 = .ok (.iload_n 1, 1) := by decide +kernel
theorem d_M_add_3 : decode c_M_add 3 = .ok (.invokevirtual 125, 3) := by decide +kernel
theorem d_M_add_6 : decode c_M_add 6 = .ok (.ifCond .eq 15, 3) := by decide +kernel
theorem d_M_add_9 : decode c_M_add 9 = .ok (.aload_n 0, 1) := by decide +kernel
theorem d_M_add_10 : decode c_M_add 10 = .ok (.iload_n 2, 1) := by decide +kernel
theorem d_M_add_11 : decode c_M_add 11 = .ok (.invokevirtual 125, 3) := by decide +kernel
theorem d_M_add_14 : decode c_M_add 14 = .ok (.ifCond .eq 7, 3) := by decide +kernel
theorem d_M_add_17 : decode c_M_add 17 = .ok (.iconst 1, 1) := by decide +kernel
theorem d_M_add_18 : decode c_M_add 18 = .ok (.goto 4, 3) := by decide +kernel
theorem d_M_add_21 : decode c_M_add 21 = .ok (.iconst 0, 1) := by decide +kernel
theorem d_M_add_22 : decode c_M_add 22 = .ok (.aload_n 0, 1) := by decide +kernel
theorem d_M_add_23 : decode c_M_add 23 = .ok (.getfield 42, 3) := by decide +kernel
theorem d_M_add_26 : decode c_M_add 26 = .ok (.bipush 100, 2) := by decide +kernel
theorem d_M_add_28 : decode c_M_add 28 = .ok (.if_icmp .ge 7, 3) := by decide +kernel
theorem d_M_add_31 : decode c_M_add 31 = .ok (.iconst 1, 1) := by decide +kernel
theorem d_M_add_32 : decode c_M_add 32 = .ok (.goto 4, 3) := by decide +kernel
theorem d_M_add_35 : decode c_M_add 35 = .ok (.iconst 0, 1) := by decide +kernel
theorem d_M_add_36 : decode c_M_add 36 = .ok (.iconst 1, 1) := by decide +kernel
theorem d_M_add_37 : decode c_M_add 37 = .ok (.invokevirtual 118, 3) := by decide +kernel
theorem d_M_add_40 : decode c_M_add 40 = .ok (.ifCond .ne 5, 3) := by decide +kernel
theorem d_M_add_43 : decode c_M_add 43 = .ok (.iconst 0, 1) := by decide +kernel
theorem d_M_add_44 : decode c_M_add 44 = .ok (.ireturn, 1) := by decide +kernel
theorem d_M_add_45 : decode c_M_add 45 = .ok (.aload_n 0, 1) := by decide +kernel
theorem d_M_add_46 : decode c_M_add 46 = .ok (.aload_n 0, 1) := by decide +kernel
theorem d_M_add_47 : decode c_M_add 47 = .ok (.iload_n 1, 1) := by decide +kernel
theorem d_M_add_48 : decode c_M_add 48 = .ok (.iload_n 2, 1) := by decide +kernel
theorem d_M_add_49 : decode c_M_add 49 = .ok (.iconst 1, 1) := by decide +kernel
theorem d_M_add_50 : decode c_M_add 50 = .ok (.invokevirtual 128, 3) := by decide +kernel
theorem d_M_add_53 : decode c_M_add 53 = .ok (.invokevirtual 122, 3) := by decide +kernel
theorem d_M_add_56 : decode c_M_add 56 = .ok (.ireturn, 1) := by decide +kernel
theorem d_M_isValue_0 : decode c_M_isValue 0 = .ok (.iload_n 1, 1) := by decide +kernel
theorem d_M_isValue_1 : decode c_M_isValue 1 = .ok (.ifCond .lt 15, 3) := by decide +kernel
theorem d_M_isValue_4 : decode c_M_isValue 4 = .ok (.iload_n 1, 1) := by decide +kernel
theorem d_M_isValue_5 : decode c_M_isValue 5 = .ok (.aload_n 0, 1) := by decide +kernel
theorem d_M_isValue_6 : decode c_M_isValue 6 = .ok (.getfield 42, 3) := by decide +kernel
theorem d_M_isValue_9 : decode c_M_isValue 9 = .ok (.if_icmp .ge 7, 3) := by decide +kernel
theorem d_M_isValue_12 : decode c_M_isValue 12 = .ok (.iconst 1, 1) := by decide +kernel
theorem d_M_isValue_13 : decode c_M_isValue 13 = .ok (.goto 4, 3) := by decide +kernel
theorem d_M_isValue_16 : decode c_M_isValue 16 = .ok (.iconst 0, 1) := by decide +kernel
theorem d_M_isValue_17 : decode c_M_isValue 17 = .ok (.ireturn, 1) := by decide +kernel
theorem d_M_sum_0 : decode c_M_sum 0 = .ok (.aload_n 0, 1) := by decide +kernel
theorem d_M_sum_1 : decode c_M_sum 1 = .ok (.iload_n 1, 1) := by decide +kernel
theorem d_M_sum_2 : decode c_M_sum 2 = .ok (.iconst 2, 1) := by decide +kernel
theorem d_M_sum_3 : decode c_M_sum 3 = .ok (.invokevirtual 109, 3) := by decide +kernel
theorem d_M_sum_6 : decode c_M_sum 6 = .ok (.aload_n 0, 1) := by decide +kernel
theorem d_M_sum_7 : decode c_M_sum 7 = .ok (.iload_n 2, 1) := by decide +kernel
theorem d_M_sum_8 : decode c_M_sum 8 = .ok (.iconst 3, 1) := by decide +kernel
theorem d_M_sum_9 : decode c_M_sum 9 = .ok (.invokevirtual 112, 3) := by decide +kernel
theorem d_M_sum_12 : decode c_M_sum 12 = .ok (.aload_n 0, 1) := by decide +kernel
theorem d_M_sum_13 : decode c_M_sum 13 = .ok (.iconst 2, 1) := by decide +kernel
theorem d_M_sum_14 : decode c_M_sum 14 = .ok (.iconst 3, 1) := by decide +kernel
theorem d_M_sum_15 : decode c_M_sum 15 = .ok (.iconst 0, 1) := by decide +kernel
theorem d_M_sum_16 : decode c_M_sum 16 = .ok (.invokevirtual 115, 3) := by decide +kernel
theorem d_M_sum_19 : decode c_M_sum 19 = .ok (.aload_n 0, 1) := by decide +kernel
theorem d_M_sum_20 : decode c_M_sum 20 = .ok (.iload_n 2, 1) := by decide +kernel
theorem d_M_sum_21 : decode c_M_sum 21 = .ok (.iconst 2, 1) := by decide +kernel
theorem d_M_sum_22 : decode c_M_sum 22 = .ok (.invokevirtual 109, 3) := by decide +kernel
theorem d_M_sum_25 : decode c_M_sum 25 = .ok (.aload_n 0, 1) := by decide +kernel
theorem d_M_sum_26 : decode c_M_sum 26 = .ok (.iload_n 1, 1) := by decide +kernel
theorem d_M_sum_27 : decode c_M_sum 27 = .ok (.iconst 3, 1) := by decide +kernel
theorem d_M_sum_28 : decode c_M_sum 28 = .ok (.invokevirtual 112, 3) := by decide +kernel
theorem d_M_sum_31 : decode c_M_sum 31 = .ok (.aload_n 0, 1) := by decide +kernel
theorem d_M_sum_32 : decode c_M_sum 32 = .ok (.iconst 2, 1) := by decide +kernel
theorem d_M_sum_33 : decode c_M_sum 33 = .ok (.iconst 3, 1) := by decide +kernel
theorem d_M_sum_34 : decode c_M_sum 34 = .ok (.bipush 6, 2) := by decide +kernel
theorem d_M_sum_36 : decode c_M_sum 36 = .ok (.invokevirtual 115, 3) := by decide +kernel
theorem d_M_sum_39 : decode c_M_sum 39 = .ok (.aload_n 0, 1) := by decide +kernel
theorem d_M_sum_40 : decode c_M_sum 40 = .ok (.iload_n 2, 1) := by decide +kernel
theorem d_M_sum_41 : decode c_M_sum 41 = .ok (.iconst 2, 1) := by decide +kernel
theorem d_M_sum_42 : decode c_M_sum 42 = .ok (.invokevirtual 112, 3) := by decide +kernel
theorem d_M_sum_45 : decode c_M_sum 45 = .ok (.aload_n 0, 1) := by decide +kernel
theorem d_M_sum_46 : decode c_M_sum 46 = .ok (.iconst 2, 1) := by decide +kernel
theorem d_M_sum_47 : decode c_M_sum 47 = .ok (.iconst 3, 1) := by decide +kernel
theorem d_M_sum_48 : decode c_M_sum 48 = .ok (.iconst 1, 1) := by decide +kernel
theorem d_M_sum_49 : decode c_M_sum 49 = .ok (.invokevirtual 115, 3) := by decide +kernel
theorem d_M_sum_52 : decode c_M_sum 52 = .ok (.aload_n 0, 1) := by decide +kernel
theorem d_M_sum_53 : decode c_M_sum 53 = .ok (.getfield 13, 3) := by decide +kernel
theorem d_M_sum_56 : decode c_M_sum 56 = .ok (.iload_n 1, 1) := by decide +kernel
theorem d_M_sum_57 : decode c_M_sum 57 = .ok (.iaload, 1) := by decide +kernel
theorem d_M_sum_58 : decode c_M_sum 58 = .ok (.istore 4, 2) := by decide +kernel
theorem d_M_sum_60 : decode c_M_sum 60 = .ok (.iload_n 3, 1) := by decide +kernel
theorem d_M_sum_61 : decode c_M_sum 61 = .ok (.aload_n 0, 1) := by decide +kernel
theorem d_M_sum_62 : decode c_M_sum 62 = .ok (.getfield 13, 3) := by decide +kernel
theorem d_M_sum_65 : decode c_M_sum 65 = .ok (.iload_n 2, 1) := by decide +kernel
theorem d_M_sum_66 : decode c_M_sum 66 = .ok (.iaload, 1) := by decide +kernel
theorem d_M_sum_67 : decode c_M_sum 67 = .ok (.imul, 1) := by decide +kernel
theorem d_M_sum_68 : decode c_M_sum 68 = .ok (.istore 5, 2) := by decide +kernel
theorem d_M_sum_70 : decode c_M_sum 70 = .ok (.iload 4, 2) := by decide +kernel
theorem d_M_sum_72 : decode c_M_sum 72 = .ok (.iload 5, 2) := by decide +kernel
theorem d_M_sum_74 : decode c_M_sum 74 = .ok (.imul, 1) := by decide +kernel
theorem d_M_sum_75 : decode c_M_sum 75 = .ok (.ifCond .lt 23, 3) := by decide +kernel
theorem d_M_sum_78 : decode c_M_sum 78 = .ok (.aload_n 0, 1) := by decide +kernel
theorem d_M_sum_79 : decode c_M_sum 79 = .ok (.iconst 0, 1) := by decide +kernel
theorem d_M_sum_80 : decode c_M_sum 80 = .ok (.bipush 6, 2) := by decide +kernel
theorem d_M_sum_82 : decode c_M_sum 82 = .ok (.invokevirtual 88, 3) := by decide +kernel
theorem d_M_sum_85 : decode c_M_sum 85 = .ok (.iload 4, 2) := by decide +kernel
theorem d_M_sum_87 : decode c_M_sum 87 = .ok (.ifCond .eq 8, 3) := by decide +kernel
theorem d_M_sum_90 : decode c_M_sum 90 = .ok (.iload 4, 2) := by decide +kernel
theorem d_M_sum_92 : decode c_M_sum 92 = .ok (.goto 5, 3) := by decide +kernel
theorem d_M_sum_95 : decode c_M_sum 95 = .ok (.iload 5, 2) := by decide +kernel
theorem d_M_sum_97 : decode c_M_sum 97 = .ok (.ireturn, 1) := by decide +kernel
theorem d_M_sum_98 : decode c_M_sum 98 = .ok (.aload_n 0, 1) := by decide +kernel
theorem d_M_sum_99 : decode c_M_sum 99 = .ok (.iconst 0, 1) := by decide +kernel
theorem d_M_sum_100 : decode c_M_sum 100 = .ok (.bipush 6, 2) := by decide +kernel
theorem d_M_sum_102 : decode c_M_sum 102 = .ok (.invokevirtual 80, 3) := by decide +kernel
theorem d_M_sum_105 : decode c_M_sum 105 = .ok (.ifCond .lt 13, 3) := by decide +kernel
theorem d_M_sum_108 : decode c_M_sum 108 = .ok (.aload_n 0, 1) := by decide +kernel
theorem d_M_sum_109 : decode c_M_sum 109 = .ok (.iconst 0, 1) := by decide +kernel
theorem d_M_sum_110 : decode c_M_sum 110 = .ok (.bipush 6, 2) := by decide +kernel
theorem d_M_sum_112 : decode c_M_sum 112 = .ok (.invokevirtual 84, 3) := by decide +kernel
theorem d_M_sum_115 : decode c_M_sum 115 = .ok (.iload 4, 2) := by decide +kernel
theorem d_M_sum_117 : decode c_M_sum 117 = .ok (.ireturn, 1) := by decide +kernel
theorem d_M_sum_118 : decode c_M_sum 118 = .ok (.aload_n 0, 1) := by decide +kernel
theorem d_M_sum_119 : decode c_M_sum 119 = .ok (.bipush 6, 2) := by decide +kernel
theorem d_M_sum_121 : decode c_M_sum 121 = .ok (.iconst 0, 1) := by decide +kernel
theorem d_M_sum_122 : decode c_M_sum 122 = .ok (.invokevirtual 84, 3) := by decide +kernel
theorem d_M_sum_125 : decode c_M_sum 125 = .ok (.aload_n 0, 1) := by decide +kernel
theorem d_M_sum_126 : decode c_M_sum 126 = .ok (.bipush 6, 2) := by decide +kernel
theorem d_M_sum_128 : decode c_M_sum 128 = .ok (.iconst 0, 1) := by decide +kernel
theorem d_M_sum_129 : decode c_M_sum 129 = .ok (.invokevirtual 95, 3) := by decide +kernel
theorem d_M_sum_132 : decode c_M_sum 132 = .ok (.iload 5, 2) := by decide +kernel
theorem d_M_sum_134 : decode c_M_sum 134 = .ok (.ireturn, 1) := by decide +kernel
theorem d_M_loadUp_0 : decode c_M_loadUp 0 = .ok (.aload_n 0, 1) := by decide +kernel
theorem d_M_loadUp_1 : decode c_M_loadUp 1 = .ok (.iload_n 2, 1) := by decide +kernel
theorem d_M_loadUp_2 : decode c_M_loadUp 2 = .ok (.invokevirtual 48, 3) := by decide +kernel
theorem d_M_loadUp_5 : decode c_M_loadUp 5 = .ok (.iconst 0, 1) := by decide +kernel
theorem d_M_loadUp_6 : decode c_M_loadUp 6 = .ok (.istore_n 3, 1) := by decide +kernel
theorem d_M_loadUp_7 : decode c_M_loadUp 7 = .ok (.iload_n 3, 1) := by decide +kernel
theorem d_M_loadUp_8 : decode c_M_loadUp 8 = .ok (.bipush 8, 2) := by decide +kernel
theorem d_M_loadUp_10 : decode c_M_loadUp 10 = .ok (.if_icmp .ge 31, 3) := by decide +kernel
theorem d_M_loadUp_13 : decode c_M_loadUp 13 = .ok (.aload_n 0, 1) := by decide +kernel
theorem d_M_loadUp_14 : decode c_M_loadUp 14 = .ok (.getfield 7, 3) := by decide +kernel
theorem d_M_loadUp_17 : decode c_M_loadUp 17 = .ok (.iload_n 2, 1) := by decide +kernel
theorem d_M_loadUp_18 : decode c_M_loadUp 18 = .ok (.bipush 20, 2) := by decide +kernel
theorem d_M_loadUp_20 : decode c_M_loadUp 20 = .ok (.imul, 1) := by decide +kernel
theorem d_M_loadUp_21 : decode c_M_loadUp 21 = .ok (.iload_n 3, 1) := by decide +kernel
theorem d_M_loadUp_22 : decode c_M_loadUp 22 = .ok (.iadd, 1) := by decide +kernel
theorem d_M_loadUp_23 : decode c_M_loadUp 23 = .ok (.aload_n 0, 1) := by decide +kernel
theorem d_M_loadUp_24 : decode c_M_loadUp 24 = .ok (.getfield 17, 3) := by decide +kernel
theorem d_M_loadUp_27 : decode c_M_loadUp 27 = .ok (.bipush 8, 2) := by decide +kernel
theorem d_M_loadUp_29 : decode c_M_loadUp 29 = .ok (.iload_n 1, 1) := by decide +kernel
theorem d_M_loadUp_30 : decode c_M_loadUp 30 = .ok (.imul, 1) := by decide +kernel
theorem d_M_loadUp_31 : decode c_M_loadUp 31 = .ok (.iload_n 3, 1) := by decide +kernel
theorem d_M_loadUp_32 : decode c_M_loadUp 32 = .ok (.iadd, 1) := by decide +kernel
theorem d_M_loadUp_33 : decode c_M_loadUp 33 = .ok (.laload, 1) := by decide +kernel
theorem d_M_loadUp_34 : decode c_M_loadUp 34 = .ok (.lastore, 1) := by decide +kernel
theorem d_M_loadUp_35 : decode c_M_loadUp 35 = .ok (.iinc 3 1, 3) := by decide +kernel
theorem d_M_loadUp_38 : decode c_M_loadUp 38 = .ok (.goto (-31), 3) := by decide +kernel
theorem d_M_loadUp_41 : decode c_M_loadUp 41 = .ok (.return_, 1) := by decide +kernel
theorem d_M_loadDown_0 : decode c_M_loadDown 0 = .ok (.aload_n 0, 1) := by decide +kernel
theorem d_M_loadDown_1 : decode c_M_loadDown 1 = .ok (.iload_n 2, 1) := by decide +kernel
theorem d_M_loadDown_2 : decode c_M_loadDown 2 = .ok (.invokevirtual 48, 3) := by decide +kernel
theorem d_M_loadDown_5 : decode c_M_loadDown 5 = .ok (.iconst 0, 1) := by decide +kernel
theorem d_M_loadDown_6 : decode c_M_loadDown 6 = .ok (.istore_n 3, 1) := by decide +kernel
theorem d_M_loadDown_7 : decode c_M_loadDown 7 = .ok (.iload_n 3, 1) := by decide +kernel
theorem d_M_loadDown_8 : decode c_M_loadDown 8 = .ok (.bipush 8, 2) := by decide +kernel
theorem d_M_loadDown_10 : decode c_M_loadDown 10 = .ok (.if_icmp .ge 31, 3) := by decide +kernel
theorem d_M_loadDown_13 : decode c_M_loadDown 13 = .ok (.aload_n 0, 1) := by decide +kernel
theorem d_M_loadDown_14 : decode c_M_loadDown 14 = .ok (.getfield 7, 3) := by decide +kernel
theorem d_M_loadDown_17 : decode c_M_loadDown 17 = .ok (.iload_n 2, 1) := by decide +kernel
theorem d_M_loadDown_18 : decode c_M_loadDown 18 = .ok (.bipush 20, 2) := by decide +kernel
theorem d_M_loadDown_20 : decode c_M_loadDown 20 = .ok (.imul, 1) := by decide +kernel
theorem d_M_loadDown_21 : decode c_M_loadDown 21 = .ok (.iload_n 3, 1) := by decide +kernel
theorem d_M_loadDown_22 : decode c_M_loadDown 22 = .ok (.iadd, 1) := by decide +kernel
theorem d_M_loadDown_23 : decode c_M_loadDown 23 = .ok (.aload_n 0, 1) := by decide +kernel
theorem d_M_loadDown_24 : decode c_M_loadDown 24 = .ok (.getfield 20, 3) := by decide +kernel
theorem d_M_loadDown_27 : decode c_M_loadDown 27 = .ok (.bipush 8, 2) := by decide +kernel
theorem d_M_loadDown_29 : decode c_M_loadDown 29 = .ok (.iload_n 1, 1) := by decide +kernel
theorem d_M_loadDown_30 : decode c_M_loadDown 30 = .ok (.imul, 1) := by decide +kernel
theorem d_M_loadDown_31 : decode c_M_loadDown 31 = .ok (.iload_n 3, 1) := by decide +kernel
theorem d_M_loadDown_32 : decode c_M_loadDown 32 = .ok (.iadd, 1) := by decide +kernel
theorem d_M_loadDown_33 : decode c_M_loadDown 33 = .ok (.laload, 1) := by decide +kernel
theorem d_M_loadDown_34 : decode c_M_loadDown 34 = .ok (.lastore, 1) := by decide +kernel
theorem d_M_loadDown_35 : decode c_M_loadDown 35 = .ok (.iinc 3 1, 3) := by decide +kernel
theorem d_M_loadDown_38 : decode c_M_loadDown 38 = .ok (.goto (-31), 3) := by decide +kernel
theorem d_M_loadDown_41 : decode c_M_loadDown 41 = .ok (.return_, 1) := by decide +kernel
theorem d_M_multiply_0 : decode c_M_multiply 0 = .ok (.aload_n 0, 1) := by decide +kernel
theorem d_M_multiply_1 : decode c_M_multiply 1 = .ok (.iload_n 3, 1) := by decide +kernel
theorem d_M_multiply_2 : decode c_M_multiply 2 = .ok (.invokevirtual 48, 3) := by decide +kernel
theorem d_M_multiply_5 : decode c_M_multiply 5 = .ok (.aload_n 0, 1) := by decide +kernel
theorem d_M_multiply_6 : decode c_M_multiply 6 = .ok (.iload_n 1, 1) := by decide +kernel
theorem d_M_multiply_7 : decode c_M_multiply 7 = .ok (.invokevirtual 56, 3) := by decide +kernel
theorem d_M_multiply_10 : decode c_M_multiply 10 = .ok (.istore 4, 2) := by decide +kernel
theorem d_M_multiply_12 : decode c_M_multiply 12 = .ok (.aload_n 0, 1) := by decide +kernel
theorem d_M_multiply_13 : decode c_M_multiply 13 = .ok (.iload_n 2, 1) := by decide +kernel
theorem d_M_multiply_14 : decode c_M_multiply 14 = .ok (.invokevirtual 56, 3) := by decide +kernel
theorem d_M_multiply_17 : decode c_M_multiply 17 = .ok (.istore 5, 2) := by decide +kernel
theorem d_M_multiply_19 : decode c_M_multiply 19 = .ok (.iconst 0, 1) := by decide +kernel
theorem d_M_multiply_20 : decode c_M_multiply 20 = .ok (.istore 6, 2) := by decide +kernel
theorem d_M_multiply_22 : decode c_M_multiply 22 = .ok (.iload 6, 2) := by decide +kernel
theorem d_M_multiply_24 : decode c_M_multiply 24 = .ok (.iload 4, 2) := by decide +kernel
theorem d_M_multiply_26 : decode c_M_multiply 26 = .ok (.if_icmp .gt 121, 3) := by decide +kernel
theorem d_M_multiply_29 : decode c_M_multiply 29 = .ok (.lconst 0, 1) := by decide +kernel
theorem d_M_multiply_30 : decode c_M_multiply 30 = .ok (.lstore 7, 2) := by decide +kernel
theorem d_M_multiply_32 : decode c_M_multiply 32 = .ok (.iconst 0, 1) := by decide +kernel
theorem d_M_multiply_33 : decode c_M_multiply 33 = .ok (.istore 9, 2) := by decide +kernel
theorem d_M_multiply_35 : decode c_M_multiply 35 = .ok (.iload 9, 2) := by decide +kernel
theorem d_M_multiply_37 : decode c_M_multiply 37 = .ok (.iload 5, 2) := by decide +kernel
theorem d_M_multiply_39 : decode c_M_multiply 39 = .ok (.if_icmp .le 10, 3) := by decide +kernel
theorem d_M_multiply_42 : decode c_M_multiply 42 = .ok (.lload 7, 2) := by decide +kernel
theorem d_M_multiply_44 : decode c_M_multiply 44 = .ok (.lconst 0, 1) := by decide +kernel
theorem d_M_multiply_45 : decode c_M_multiply 45 = .ok (.lcmp, 1) := by decide +kernel
theorem d_M_multiply_46 : decode c_M_multiply 46 = .ok (.ifCond .le 95, 3) := by decide +kernel
theorem d_M_multiply_49 : decode c_M_multiply 49 = .ok (.aload_n 0, 1) := by decide +kernel
theorem d_M_multiply_50 : decode c_M_multiply 50 = .ok (.getfield 7, 3) := by decide +kernel
theorem d_M_multiply_53 : decode c_M_multiply 53 = .ok (.iload_n 3, 1) := by decide +kernel
theorem d_M_multiply_54 : decode c_M_multiply 54 = .ok (.bipush 20, 2) := by decide +kernel
theorem d_M_multiply_56 : decode c_M_multiply 56 = .ok (.imul, 1) := by decide +kernel
theorem d_M_multiply_57 : decode c_M_multiply 57 = .ok (.iload 6, 2) := by decide +kernel
theorem d_M_multiply_59 : decode c_M_multiply 59 = .ok (.iadd, 1) := by decide +kernel
theorem d_M_multiply_60 : decode c_M_multiply 60 = .ok (.iload 9, 2) := by decide +kernel
theorem d_M_multiply_62 : decode c_M_multiply 62 = .ok (.iadd, 1) := by decide +kernel
theorem d_M_multiply_63 : decode c_M_multiply 63 = .ok (.laload, 1) := by decide +kernel
theorem d_M_multiply_64 : decode c_M_multiply 64 = .ok (.lload 7, 2) := by decide +kernel
theorem d_M_multiply_66 : decode c_M_multiply 66 = .ok (.ladd, 1) := by decide +kernel
theorem d_M_multiply_67 : decode c_M_multiply 67 = .ok (.iload 9, 2) := by decide +kernel
theorem d_M_multiply_69 : decode c_M_multiply 69 = .ok (.iload 5, 2) := by decide +kernel
theorem d_M_multiply_71 : decode c_M_multiply 71 = .ok (.if_icmp .gt 31, 3) := by decide +kernel
theorem d_M_multiply_74 : decode c_M_multiply 74 = .ok (.aload_n 0, 1) := by decide +kernel
theorem d_M_multiply_75 : decode c_M_multiply 75 = .ok (.getfield 7, 3) := by decide +kernel
theorem d_M_multiply_78 : decode c_M_multiply 78 = .ok (.iload_n 1, 1) := by decide +kernel
theorem d_M_multiply_79 : decode c_M_multiply 79 = .ok (.bipush 20, 2) := by decide +kernel
theorem d_M_multiply_81 : decode c_M_multiply 81 = .ok (.imul, 1) := by decide +kernel
theorem d_M_multiply_82 : decode c_M_multiply 82 = .ok (.iload 6, 2) := by decide +kernel
theorem d_M_multiply_84 : decode c_M_multiply 84 = .ok (.iadd, 1) := by decide +kernel
theorem d_M_multiply_85 : decode c_M_multiply 85 = .ok (.laload, 1) := by decide +kernel
theorem d_M_multiply_86 : decode c_M_multiply 86 = .ok (.aload_n 0, 1) := by decide +kernel
theorem d_M_multiply_87 : decode c_M_multiply 87 = .ok (.getfield 7, 3) := by decide +kernel
theorem d_M_multiply_90 : decode c_M_multiply 90 = .ok (.iload_n 2, 1) := by decide +kernel
theorem d_M_multiply_91 : decode c_M_multiply 91 = .ok (.bipush 20, 2) := by decide +kernel
theorem d_M_multiply_93 : decode c_M_multiply 93 = .ok (.imul, 1) := by decide +kernel
theorem d_M_multiply_94 : decode c_M_multiply 94 = .ok (.iload 9, 2) := by decide +kernel
theorem d_M_multiply_96 : decode c_M_multiply 96 = .ok (.iadd, 1) := by decide +kernel
theorem d_M_multiply_97 : decode c_M_multiply 97 = .ok (.laload, 1) := by decide +kernel
theorem d_M_multiply_98 : decode c_M_multiply 98 = .ok (.lmul, 1) := by decide +kernel
theorem d_M_multiply_99 : decode c_M_multiply 99 = .ok (.goto 4, 3) := by decide +kernel
theorem d_M_multiply_102 : decode c_M_multiply 102 = .ok (.lconst 0, 1) := by decide +kernel
theorem d_M_multiply_103 : decode c_M_multiply 103 = .ok (.ladd, 1) := by decide +kernel
theorem d_M_multiply_104 : decode c_M_multiply 104 = .ok (.lstore 10, 2) := by decide +kernel
theorem d_M_multiply_106 : decode c_M_multiply 106 = .ok (.aload_n 0, 1) := by decide +kernel
theorem d_M_multiply_107 : decode c_M_multiply 107 = .ok (.getfield 7, 3) := by decide +kernel
theorem d_M_multiply_110 : decode c_M_multiply 110 = .ok (.iload_n 3, 1) := by decide +kernel
theorem d_M_multiply_111 : decode c_M_multiply 111 = .ok (.bipush 20, 2) := by decide +kernel
theorem d_M_multiply_113 : decode c_M_multiply 113 = .ok (.imul, 1) := by decide +kernel
theorem d_M_multiply_114 : decode c_M_multiply 114 = .ok (.iload 6, 2) := by decide +kernel
theorem d_M_multiply_116 : decode c_M_multiply 116 = .ok (.iadd, 1) := by decide +kernel
theorem d_M_multiply_117 : decode c_M_multiply 117 = .ok (.iload 9, 2) := by decide +kernel
theorem d_M_multiply_119 : decode c_M_multiply 119 = .ok (.iadd, 1) := by decide +kernel
theorem d_M_multiply_120 : decode c_M_multiply 120 = .ok (.lload 10, 2) := by decide +kernel
theorem d_M_multiply_122 : decode c_M_multiply 122 = .ok (.ldc2_w 54, 3) := by decide +kernel
theorem d_M_multiply_125 : decode c_M_multiply 125 = .ok (.lrem, 1) := by decide +kernel
theorem d_M_multiply_126 : decode c_M_multiply 126 = .ok (.lastore, 1) := by decide +kernel
theorem d_M_multiply_127 : decode c_M_multiply 127 = .ok (.lload 10, 2) := by decide +kernel
theorem d_M_multiply_129 : decode c_M_multiply 129 = .ok (.ldc2_w 54, 3) := by decide +kernel
theorem d_M_multiply_132 : decode c_M_multiply 132 = .ok (.ldiv, 1) := by decide +kernel
theorem d_M_multiply_133 : decode c_M_multiply 133 = .ok (.lstore 7, 2) := by decide +kernel
theorem d_M_multiply_135 : decode c_M_multiply 135 = .ok (.iinc 9 1, 3) := by decide +kernel
theorem d_M_multiply_138 : decode c_M_multiply 138 = .ok (.goto (-103), 3) := by decide +kernel
theorem d_M_multiply_141 : decode c_M_multiply 141 = .ok (.iinc 6 1, 3) := by decide +kernel
theorem d_M_multiply_144 : decode c_M_multiply 144 = .ok (.goto (-122), 3) := by decide +kernel
theorem d_M_multiply_147 : decode c_M_multiply 147 = .ok (.return_, 1) := by decide +kernel
theorem d_M_less_0 : decode c_M_less 0 = .ok (.aload_n 0, 1) := by decide +kernel
theorem d_M_less_1 : decode c_M_less 1 = .ok (.aload_n 0, 1) := by decide +kernel
theorem d_M_less_2 : decode c_M_less 2 = .ok (.iload_n 1, 1) := by decide +kernel
theorem d_M_less_3 : decode c_M_less 3 = .ok (.invokevirtual 125, 3) := by decide +kernel
theorem d_M_less_6 : decode c_M_less 6 = .ok (.ifCond .eq 15, 3) := by decide +kernel
theorem d_M_less_9 : decode c_M_less 9 = .ok (.aload_n 0, 1) := by decide +kernel
theorem d_M_less_10 : decode c_M_less 10 = .ok (.iload_n 2, 1) := by decide +kernel
theorem d_M_less_11 : decode c_M_less 11 = .ok (.invokevirtual 125, 3) := by decide +kernel
theorem d_M_less_14 : decode c_M_less 14 = .ok (.ifCond .eq 7, 3) := by decide +kernel
theorem d_M_less_17 : decode c_M_less 17 = .ok (.iconst 1, 1) := by decide +kernel
theorem d_M_less_18 : decode c_M_less 18 = .ok (.goto 4, 3) := by decide +kernel
theorem d_M_less_21 : decode c_M_less 21 = .ok (.iconst 0, 1) := by decide +kernel
theorem d_M_less_22 : decode c_M_less 22 = .ok (.aload_n 0, 1) := by decide +kernel
theorem d_M_less_23 : decode c_M_less 23 = .ok (.getfield 42, 3) := by decide +kernel
theorem d_M_less_26 : decode c_M_less 26 = .ok (.bipush 100, 2) := by decide +kernel
theorem d_M_less_28 : decode c_M_less 28 = .ok (.if_icmp .ge 7, 3) := by decide +kernel
theorem d_M_less_31 : decode c_M_less 31 = .ok (.iconst 1, 1) := by decide +kernel
theorem d_M_less_32 : decode c_M_less 32 = .ok (.goto 4, 3) := by decide +kernel
theorem d_M_less_35 : decode c_M_less 35 = .ok (.iconst 0, 1) := by decide +kernel
theorem d_M_less_36 : decode c_M_less 36 = .ok (.iconst 1, 1) := by decide +kernel
theorem d_M_less_37 : decode c_M_less 37 = .ok (.invokevirtual 118, 3) := by decide +kernel
theorem d_M_less_40 : decode c_M_less 40 = .ok (.ifCond .ne 5, 3) := by decide +kernel
theorem d_M_less_43 : decode c_M_less 43 = .ok (.iconst 0, 1) := by decide +kernel
theorem d_M_less_44 : decode c_M_less 44 = .ok (.ireturn, 1) := by decide +kernel
theorem d_M_less_45 : decode c_M_less 45 = .ok (.aload_n 0, 1) := by decide +kernel
theorem d_M_less_46 : decode c_M_less 46 = .ok (.aload_n 0, 1) := by decide +kernel
theorem d_M_less_47 : decode c_M_less 47 = .ok (.iload_n 1, 1) := by decide +kernel
theorem d_M_less_48 : decode c_M_less 48 = .ok (.iload_n 2, 1) := by decide +kernel
theorem d_M_less_49 : decode c_M_less 49 = .ok (.iconst (-1), 1) := by decide +kernel
theorem d_M_less_50 : decode c_M_less 50 = .ok (.invokevirtual 128, 3) := by decide +kernel
theorem d_M_less_53 : decode c_M_less 53 = .ok (.invokevirtual 122, 3) := by decide +kernel
theorem d_M_less_56 : decode c_M_less 56 = .ok (.ireturn, 1) := by decide +kernel
theorem d_M_times_0 : decode c_M_times 0 = .ok (.aload_n 0, 1) := by decide +kernel
theorem d_M_times_1 : decode c_M_times 1 = .ok (.aload_n 0, 1) := by decide +kernel
theorem d_M_times_2 : decode c_M_times 2 = .ok (.iload_n 1, 1) := by decide +kernel
theorem d_M_times_3 : decode c_M_times 3 = .ok (.invokevirtual 125, 3) := by decide +kernel
theorem d_M_times_6 : decode c_M_times 6 = .ok (.ifCond .eq 15, 3) := by decide +kernel
theorem d_M_times_9 : decode c_M_times 9 = .ok (.aload_n 0, 1) := by decide +kernel
theorem d_M_times_10 : decode c_M_times 10 = .ok (.iload_n 2, 1) := by decide +kernel
theorem d_M_times_11 : decode c_M_times 11 = .ok (.invokevirtual 125, 3) := by decide +kernel
theorem d_M_times_14 : decode c_M_times 14 = .ok (.ifCond .eq 7, 3) := by decide +kernel
theorem d_M_times_17 : decode c_M_times 17 = .ok (.iconst 1, 1) := by decide +kernel
theorem d_M_times_18 : decode c_M_times 18 = .ok (.goto 4, 3) := by decide +kernel
theorem d_M_times_21 : decode c_M_times 21 = .ok (.iconst 0, 1) := by decide +kernel
theorem d_M_times_22 : decode c_M_times 22 = .ok (.aload_n 0, 1) := by decide +kernel
theorem d_M_times_23 : decode c_M_times 23 = .ok (.getfield 42, 3) := by decide +kernel
theorem d_M_times_26 : decode c_M_times 26 = .ok (.bipush 100, 2) := by decide +kernel
theorem d_M_times_28 : decode c_M_times 28 = .ok (.if_icmp .ge 7, 3) := by decide +kernel
theorem d_M_times_31 : decode c_M_times 31 = .ok (.iconst 1, 1) := by decide +kernel
theorem d_M_times_32 : decode c_M_times 32 = .ok (.goto 4, 3) := by decide +kernel
theorem d_M_times_35 : decode c_M_times 35 = .ok (.iconst 0, 1) := by decide +kernel
theorem d_M_times_36 : decode c_M_times 36 = .ok (.iconst 1, 1) := by decide +kernel
theorem d_M_times_37 : decode c_M_times 37 = .ok (.invokevirtual 118, 3) := by decide +kernel
theorem d_M_times_40 : decode c_M_times 40 = .ok (.ifCond .ne 5, 3) := by decide +kernel
theorem d_M_times_43 : decode c_M_times 43 = .ok (.iconst 0, 1) := by decide +kernel
theorem d_M_times_44 : decode c_M_times 44 = .ok (.ireturn, 1) := by decide +kernel
theorem d_M_times_45 : decode c_M_times 45 = .ok (.aload_n 0, 1) := by decide +kernel
theorem d_M_times_46 : decode c_M_times 46 = .ok (.aload_n 0, 1) := by decide +kernel
theorem d_M_times_47 : decode c_M_times 47 = .ok (.iload_n 1, 1) := by decide +kernel
theorem d_M_times_48 : decode c_M_times 48 = .ok (.iload_n 2, 1) := by decide +kernel
theorem d_M_times_49 : decode c_M_times 49 = .ok (.invokevirtual 132, 3) := by decide +kernel
theorem d_M_times_52 : decode c_M_times 52 = .ok (.invokevirtual 122, 3) := by decide +kernel
theorem d_M_times_55 : decode c_M_times 55 = .ok (.ireturn, 1) := by decide +kernel
theorem d_M_product_0 : decode c_M_product 0 = .ok (.aload_n 0, 1) := by decide +kernel
theorem d_M_product_1 : decode c_M_product 1 = .ok (.iload_n 1, 1) := by decide +kernel
theorem d_M_product_2 : decode c_M_product 2 = .ok (.iconst 2, 1) := by decide +kernel
theorem d_M_product_3 : decode c_M_product 3 = .ok (.invokevirtual 109, 3) := by decide +kernel
theorem d_M_product_6 : decode c_M_product 6 = .ok (.aload_n 0, 1) := by decide +kernel
theorem d_M_product_7 : decode c_M_product 7 = .ok (.iload_n 2, 1) := by decide +kernel
theorem d_M_product_8 : decode c_M_product 8 = .ok (.iconst 3, 1) := by decide +kernel
theorem d_M_product_9 : decode c_M_product 9 = .ok (.invokevirtual 109, 3) := by decide +kernel
theorem d_M_product_12 : decode c_M_product 12 = .ok (.aload_n 0, 1) := by decide +kernel
theorem d_M_product_13 : decode c_M_product 13 = .ok (.iconst 2, 1) := by decide +kernel
theorem d_M_product_14 : decode c_M_product 14 = .ok (.iconst 3, 1) := by decide +kernel
theorem d_M_product_15 : decode c_M_product 15 = .ok (.iconst 0, 1) := by decide +kernel
theorem d_M_product_16 : decode c_M_product 16 = .ok (.invokevirtual 115, 3) := by decide +kernel
theorem d_M_product_19 : decode c_M_product 19 = .ok (.aload_n 0, 1) := by decide +kernel
theorem d_M_product_20 : decode c_M_product 20 = .ok (.iload_n 1, 1) := by decide +kernel
theorem d_M_product_21 : decode c_M_product 21 = .ok (.iconst 2, 1) := by decide +kernel
theorem d_M_product_22 : decode c_M_product 22 = .ok (.invokevirtual 112, 3) := by decide +kernel
theorem d_M_product_25 : decode c_M_product 25 = .ok (.aload_n 0, 1) := by decide +kernel
theorem d_M_product_26 : decode c_M_product 26 = .ok (.iload_n 2, 1) := by decide +kernel
theorem d_M_product_27 : decode c_M_product 27 = .ok (.iconst 3, 1) := by decide +kernel
theorem d_M_product_28 : decode c_M_product 28 = .ok (.invokevirtual 112, 3) := by decide +kernel
theorem d_M_product_31 : decode c_M_product 31 = .ok (.aload_n 0, 1) := by decide +kernel
theorem d_M_product_32 : decode c_M_product 32 = .ok (.iconst 2, 1) := by decide +kernel
theorem d_M_product_33 : decode c_M_product 33 = .ok (.iconst 3, 1) := by decide +kernel
theorem d_M_product_34 : decode c_M_product 34 = .ok (.iconst 1, 1) := by decide +kernel
theorem d_M_product_35 : decode c_M_product 35 = .ok (.invokevirtual 115, 3) := by decide +kernel
theorem d_M_product_38 : decode c_M_product 38 = .ok (.aload_n 0, 1) := by decide +kernel
theorem d_M_product_39 : decode c_M_product 39 = .ok (.getfield 13, 3) := by decide +kernel
theorem d_M_product_42 : decode c_M_product 42 = .ok (.iload_n 1, 1) := by decide +kernel
theorem d_M_product_43 : decode c_M_product 43 = .ok (.iaload, 1) := by decide +kernel
theorem d_M_product_44 : decode c_M_product 44 = .ok (.aload_n 0, 1) := by decide +kernel
theorem d_M_product_45 : decode c_M_product 45 = .ok (.getfield 13, 3) := by decide +kernel
theorem d_M_product_48 : decode c_M_product 48 = .ok (.iload_n 2, 1) := by decide +kernel
theorem d_M_product_49 : decode c_M_product 49 = .ok (.iaload, 1) := by decide +kernel
theorem d_M_product_50 : decode c_M_product 50 = .ok (.imul, 1) := by decide +kernel
theorem d_M_product_51 : decode c_M_product 51 = .ok (.ireturn, 1) := by decide +kernel
theorem d_M_over_0 : decode c_M_over 0 = .ok (.aload_n 0, 1) := by decide +kernel
theorem d_M_over_1 : decode c_M_over 1 = .ok (.iload_n 1, 1) := by decide +kernel
theorem d_M_over_2 : decode c_M_over 2 = .ok (.invokevirtual 125, 3) := by decide +kernel
theorem d_M_over_5 : decode c_M_over 5 = .ok (.ifCond .eq 15, 3) := by decide +kernel
theorem d_M_over_8 : decode c_M_over 8 = .ok (.aload_n 0, 1) := by decide +kernel
theorem d_M_over_9 : decode c_M_over 9 = .ok (.iload_n 2, 1) := by decide +kernel
theorem d_M_over_10 : decode c_M_over 10 = .ok (.invokevirtual 125, 3) := by decide +kernel
theorem d_M_over_13 : decode c_M_over 13 = .ok (.ifCond .eq 7, 3) := by decide +kernel
theorem d_M_over_16 : decode c_M_over 16 = .ok (.iconst 1, 1) := by decide +kernel
theorem d_M_over_17 : decode c_M_over 17 = .ok (.goto 4, 3) := by decide +kernel
theorem d_M_over_20 : decode c_M_over 20 = .ok (.iconst 0, 1) := by decide +kernel
theorem d_M_over_21 : decode c_M_over 21 = .ok (.istore_n 3, 1) := by decide +kernel
theorem d_M_over_22 : decode c_M_over 22 = .ok (.aload_n 0, 1) := by decide +kernel
theorem d_M_over_23 : decode c_M_over 23 = .ok (.iload_n 3, 1) := by decide +kernel
theorem d_M_over_24 : decode c_M_over 24 = .ok (.aload_n 0, 1) := by decide +kernel
theorem d_M_over_25 : decode c_M_over 25 = .ok (.getfield 42, 3) := by decide +kernel
theorem d_M_over_28 : decode c_M_over 28 = .ok (.bipush 100, 2) := by decide +kernel
theorem d_M_over_30 : decode c_M_over 30 = .ok (.if_icmp .ge 7, 3) := by decide +kernel
theorem d_M_over_33 : decode c_M_over 33 = .ok (.iconst 1, 1) := by decide +kernel
