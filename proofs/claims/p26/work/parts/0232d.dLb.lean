theorem dL_areRows_372 : decode cL_areRows 372 = .ok (.iconst 1, 1) := by decide +kernel
theorem dL_areRows_373 : decode cL_areRows 373 = .ok (.goto 4, 3) := by decide +kernel
theorem dL_areRows_376 : decode cL_areRows 376 = .ok (.iconst 0, 1) := by decide +kernel
theorem dL_areRows_377 : decode cL_areRows 377 = .ok (.istore 7, 2) := by decide +kernel
theorem dL_areRows_379 : decode cL_areRows 379 = .ok (.iinc 14 1, 3) := by decide +kernel
theorem dL_areRows_382 : decode cL_areRows 382 = .ok (.goto (-56), 3) := by decide +kernel
theorem dL_areRows_385 : decode cL_areRows 385 = .ok (.iinc 11 1, 3) := by decide +kernel
theorem dL_areRows_388 : decode cL_areRows 388 = .ok (.goto (-331), 3) := by decide +kernel
theorem dL_areRows_391 : decode cL_areRows 391 = .ok (.iload 7, 2) := by decide +kernel
theorem dL_areRows_393 : decode cL_areRows 393 = .ok (.ifCond .eq 28, 3) := by decide +kernel
theorem dL_areRows_396 : decode cL_areRows 396 = .ok (.aload_n 0, 1) := by decide +kernel
theorem dL_areRows_397 : decode cL_areRows 397 = .ok (.iconst 4, 1) := by decide +kernel
theorem dL_areRows_398 : decode cL_areRows 398 = .ok (.invokevirtual 123, 3) := by decide +kernel
theorem dL_areRows_401 : decode cL_areRows 401 = .ok (.iload 8, 2) := by decide +kernel
theorem dL_areRows_403 : decode cL_areRows 403 = .ok (.if_icmp .ne 18, 3) := by decide +kernel
theorem dL_areRows_406 : decode cL_areRows 406 = .ok (.aload_n 0, 1) := by decide +kernel
theorem dL_areRows_407 : decode cL_areRows 407 = .ok (.bipush 10, 2) := by decide +kernel
theorem dL_areRows_409 : decode cL_areRows 409 = .ok (.invokevirtual 123, 3) := by decide +kernel
theorem dL_areRows_412 : decode cL_areRows 412 = .ok (.iload 9, 2) := by decide +kernel
theorem dL_areRows_414 : decode cL_areRows 414 = .ok (.if_icmp .ne 7, 3) := by decide +kernel
theorem dL_areRows_417 : decode cL_areRows 417 = .ok (.iconst 1, 1) := by decide +kernel
theorem dL_areRows_418 : decode cL_areRows 418 = .ok (.goto 4, 3) := by decide +kernel
theorem dL_areRows_421 : decode cL_areRows 421 = .ok (.iconst 0, 1) := by decide +kernel
theorem dL_areRows_422 : decode cL_areRows 422 = .ok (.ireturn, 1) := by decide +kernel
theorem dL_areRoutes_0 : decode cL_areRoutes 0 = .ok (.aload_n 0, 1) := by decide +kernel
theorem dL_areRoutes_1 : decode cL_areRoutes 1 = .ok (.aload_n 1, 1) := by decide +kernel
theorem dL_areRoutes_2 : decode cL_areRoutes 2 = .ok (.iconst 2, 1) := by decide +kernel
theorem dL_areRoutes_3 : decode cL_areRoutes 3 = .ok (.iaload, 1) := by decide +kernel
theorem dL_areRoutes_4 : decode cL_areRoutes 4 = .ok (.iconst 0, 1) := by decide +kernel
theorem dL_areRoutes_5 : decode cL_areRoutes 5 = .ok (.invokevirtual 126, 3) := by decide +kernel
theorem dL_areRoutes_8 : decode cL_areRoutes 8 = .ok (.ldc 71, 2) := by decide +kernel
theorem dL_areRoutes_10 : decode cL_areRoutes 10 = .ok (.if_icmp .ne 18, 3) := by decide +kernel
theorem dL_areRoutes_13 : decode cL_areRoutes 13 = .ok (.aload_n 0, 1) := by decide +kernel
theorem dL_areRoutes_14 : decode cL_areRoutes 14 = .ok (.iconst (-1), 1) := by decide +kernel
theorem dL_areRoutes_15 : decode cL_areRoutes 15 = .ok (.iconst 0, 1) := by decide +kernel
theorem dL_areRoutes_16 : decode cL_areRoutes 16 = .ok (.invokevirtual 126, 3) := by decide +kernel
theorem dL_areRoutes_19 : decode cL_areRoutes 19 = .ok (.ldc 71, 2) := by decide +kernel
theorem dL_areRoutes_21 : decode cL_areRoutes 21 = .ok (.if_icmp .ne 7, 3) := by decide +kernel
theorem dL_areRoutes_24 : decode cL_areRoutes 24 = .ok (.iconst 1, 1) := by decide +kernel
theorem dL_areRoutes_25 : decode cL_areRoutes 25 = .ok (.goto 4, 3) := by decide +kernel
theorem dL_areRoutes_28 : decode cL_areRoutes 28 = .ok (.iconst 0, 1) := by decide +kernel
theorem dL_areRoutes_29 : decode cL_areRoutes 29 = .ok (.istore 4, 2) := by decide +kernel
theorem dL_areRoutes_31 : decode cL_areRoutes 31 = .ok (.iconst 0, 1) := by decide +kernel
theorem dL_areRoutes_32 : decode cL_areRoutes 32 = .ok (.istore 5, 2) := by decide +kernel
theorem dL_areRoutes_34 : decode cL_areRoutes 34 = .ok (.iconst 0, 1) := by decide +kernel
theorem dL_areRoutes_35 : decode cL_areRoutes 35 = .ok (.istore 6, 2) := by decide +kernel
theorem dL_areRoutes_37 : decode cL_areRoutes 37 = .ok (.iload 6, 2) := by decide +kernel
theorem dL_areRoutes_39 : decode cL_areRoutes 39 = .ok (.aload_n 1, 1) := by decide +kernel
theorem dL_areRoutes_40 : decode cL_areRoutes 40 = .ok (.iconst 2, 1) := by decide +kernel
theorem dL_areRoutes_41 : decode cL_areRoutes 41 = .ok (.iaload, 1) := by decide +kernel
theorem dL_areRoutes_42 : decode cL_areRoutes 42 = .ok (.if_icmp .ge 200, 3) := by decide +kernel
theorem dL_areRoutes_45 : decode cL_areRoutes 45 = .ok (.iload 4, 2) := by decide +kernel
theorem dL_areRoutes_47 : decode cL_areRoutes 47 = .ok (.ifCond .eq 195, 3) := by decide +kernel
theorem dL_areRoutes_50 : decode cL_areRoutes 50 = .ok (.iconst 0, 1) := by decide +kernel
theorem dL_areRoutes_51 : decode cL_areRoutes 51 = .ok (.istore 7, 2) := by decide +kernel
theorem dL_areRoutes_53 : decode cL_areRoutes 53 = .ok (.iconst 0, 1) := by decide +kernel
theorem dL_areRoutes_54 : decode cL_areRoutes 54 = .ok (.istore 8, 2) := by decide +kernel
theorem dL_areRoutes_56 : decode cL_areRoutes 56 = .ok (.iconst 0, 1) := by decide +kernel
theorem dL_areRoutes_57 : decode cL_areRoutes 57 = .ok (.istore 9, 2) := by decide +kernel
theorem dL_areRoutes_59 : decode cL_areRoutes 59 = .ok (.iload 9, 2) := by decide +kernel
theorem dL_areRoutes_61 : decode cL_areRoutes 61 = .ok (.aload_n 1, 1) := by decide +kernel
theorem dL_areRoutes_62 : decode cL_areRoutes 62 = .ok (.iconst 0, 1) := by decide +kernel
theorem dL_areRoutes_63 : decode cL_areRoutes 63 = .ok (.iaload, 1) := by decide +kernel
theorem dL_areRoutes_64 : decode cL_areRoutes 64 = .ok (.if_icmp .ge 47, 3) := by decide +kernel
theorem dL_areRoutes_67 : decode cL_areRoutes 67 = .ok (.iload 7, 2) := by decide +kernel
theorem dL_areRoutes_69 : decode cL_areRoutes 69 = .ok (.aload_n 3, 1) := by decide +kernel
theorem dL_areRoutes_70 : decode cL_areRoutes 70 = .ok (.iconst 3, 1) := by decide +kernel
theorem dL_areRoutes_71 : decode cL_areRoutes 71 = .ok (.iload 6, 2) := by decide +kernel
theorem dL_areRoutes_73 : decode cL_areRoutes 73 = .ok (.imul, 1) := by decide +kernel
theorem dL_areRoutes_74 : decode cL_areRoutes 74 = .ok (.iaload, 1) := by decide +kernel
theorem dL_areRoutes_75 : decode cL_areRoutes 75 = .ok (.iload 9, 2) := by decide +kernel
theorem dL_areRoutes_77 : decode cL_areRoutes 77 = .ok (.ishr, 1) := by decide +kernel
theorem dL_areRoutes_78 : decode cL_areRoutes 78 = .ok (.iconst 1, 1) := by decide +kernel
theorem dL_areRoutes_79 : decode cL_areRoutes 79 = .ok (.iand, 1) := by decide +kernel
theorem dL_areRoutes_80 : decode cL_areRoutes 80 = .ok (.iadd, 1) := by decide +kernel
theorem dL_areRoutes_81 : decode cL_areRoutes 81 = .ok (.istore 7, 2) := by decide +kernel
theorem dL_areRoutes_83 : decode cL_areRoutes 83 = .ok (.iload 8, 2) := by decide +kernel
theorem dL_areRoutes_85 : decode cL_areRoutes 85 = .ok (.aload_n 3, 1) := by decide +kernel
theorem dL_areRoutes_86 : decode cL_areRoutes 86 = .ok (.iconst 3, 1) := by decide +kernel
theorem dL_areRoutes_87 : decode cL_areRoutes 87 = .ok (.iload 6, 2) := by decide +kernel
theorem dL_areRoutes_89 : decode cL_areRoutes 89 = .ok (.imul, 1) := by decide +kernel
theorem dL_areRoutes_90 : decode cL_areRoutes 90 = .ok (.iaload, 1) := by decide +kernel
theorem dL_areRoutes_91 : decode cL_areRoutes 91 = .ok (.iload 9, 2) := by decide +kernel
theorem dL_areRoutes_93 : decode cL_areRoutes 93 = .ok (.ishr, 1) := by decide +kernel
theorem dL_areRoutes_94 : decode cL_areRoutes 94 = .ok (.aload_n 2, 1) := by decide +kernel
theorem dL_areRoutes_95 : decode cL_areRoutes 95 = .ok (.iload 9, 2) := by decide +kernel
theorem dL_areRoutes_97 : decode cL_areRoutes 97 = .ok (.iaload, 1) := by decide +kernel
theorem dL_areRoutes_98 : decode cL_areRoutes 98 = .ok (.iand, 1) := by decide +kernel
theorem dL_areRoutes_99 : decode cL_areRoutes 99 = .ok (.iload 9, 2) := by decide +kernel
theorem dL_areRoutes_101 : decode cL_areRoutes 101 = .ok (.ishl, 1) := by decide +kernel
theorem dL_areRoutes_102 : decode cL_areRoutes 102 = .ok (.ior, 1) := by decide +kernel
theorem dL_areRoutes_103 : decode cL_areRoutes 103 = .ok (.istore 8, 2) := by decide +kernel
theorem dL_areRoutes_105 : decode cL_areRoutes 105 = .ok (.iinc 9 1, 3) := by decide +kernel
theorem dL_areRoutes_108 : decode cL_areRoutes 108 = .ok (.goto (-49), 3) := by decide +kernel
theorem dL_areRoutes_111 : decode cL_areRoutes 111 = .ok (.iload 5, 2) := by decide +kernel
theorem dL_areRoutes_113 : decode cL_areRoutes 113 = .ok (.aload_n 3, 1) := by decide +kernel
theorem dL_areRoutes_114 : decode cL_areRoutes 114 = .ok (.iconst 3, 1) := by decide +kernel
theorem dL_areRoutes_115 : decode cL_areRoutes 115 = .ok (.iload 6, 2) := by decide +kernel
theorem dL_areRoutes_117 : decode cL_areRoutes 117 = .ok (.imul, 1) := by decide +kernel
theorem dL_areRoutes_118 : decode cL_areRoutes 118 = .ok (.iconst 1, 1) := by decide +kernel
theorem dL_areRoutes_119 : decode cL_areRoutes 119 = .ok (.iadd, 1) := by decide +kernel
theorem dL_areRoutes_120 : decode cL_areRoutes 120 = .ok (.iaload, 1) := by decide +kernel
theorem dL_areRoutes_121 : decode cL_areRoutes 121 = .ok (.iadd, 1) := by decide +kernel
theorem dL_areRoutes_122 : decode cL_areRoutes 122 = .ok (.istore 5, 2) := by decide +kernel
theorem dL_areRoutes_124 : decode cL_areRoutes 124 = .ok (.aload_n 0, 1) := by decide +kernel
theorem dL_areRoutes_125 : decode cL_areRoutes 125 = .ok (.iload 6, 2) := by decide +kernel
theorem dL_areRoutes_127 : decode cL_areRoutes 127 = .ok (.iconst 0, 1) := by decide +kernel
theorem dL_areRoutes_128 : decode cL_areRoutes 128 = .ok (.invokevirtual 126, 3) := by decide +kernel
theorem dL_areRoutes_131 : decode cL_areRoutes 131 = .ok (.aload_n 3, 1) := by decide +kernel
theorem dL_areRoutes_132 : decode cL_areRoutes 132 = .ok (.iconst 3, 1) := by decide +kernel
theorem dL_areRoutes_133 : decode cL_areRoutes 133 = .ok (.iload 6, 2) := by decide +kernel
theorem dL_areRoutes_135 : decode cL_areRoutes 135 = .ok (.imul, 1) := by decide +kernel
theorem dL_areRoutes_136 : decode cL_areRoutes 136 = .ok (.iaload, 1) := by decide +kernel
theorem dL_areRoutes_137 : decode cL_areRoutes 137 = .ok (.if_icmp .ne 96, 3) := by decide +kernel
theorem dL_areRoutes_140 : decode cL_areRoutes 140 = .ok (.aload_n 0, 1) := by decide +kernel
theorem dL_areRoutes_141 : decode cL_areRoutes 141 = .ok (.iload 6, 2) := by decide +kernel
theorem dL_areRoutes_143 : decode cL_areRoutes 143 = .ok (.iconst 1, 1) := by decide +kernel
theorem dL_areRoutes_144 : decode cL_areRoutes 144 = .ok (.invokevirtual 126, 3) := by decide +kernel
theorem dL_areRoutes_147 : decode cL_areRoutes 147 = .ok (.iload 7, 2) := by decide +kernel
theorem dL_areRoutes_149 : decode cL_areRoutes 149 = .ok (.if_icmp .ne 84, 3) := by decide +kernel
theorem dL_areRoutes_152 : decode cL_areRoutes 152 = .ok (.aload_n 0, 1) := by decide +kernel
theorem dL_areRoutes_153 : decode cL_areRoutes 153 = .ok (.iload 6, 2) := by decide +kernel
theorem dL_areRoutes_155 : decode cL_areRoutes 155 = .ok (.iconst 2, 1) := by decide +kernel
theorem dL_areRoutes_156 : decode cL_areRoutes 156 = .ok (.invokevirtual 126, 3) := by decide +kernel
theorem dL_areRoutes_159 : decode cL_areRoutes 159 = .ok (.iload 8, 2) := by decide +kernel
theorem dL_areRoutes_161 : decode cL_areRoutes 161 = .ok (.if_icmp .ne 72, 3) := by decide +kernel
theorem dL_areRoutes_164 : decode cL_areRoutes 164 = .ok (.aload_n 0, 1) := by decide +kernel
theorem dL_areRoutes_165 : decode cL_areRoutes 165 = .ok (.iload 6, 2) := by decide +kernel
theorem dL_areRoutes_167 : decode cL_areRoutes 167 = .ok (.iconst 3, 1) := by decide +kernel
theorem dL_areRoutes_168 : decode cL_areRoutes 168 = .ok (.invokevirtual 126, 3) := by decide +kernel
theorem dL_areRoutes_171 : decode cL_areRoutes 171 = .ok (.aload_n 3, 1) := by decide +kernel
theorem dL_areRoutes_172 : decode cL_areRoutes 172 = .ok (.iconst 3, 1) := by decide +kernel
theorem dL_areRoutes_173 : decode cL_areRoutes 173 = .ok (.iload 6, 2) := by decide +kernel
theorem dL_areRoutes_175 : decode cL_areRoutes 175 = .ok (.imul, 1) := by decide +kernel
theorem dL_areRoutes_176 : decode cL_areRoutes 176 = .ok (.iconst 1, 1) := by decide +kernel
theorem dL_areRoutes_177 : decode cL_areRoutes 177 = .ok (.iadd, 1) := by decide +kernel
theorem dL_areRoutes_178 : decode cL_areRoutes 178 = .ok (.iaload, 1) := by decide +kernel
theorem dL_areRoutes_179 : decode cL_areRoutes 179 = .ok (.if_icmp .ne 54, 3) := by decide +kernel
theorem dL_areRoutes_182 : decode cL_areRoutes 182 = .ok (.aload_n 0, 1) := by decide +kernel
theorem dL_areRoutes_183 : decode cL_areRoutes 183 = .ok (.iload 6, 2) := by decide +kernel
theorem dL_areRoutes_185 : decode cL_areRoutes 185 = .ok (.iconst 4, 1) := by decide +kernel
theorem dL_areRoutes_186 : decode cL_areRoutes 186 = .ok (.invokevirtual 126, 3) := by decide +kernel
theorem dL_areRoutes_189 : decode cL_areRoutes 189 = .ok (.aload_n 3, 1) := by decide +kernel
theorem dL_areRoutes_190 : decode cL_areRoutes 190 = .ok (.iconst 3, 1) := by decide +kernel
theorem dL_areRoutes_191 : decode cL_areRoutes 191 = .ok (.iload 6, 2) := by decide +kernel
theorem dL_areRoutes_193 : decode cL_areRoutes 193 = .ok (.imul, 1) := by decide +kernel
theorem dL_areRoutes_194 : decode cL_areRoutes 194 = .ok (.iconst 2, 1) := by decide +kernel
theorem dL_areRoutes_195 : decode cL_areRoutes 195 = .ok (.iadd, 1) := by decide +kernel
theorem dL_areRoutes_196 : decode cL_areRoutes 196 = .ok (.iaload, 1) := by decide +kernel
theorem dL_areRoutes_197 : decode cL_areRoutes 197 = .ok (.if_icmp .ne 36, 3) := by decide +kernel
theorem dL_areRoutes_200 : decode cL_areRoutes 200 = .ok (.aload_n 0, 1) := by decide +kernel
theorem dL_areRoutes_201 : decode cL_areRoutes 201 = .ok (.iload 6, 2) := by decide +kernel
theorem dL_areRoutes_203 : decode cL_areRoutes 203 = .ok (.iconst 5, 1) := by decide +kernel
theorem dL_areRoutes_204 : decode cL_areRoutes 204 = .ok (.invokevirtual 126, 3) := by decide +kernel
theorem dL_areRoutes_207 : decode cL_areRoutes 207 = .ok (.ldc 71, 2) := by decide +kernel
theorem dL_areRoutes_209 : decode cL_areRoutes 209 = .ok (.if_icmp .ne 24, 3) := by decide +kernel
theorem dL_areRoutes_212 : decode cL_areRoutes 212 = .ok (.aload_n 0, 1) := by decide +kernel
theorem dL_areRoutes_213 : decode cL_areRoutes 213 = .ok (.iload 6, 2) := by decide +kernel
theorem dL_areRoutes_215 : decode cL_areRoutes 215 = .ok (.iconst 4, 1) := by decide +kernel
theorem dL_areRoutes_216 : decode cL_areRoutes 216 = .ok (.invokevirtual 126, 3) := by decide +kernel
theorem dL_areRoutes_219 : decode cL_areRoutes 219 = .ok (.aload_n 0, 1) := by decide +kernel
theorem dL_areRoutes_220 : decode cL_areRoutes 220 = .ok (.iload 6, 2) := by decide +kernel
theorem dL_areRoutes_222 : decode cL_areRoutes 222 = .ok (.iconst 3, 1) := by decide +kernel
theorem dL_areRoutes_223 : decode cL_areRoutes 223 = .ok (.invokevirtual 126, 3) := by decide +kernel
theorem dL_areRoutes_226 : decode cL_areRoutes 226 = .ok (.if_icmp .gt 7, 3) := by decide +kernel
theorem dL_areRoutes_229 : decode cL_areRoutes 229 = .ok (.iconst 1, 1) := by decide +kernel
theorem dL_areRoutes_230 : decode cL_areRoutes 230 = .ok (.goto 4, 3) := by decide +kernel
theorem dL_areRoutes_233 : decode cL_areRoutes 233 = .ok (.iconst 0, 1) := by decide +kernel
theorem dL_areRoutes_234 : decode cL_areRoutes 234 = .ok (.istore 4, 2) := by decide +kernel
theorem dL_areRoutes_236 : decode cL_areRoutes 236 = .ok (.iinc 6 1, 3) := by decide +kernel
theorem dL_areRoutes_239 : decode cL_areRoutes 239 = .ok (.goto (-202), 3) := by decide +kernel
theorem dL_areRoutes_242 : decode cL_areRoutes 242 = .ok (.iload 4, 2) := by decide +kernel
theorem dL_areRoutes_244 : decode cL_areRoutes 244 = .ok (.ifCond .eq 33, 3) := by decide +kernel
theorem dL_areRoutes_247 : decode cL_areRoutes 247 = .ok (.iload 5, 2) := by decide +kernel
theorem dL_areRoutes_249 : decode cL_areRoutes 249 = .ok (.aload_n 0, 1) := by decide +kernel
theorem dL_areRoutes_250 : decode cL_areRoutes 250 = .ok (.bipush 7, 2) := by decide +kernel
theorem dL_areRoutes_252 : decode cL_areRoutes 252 = .ok (.invokevirtual 123, 3) := by decide +kernel
theorem dL_areRoutes_255 : decode cL_areRoutes 255 = .ok (.if_icmp .gt 22, 3) := by decide +kernel
theorem dL_areRoutes_258 : decode cL_areRoutes 258 = .ok (.aload_n 0, 1) := by decide +kernel
theorem dL_areRoutes_259 : decode cL_areRoutes 259 = .ok (.bipush 8, 2) := by decide +kernel
theorem dL_areRoutes_261 : decode cL_areRoutes 261 = .ok (.invokevirtual 123, 3) := by decide +kernel
theorem dL_areRoutes_264 : decode cL_areRoutes 264 = .ok (.aload_n 0, 1) := by decide +kernel
theorem dL_areRoutes_265 : decode cL_areRoutes 265 = .ok (.bipush 7, 2) := by decide +kernel
theorem dL_areRoutes_267 : decode cL_areRoutes 267 = .ok (.invokevirtual 123, 3) := by decide +kernel
theorem dL_areRoutes_270 : decode cL_areRoutes 270 = .ok (.if_icmp .gt 7, 3) := by decide +kernel
theorem dL_areRoutes_273 : decode cL_areRoutes 273 = .ok (.iconst 1, 1) := by decide +kernel
theorem dL_areRoutes_274 : decode cL_areRoutes 274 = .ok (.goto 4, 3) := by decide +kernel
theorem dL_areRoutes_277 : decode cL_areRoutes 277 = .ok (.iconst 0, 1) := by decide +kernel
theorem dL_areRoutes_278 : decode cL_areRoutes 278 = .ok (.ireturn, 1) := by decide +kernel
