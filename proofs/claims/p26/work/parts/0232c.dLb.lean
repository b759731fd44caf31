theorem dL_acts_13 : decode cL_acts 13 = .ok (.bipush 32, 2) := by decide +kernel
theorem dL_acts_15 : decode cL_acts 15 = .ok (.invokestatic 93, 3) := by decide +kernel
theorem dL_acts_18 : decode cL_acts 18 = .ok (.istore 9, 2) := by decide +kernel
theorem dL_acts_20 : decode cL_acts 20 = .ok (.iload 9, 2) := by decide +kernel
theorem dL_acts_22 : decode cL_acts 22 = .ok (.bipush 9, 2) := by decide +kernel
theorem dL_acts_24 : decode cL_acts 24 = .ok (.if_icmp .ge 17, 3) := by decide +kernel
theorem dL_acts_27 : decode cL_acts 27 = .ok (.aload_n 0, 1) := by decide +kernel
theorem dL_acts_28 : decode cL_acts 28 = .ok (.aload_n 1, 1) := by decide +kernel
theorem dL_acts_29 : decode cL_acts 29 = .ok (.aload_n 2, 1) := by decide +kernel
theorem dL_acts_30 : decode cL_acts 30 = .ok (.aload_n 3, 1) := by decide +kernel
theorem dL_acts_31 : decode cL_acts 31 = .ok (.aload 4, 2) := by decide +kernel
theorem dL_acts_33 : decode cL_acts 33 = .ok (.aload 5, 2) := by decide +kernel
theorem dL_acts_35 : decode cL_acts 35 = .ok (.iload 8, 2) := by decide +kernel
theorem dL_acts_37 : decode cL_acts 37 = .ok (.invokestatic 96, 3) := by decide +kernel
theorem dL_acts_40 : decode cL_acts 40 = .ok (.ireturn, 1) := by decide +kernel
theorem dL_acts_41 : decode cL_acts 41 = .ok (.iload 9, 2) := by decide +kernel
theorem dL_acts_43 : decode cL_acts 43 = .ok (.bipush 23, 2) := by decide +kernel
theorem dL_acts_45 : decode cL_acts 45 = .ok (.if_icmp .ge 64, 3) := by decide +kernel
theorem dL_acts_48 : decode cL_acts 48 = .ok (.aload_n 0, 1) := by decide +kernel
theorem dL_acts_49 : decode cL_acts 49 = .ok (.aload_n 1, 1) := by decide +kernel
theorem dL_acts_50 : decode cL_acts 50 = .ok (.aload_n 2, 1) := by decide +kernel
theorem dL_acts_51 : decode cL_acts 51 = .ok (.aload_n 3, 1) := by decide +kernel
theorem dL_acts_52 : decode cL_acts 52 = .ok (.aload 4, 2) := by decide +kernel
theorem dL_acts_54 : decode cL_acts 54 = .ok (.aload 5, 2) := by decide +kernel
theorem dL_acts_56 : decode cL_acts 56 = .ok (.aload 6, 2) := by decide +kernel
theorem dL_acts_58 : decode cL_acts 58 = .ok (.iload 9, 2) := by decide +kernel
theorem dL_acts_60 : decode cL_acts 60 = .ok (.bipush 9, 2) := by decide +kernel
theorem dL_acts_62 : decode cL_acts 62 = .ok (.if_icmp .ne 7, 3) := by decide +kernel
theorem dL_acts_65 : decode cL_acts 65 = .ok (.iconst 0, 1) := by decide +kernel
theorem dL_acts_66 : decode cL_acts 66 = .ok (.goto 37, 3) := by decide +kernel
theorem dL_acts_69 : decode cL_acts 69 = .ok (.iload 9, 2) := by decide +kernel
theorem dL_acts_71 : decode cL_acts 71 = .ok (.bipush 10, 2) := by decide +kernel
theorem dL_acts_73 : decode cL_acts 73 = .ok (.if_icmp .ne 7, 3) := by decide +kernel
theorem dL_acts_76 : decode cL_acts 76 = .ok (.iconst 1, 1) := by decide +kernel
theorem dL_acts_77 : decode cL_acts 77 = .ok (.goto 26, 3) := by decide +kernel
theorem dL_acts_80 : decode cL_acts 80 = .ok (.iload 9, 2) := by decide +kernel
theorem dL_acts_82 : decode cL_acts 82 = .ok (.bipush 13, 2) := by decide +kernel
theorem dL_acts_84 : decode cL_acts 84 = .ok (.if_icmp .ge 7, 3) := by decide +kernel
theorem dL_acts_87 : decode cL_acts 87 = .ok (.iconst 2, 1) := by decide +kernel
theorem dL_acts_88 : decode cL_acts 88 = .ok (.goto 15, 3) := by decide +kernel
theorem dL_acts_91 : decode cL_acts 91 = .ok (.iload 9, 2) := by decide +kernel
theorem dL_acts_93 : decode cL_acts 93 = .ok (.bipush 21, 2) := by decide +kernel
theorem dL_acts_95 : decode cL_acts 95 = .ok (.if_icmp .ge 7, 3) := by decide +kernel
theorem dL_acts_98 : decode cL_acts 98 = .ok (.iconst 3, 1) := by decide +kernel
theorem dL_acts_99 : decode cL_acts 99 = .ok (.goto 4, 3) := by decide +kernel
theorem dL_acts_102 : decode cL_acts 102 = .ok (.iconst 4, 1) := by decide +kernel
theorem dL_acts_103 : decode cL_acts 103 = .ok (.iload 8, 2) := by decide +kernel
theorem dL_acts_105 : decode cL_acts 105 = .ok (.invokestatic 100, 3) := by decide +kernel
theorem dL_acts_108 : decode cL_acts 108 = .ok (.ireturn, 1) := by decide +kernel
theorem dL_acts_109 : decode cL_acts 109 = .ok (.iload 9, 2) := by decide +kernel
theorem dL_acts_111 : decode cL_acts 111 = .ok (.bipush 25, 2) := by decide +kernel
theorem dL_acts_113 : decode cL_acts 113 = .ok (.if_icmp .ge 54, 3) := by decide +kernel
theorem dL_acts_116 : decode cL_acts 116 = .ok (.iload 8, 2) := by decide +kernel
theorem dL_acts_118 : decode cL_acts 118 = .ok (.aload_n 1, 1) := by decide +kernel
theorem dL_acts_119 : decode cL_acts 119 = .ok (.iconst 2, 1) := by decide +kernel
theorem dL_acts_120 : decode cL_acts 120 = .ok (.iaload, 1) := by decide +kernel
theorem dL_acts_121 : decode cL_acts 121 = .ok (.iconst 1, 1) := by decide +kernel
theorem dL_acts_122 : decode cL_acts 122 = .ok (.iadd, 1) := by decide +kernel
theorem dL_acts_123 : decode cL_acts 123 = .ok (.irem, 1) := by decide +kernel
theorem dL_acts_124 : decode cL_acts 124 = .ok (.iconst 1, 1) := by decide +kernel
theorem dL_acts_125 : decode cL_acts 125 = .ok (.isub, 1) := by decide +kernel
theorem dL_acts_126 : decode cL_acts 126 = .ok (.istore 10, 2) := by decide +kernel
theorem dL_acts_128 : decode cL_acts 128 = .ok (.aload_n 1, 1) := by decide +kernel
theorem dL_acts_129 : decode cL_acts 129 = .ok (.iconst 3, 1) := by decide +kernel
theorem dL_acts_130 : decode cL_acts 130 = .ok (.iaload, 1) := by decide +kernel
theorem dL_acts_131 : decode cL_acts 131 = .ok (.istore 11, 2) := by decide +kernel
theorem dL_acts_133 : decode cL_acts 133 = .ok (.aload_n 1, 1) := by decide +kernel
theorem dL_acts_134 : decode cL_acts 134 = .ok (.iconst 3, 1) := by decide +kernel
theorem dL_acts_135 : decode cL_acts 135 = .ok (.iload 10, 2) := by decide +kernel
theorem dL_acts_137 : decode cL_acts 137 = .ok (.iastore, 1) := by decide +kernel
theorem dL_acts_138 : decode cL_acts 138 = .ok (.aload_n 0, 1) := by decide +kernel
theorem dL_acts_139 : decode cL_acts 139 = .ok (.iload 10, 2) := by decide +kernel
theorem dL_acts_141 : decode cL_acts 141 = .ok (.invokevirtual 104, 3) := by decide +kernel
theorem dL_acts_144 : decode cL_acts 144 = .ok (.iload 11, 2) := by decide +kernel
theorem dL_acts_146 : decode cL_acts 146 = .ok (.if_icmp .ne 19, 3) := by decide +kernel
theorem dL_acts_149 : decode cL_acts 149 = .ok (.aload_n 0, 1) := by decide +kernel
theorem dL_acts_150 : decode cL_acts 150 = .ok (.aload_n 1, 1) := by decide +kernel
theorem dL_acts_151 : decode cL_acts 151 = .ok (.iconst 2, 1) := by decide +kernel
theorem dL_acts_152 : decode cL_acts 152 = .ok (.iaload, 1) := by decide +kernel
theorem dL_acts_153 : decode cL_acts 153 = .ok (.invokevirtual 104, 3) := by decide +kernel
theorem dL_acts_156 : decode cL_acts 156 = .ok (.ldc 71, 2) := by decide +kernel
theorem dL_acts_158 : decode cL_acts 158 = .ok (.if_icmp .ne 7, 3) := by decide +kernel
theorem dL_acts_161 : decode cL_acts 161 = .ok (.iconst 1, 1) := by decide +kernel
theorem dL_acts_162 : decode cL_acts 162 = .ok (.goto 4, 3) := by decide +kernel
theorem dL_acts_165 : decode cL_acts 165 = .ok (.iconst 0, 1) := by decide +kernel
theorem dL_acts_166 : decode cL_acts 166 = .ok (.ireturn, 1) := by decide +kernel
theorem dL_acts_167 : decode cL_acts 167 = .ok (.iload 9, 2) := by decide +kernel
theorem dL_acts_169 : decode cL_acts 169 = .ok (.bipush 29, 2) := by decide +kernel
theorem dL_acts_171 : decode cL_acts 171 = .ok (.if_icmp .ge 102, 3) := by decide +kernel
theorem dL_acts_174 : decode cL_acts 174 = .ok (.aload_n 1, 1) := by decide +kernel
theorem dL_acts_175 : decode cL_acts 175 = .ok (.aload_n 2, 1) := by decide +kernel
theorem dL_acts_176 : decode cL_acts 176 = .ok (.aload 4, 2) := by decide +kernel
theorem dL_acts_178 : decode cL_acts 178 = .ok (.aload 5, 2) := by decide +kernel
theorem dL_acts_180 : decode cL_acts 180 = .ok (.aload 6, 2) := by decide +kernel
theorem dL_acts_182 : decode cL_acts 182 = .ok (.aload_n 1, 1) := by decide +kernel
theorem dL_acts_183 : decode cL_acts 183 = .ok (.iconst 1, 1) := by decide +kernel
theorem dL_acts_184 : decode cL_acts 184 = .ok (.iaload, 1) := by decide +kernel
theorem dL_acts_185 : decode cL_acts 185 = .ok (.invokestatic 107, 3) := by decide +kernel
theorem dL_acts_188 : decode cL_acts 188 = .ok (.istore 10, 2) := by decide +kernel
theorem dL_acts_190 : decode cL_acts 190 = .ok (.aload_n 1, 1) := by decide +kernel
theorem dL_acts_191 : decode cL_acts 191 = .ok (.bipush 6, 2) := by decide +kernel
theorem dL_acts_193 : decode cL_acts 193 = .ok (.dup2, 1) := by decide +kernel
theorem dL_acts_194 : decode cL_acts 194 = .ok (.iaload, 1) := by decide +kernel
theorem dL_acts_195 : decode cL_acts 195 = .ok (.iconst 1, 1) := by decide +kernel
theorem dL_acts_196 : decode cL_acts 196 = .ok (.iadd, 1) := by decide +kernel
theorem dL_acts_197 : decode cL_acts 197 = .ok (.iastore, 1) := by decide +kernel
theorem dL_acts_198 : decode cL_acts 198 = .ok (.aload_n 1, 1) := by decide +kernel
theorem dL_acts_199 : decode cL_acts 199 = .ok (.bipush 7, 2) := by decide +kernel
theorem dL_acts_201 : decode cL_acts 201 = .ok (.dup2, 1) := by decide +kernel
theorem dL_acts_202 : decode cL_acts 202 = .ok (.iaload, 1) := by decide +kernel
theorem dL_acts_203 : decode cL_acts 203 = .ok (.iload 10, 2) := by decide +kernel
theorem dL_acts_205 : decode cL_acts 205 = .ok (.ifCond .ne 7, 3) := by decide +kernel
theorem dL_acts_208 : decode cL_acts 208 = .ok (.iconst 1, 1) := by decide +kernel
theorem dL_acts_209 : decode cL_acts 209 = .ok (.goto 4, 3) := by decide +kernel
theorem dL_acts_212 : decode cL_acts 212 = .ok (.iconst 0, 1) := by decide +kernel
theorem dL_acts_213 : decode cL_acts 213 = .ok (.iadd, 1) := by decide +kernel
theorem dL_acts_214 : decode cL_acts 214 = .ok (.iastore, 1) := by decide +kernel
theorem dL_acts_215 : decode cL_acts 215 = .ok (.aload_n 1, 1) := by decide +kernel
theorem dL_acts_216 : decode cL_acts 216 = .ok (.iconst 3, 1) := by decide +kernel
theorem dL_acts_217 : decode cL_acts 217 = .ok (.iaload, 1) := by decide +kernel
theorem dL_acts_218 : decode cL_acts 218 = .ok (.ifCond .lt 40, 3) := by decide +kernel
theorem dL_acts_221 : decode cL_acts 221 = .ok (.aload 6, 2) := by decide +kernel
theorem dL_acts_223 : decode cL_acts 223 = .ok (.iconst 3, 1) := by decide +kernel
theorem dL_acts_224 : decode cL_acts 224 = .ok (.aload_n 1, 1) := by decide +kernel
theorem dL_acts_225 : decode cL_acts 225 = .ok (.iconst 3, 1) := by decide +kernel
theorem dL_acts_226 : decode cL_acts 226 = .ok (.iaload, 1) := by decide +kernel
theorem dL_acts_227 : decode cL_acts 227 = .ok (.imul, 1) := by decide +kernel
theorem dL_acts_228 : decode cL_acts 228 = .ok (.iconst 1, 1) := by decide +kernel
theorem dL_acts_229 : decode cL_acts 229 = .ok (.iadd, 1) := by decide +kernel
theorem dL_acts_230 : decode cL_acts 230 = .ok (.dup2, 1) := by decide +kernel
theorem dL_acts_231 : decode cL_acts 231 = .ok (.iaload, 1) := by decide +kernel
theorem dL_acts_232 : decode cL_acts 232 = .ok (.iconst 1, 1) := by decide +kernel
theorem dL_acts_233 : decode cL_acts 233 = .ok (.iadd, 1) := by decide +kernel
theorem dL_acts_234 : decode cL_acts 234 = .ok (.iastore, 1) := by decide +kernel
theorem dL_acts_235 : decode cL_acts 235 = .ok (.aload 6, 2) := by decide +kernel
theorem dL_acts_237 : decode cL_acts 237 = .ok (.iconst 3, 1) := by decide +kernel
theorem dL_acts_238 : decode cL_acts 238 = .ok (.aload_n 1, 1) := by decide +kernel
theorem dL_acts_239 : decode cL_acts 239 = .ok (.iconst 3, 1) := by decide +kernel
theorem dL_acts_240 : decode cL_acts 240 = .ok (.iaload, 1) := by decide +kernel
theorem dL_acts_241 : decode cL_acts 241 = .ok (.imul, 1) := by decide +kernel
theorem dL_acts_242 : decode cL_acts 242 = .ok (.iconst 2, 1) := by decide +kernel
theorem dL_acts_243 : decode cL_acts 243 = .ok (.iadd, 1) := by decide +kernel
theorem dL_acts_244 : decode cL_acts 244 = .ok (.dup2, 1) := by decide +kernel
theorem dL_acts_245 : decode cL_acts 245 = .ok (.iaload, 1) := by decide +kernel
theorem dL_acts_246 : decode cL_acts 246 = .ok (.iload 10, 2) := by decide +kernel
theorem dL_acts_248 : decode cL_acts 248 = .ok (.ifCond .ne 7, 3) := by decide +kernel
theorem dL_acts_251 : decode cL_acts 251 = .ok (.iconst 1, 1) := by decide +kernel
theorem dL_acts_252 : decode cL_acts 252 = .ok (.goto 4, 3) := by decide +kernel
theorem dL_acts_255 : decode cL_acts 255 = .ok (.iconst 0, 1) := by decide +kernel
theorem dL_acts_256 : decode cL_acts 256 = .ok (.iadd, 1) := by decide +kernel
theorem dL_acts_257 : decode cL_acts 257 = .ok (.iastore, 1) := by decide +kernel
theorem dL_acts_258 : decode cL_acts 258 = .ok (.aload_n 0, 1) := by decide +kernel
theorem dL_acts_259 : decode cL_acts 259 = .ok (.invokevirtual 111, 3) := by decide +kernel
theorem dL_acts_262 : decode cL_acts 262 = .ok (.iload 10, 2) := by decide +kernel
theorem dL_acts_264 : decode cL_acts 264 = .ok (.if_icmp .ne 7, 3) := by decide +kernel
theorem dL_acts_267 : decode cL_acts 267 = .ok (.iconst 1, 1) := by decide +kernel
theorem dL_acts_268 : decode cL_acts 268 = .ok (.goto 4, 3) := by decide +kernel
theorem dL_acts_271 : decode cL_acts 271 = .ok (.iconst 0, 1) := by decide +kernel
theorem dL_acts_272 : decode cL_acts 272 = .ok (.ireturn, 1) := by decide +kernel
theorem dL_acts_273 : decode cL_acts 273 = .ok (.iload 8, 2) := by decide +kernel
theorem dL_acts_275 : decode cL_acts 275 = .ok (.iconst 3, 1) := by decide +kernel
theorem dL_acts_276 : decode cL_acts 276 = .ok (.irem, 1) := by decide +kernel
theorem dL_acts_277 : decode cL_acts 277 = .ok (.istore 10, 2) := by decide +kernel
theorem dL_acts_279 : decode cL_acts 279 = .ok (.aload_n 1, 1) := by decide +kernel
theorem dL_acts_280 : decode cL_acts 280 = .ok (.bipush 8, 2) := by decide +kernel
theorem dL_acts_282 : decode cL_acts 282 = .ok (.iload 10, 2) := by decide +kernel
theorem dL_acts_284 : decode cL_acts 284 = .ok (.iadd, 1) := by decide +kernel
theorem dL_acts_285 : decode cL_acts 285 = .ok (.iaload, 1) := by decide +kernel
theorem dL_acts_286 : decode cL_acts 286 = .ok (.istore 11, 2) := by decide +kernel
theorem dL_acts_288 : decode cL_acts 288 = .ok (.aload_n 1, 1) := by decide +kernel
theorem dL_acts_289 : decode cL_acts 289 = .ok (.bipush 8, 2) := by decide +kernel
theorem dL_acts_291 : decode cL_acts 291 = .ok (.iload 10, 2) := by decide +kernel
theorem dL_acts_293 : decode cL_acts 293 = .ok (.iadd, 1) := by decide +kernel
theorem dL_acts_294 : decode cL_acts 294 = .ok (.iload 10, 2) := by decide +kernel
theorem dL_acts_296 : decode cL_acts 296 = .ok (.ifCond .ne 15, 3) := by decide +kernel
theorem dL_acts_299 : decode cL_acts 299 = .ok (.iconst 4, 1) := by decide +kernel
theorem dL_acts_300 : decode cL_acts 300 = .ok (.iload 8, 2) := by decide +kernel
theorem dL_acts_302 : decode cL_acts 302 = .ok (.iconst 3, 1) := by decide +kernel
theorem dL_acts_303 : decode cL_acts 303 = .ok (.idiv, 1) := by decide +kernel
theorem dL_acts_304 : decode cL_acts 304 = .ok (.bipush 57, 2) := by decide +kernel
theorem dL_acts_306 : decode cL_acts 306 = .ok (.irem, 1) := by decide +kernel
theorem dL_acts_307 : decode cL_acts 307 = .ok (.iadd, 1) := by decide +kernel
theorem dL_acts_308 : decode cL_acts 308 = .ok (.goto 43, 3) := by decide +kernel
theorem dL_acts_311 : decode cL_acts 311 = .ok (.iload 10, 2) := by decide +kernel
theorem dL_acts_313 : decode cL_acts 313 = .ok (.iconst 1, 1) := by decide +kernel
theorem dL_acts_314 : decode cL_acts 314 = .ok (.if_icmp .ne 28, 3) := by decide +kernel
theorem dL_acts_317 : decode cL_acts 317 = .ok (.iconst 1, 1) := by decide +kernel
theorem dL_acts_318 : decode cL_acts 318 = .ok (.iload 8, 2) := by decide +kernel
theorem dL_acts_320 : decode cL_acts 320 = .ok (.iconst 3, 1) := by decide +kernel
theorem dL_acts_321 : decode cL_acts 321 = .ok (.idiv, 1) := by decide +kernel
theorem dL_acts_322 : decode cL_acts 322 = .ok (.iload 8, 2) := by decide +kernel
theorem dL_acts_324 : decode cL_acts 324 = .ok (.iconst 2, 1) := by decide +kernel
theorem dL_acts_325 : decode cL_acts 325 = .ok (.irem, 1) := by decide +kernel
theorem dL_acts_326 : decode cL_acts 326 = .ok (.ifCond .ne 9, 3) := by decide +kernel
theorem dL_acts_329 : decode cL_acts 329 = .ok (.sipush 200, 3) := by decide +kernel
theorem dL_acts_332 : decode cL_acts 332 = .ok (.goto 5, 3) := by decide +kernel
theorem dL_acts_335 : decode cL_acts 335 = .ok (.bipush 9, 2) := by decide +kernel
theorem dL_acts_337 : decode cL_acts 337 = .ok (.irem, 1) := by decide +kernel
theorem dL_acts_338 : decode cL_acts 338 = .ok (.iadd, 1) := by decide +kernel
theorem dL_acts_339 : decode cL_acts 339 = .ok (.goto 12, 3) := by decide +kernel
theorem dL_acts_342 : decode cL_acts 342 = .ok (.iconst 1, 1) := by decide +kernel
theorem dL_acts_343 : decode cL_acts 343 = .ok (.iload 8, 2) := by decide +kernel
theorem dL_acts_345 : decode cL_acts 345 = .ok (.iconst 3, 1) := by decide +kernel
theorem dL_acts_346 : decode cL_acts 346 = .ok (.idiv, 1) := by decide +kernel
theorem dL_acts_347 : decode cL_acts 347 = .ok (.bipush 50, 2) := by decide +kernel
theorem dL_acts_349 : decode cL_acts 349 = .ok (.irem, 1) := by decide +kernel
theorem dL_acts_350 : decode cL_acts 350 = .ok (.iadd, 1) := by decide +kernel
theorem dL_acts_351 : decode cL_acts 351 = .ok (.iastore, 1) := by decide +kernel
theorem dL_acts_352 : decode cL_acts 352 = .ok (.aload_n 0, 1) := by decide +kernel
theorem dL_acts_353 : decode cL_acts 353 = .ok (.iload 10, 2) := by decide +kernel
theorem dL_acts_355 : decode cL_acts 355 = .ok (.aload_n 1, 1) := by decide +kernel
theorem dL_acts_356 : decode cL_acts 356 = .ok (.bipush 8, 2) := by decide +kernel
theorem dL_acts_358 : decode cL_acts 358 = .ok (.iload 10, 2) := by decide +kernel
theorem dL_acts_360 : decode cL_acts 360 = .ok (.iadd, 1) := by decide +kernel
theorem dL_acts_361 : decode cL_acts 361 = .ok (.iaload, 1) := by decide +kernel
theorem dL_acts_362 : decode cL_acts 362 = .ok (.invokevirtual 114, 3) := by decide +kernel
theorem dL_acts_365 : decode cL_acts 365 = .ok (.iload 11, 2) := by decide +kernel
theorem dL_acts_367 : decode cL_acts 367 = .ok (.if_icmp .ne 7, 3) := by decide +kernel
theorem dL_acts_370 : decode cL_acts 370 = .ok (.iconst 1, 1) := by decide +kernel
theorem dL_acts_371 : decode cL_acts 371 = .ok (.goto 4, 3) := by decide +kernel
theorem dL_acts_374 : decode cL_acts 374 = .ok (.iconst 0, 1) := by decide +kernel
theorem dL_acts_375 : decode cL_acts 375 = .ok (.ireturn, 1) := by decide +kernel
theorem dL_areRows_0 : decode cL_areRows 0 = .ok (.aload_n 0, 1) := by decide +kernel
theorem dL_areRows_1 : decode cL_areRows 1 = .ok (.aload_n 1, 1) := by decide +kernel
theorem dL_areRows_2 : decode cL_areRows 2 = .ok (.iconst 0, 1) := by decide +kernel
theorem dL_areRows_3 : decode cL_areRows 3 = .ok (.iaload, 1) := by decide +kernel
theorem dL_areRows_4 : decode cL_areRows 4 = .ok (.iconst 0, 1) := by decide +kernel
theorem dL_areRows_5 : decode cL_areRows 5 = .ok (.invokevirtual 117, 3) := by decide +kernel
theorem dL_areRows_8 : decode cL_areRows 8 = .ok (.ldc 71, 2) := by decide +kernel
theorem dL_areRows_10 : decode cL_areRows 10 = .ok (.if_icmp .ne 31, 3) := by decide +kernel
theorem dL_areRows_13 : decode cL_areRows 13 = .ok (.aload_n 0, 1) := by decide +kernel
theorem dL_areRows_14 : decode cL_areRows 14 = .ok (.iconst (-1), 1) := by decide +kernel
theorem dL_areRows_15 : decode cL_areRows 15 = .ok (.iconst 0, 1) := by decide +kernel
theorem dL_areRows_16 : decode cL_areRows 16 = .ok (.invokevirtual 117, 3) := by decide +kernel
theorem dL_areRows_19 : decode cL_areRows 19 = .ok (.ldc 71, 2) := by decide +kernel
theorem dL_areRows_21 : decode cL_areRows 21 = .ok (.if_icmp .ne 20, 3) := by decide +kernel
theorem dL_areRows_24 : decode cL_areRows 24 = .ok (.aload_n 0, 1) := by decide +kernel
theorem dL_areRows_25 : decode cL_areRows 25 = .ok (.aload_n 1, 1) := by decide +kernel
theorem dL_areRows_26 : decode cL_areRows 26 = .ok (.iconst 0, 1) := by decide +kernel
theorem dL_areRows_27 : decode cL_areRows 27 = .ok (.iaload, 1) := by decide +kernel
theorem dL_areRows_28 : decode cL_areRows 28 = .ok (.iconst 0, 1) := by decide +kernel
theorem dL_areRows_29 : decode cL_areRows 29 = .ok (.invokevirtual 120, 3) := by decide +kernel
theorem dL_areRows_32 : decode cL_areRows 32 = .ok (.ldc 71, 2) := by decide +kernel
theorem dL_areRows_34 : decode cL_areRows 34 = .ok (.if_icmp .ne 7, 3) := by decide +kernel
theorem dL_areRows_37 : decode cL_areRows 37 = .ok (.iconst 1, 1) := by decide +kernel
theorem dL_areRows_38 : decode cL_areRows 38 = .ok (.goto 4, 3) := by decide +kernel
theorem dL_areRows_41 : decode cL_areRows 41 = .ok (.iconst 0, 1) := by decide +kernel
theorem dL_areRows_42 : decode cL_areRows 42 = .ok (.istore 7, 2) := by decide +kernel
theorem dL_areRows_44 : decode cL_areRows 44 = .ok (.iconst 0, 1) := by decide +kernel
theorem dL_areRows_45 : decode cL_areRows 45 = .ok (.istore 8, 2) := by decide +kernel
theorem dL_areRows_47 : decode cL_areRows 47 = .ok (.ldc 60, 2) := by decide +kernel
theorem dL_areRows_49 : decode cL_areRows 49 = .ok (.istore 9, 2) := by decide +kernel
theorem dL_areRows_51 : decode cL_areRows 51 = .ok (.iconst 0, 1) := by decide +kernel
theorem dL_areRows_52 : decode cL_areRows 52 = .ok (.istore 10, 2) := by decide +kernel
theorem dL_areRows_54 : decode cL_areRows 54 = .ok (.iconst 0, 1) := by decide +kernel
theorem dL_areRows_55 : decode cL_areRows 55 = .ok (.istore 11, 2) := by decide +kernel
theorem dL_areRows_57 : decode cL_areRows 57 = .ok (.iload 11, 2) := by decide +kernel
theorem dL_areRows_59 : decode cL_areRows 59 = .ok (.aload_n 1, 1) := by decide +kernel
theorem dL_areRows_60 : decode cL_areRows 60 = .ok (.iconst 0, 1) := by decide +kernel
theorem dL_areRows_61 : decode cL_areRows 61 = .ok (.iaload, 1) := by decide +kernel
theorem dL_areRows_62 : decode cL_areRows 62 = .ok (.if_icmp .ge 329, 3) := by decide +kernel
theorem dL_areRows_65 : decode cL_areRows 65 = .ok (.iload 7, 2) := by decide +kernel
theorem dL_areRows_67 : decode cL_areRows 67 = .ok (.ifCond .eq 324, 3) := by decide +kernel
theorem dL_areRows_70 : decode cL_areRows 70 = .ok (.aload_n 2, 1) := by decide +kernel
theorem dL_areRows_71 : decode cL_areRows 71 = .ok (.aload 5, 2) := by decide +kernel
theorem dL_areRows_73 : decode cL_areRows 73 = .ok (.iload 11, 2) := by decide +kernel
theorem dL_areRows_75 : decode cL_areRows 75 = .ok (.invokestatic 37, 3) := by decide +kernel
theorem dL_areRows_78 : decode cL_areRows 78 = .ok (.istore 12, 2) := by decide +kernel
theorem dL_areRows_80 : decode cL_areRows 80 = .ok (.iconst 0, 1) := by decide +kernel
theorem dL_areRows_81 : decode cL_areRows 81 = .ok (.istore 13, 2) := by decide +kernel
theorem dL_areRows_83 : decode cL_areRows 83 = .ok (.iconst 0, 1) := by decide +kernel
theorem dL_areRows_84 : decode cL_areRows 84 = .ok (.istore 14, 2) := by decide +kernel
theorem dL_areRows_86 : decode cL_areRows 86 = .ok (.iload 14, 2) := by decide +kernel
theorem dL_areRows_88 : decode cL_areRows 88 = .ok (.aload_n 1, 1) := by decide +kernel
theorem dL_areRows_89 : decode cL_areRows 89 = .ok (.iconst 2, 1) := by decide +kernel
theorem dL_areRows_90 : decode cL_areRows 90 = .ok (.iaload, 1) := by decide +kernel
theorem dL_areRows_91 : decode cL_areRows 91 = .ok (.if_icmp .ge 29, 3) := by decide +kernel
theorem dL_areRows_94 : decode cL_areRows 94 = .ok (.iload 13, 2) := by decide +kernel
theorem dL_areRows_96 : decode cL_areRows 96 = .ok (.aload 6, 2) := by decide +kernel
theorem dL_areRows_98 : decode cL_areRows 98 = .ok (.iconst 3, 1) := by decide +kernel
theorem dL_areRows_99 : decode cL_areRows 99 = .ok (.iload 14, 2) := by decide +kernel
theorem dL_areRows_101 : decode cL_areRows 101 = .ok (.imul, 1) := by decide +kernel
theorem dL_areRows_102 : decode cL_areRows 102 = .ok (.iaload, 1) := by decide +kernel
theorem dL_areRows_103 : decode cL_areRows 103 = .ok (.iload 11, 2) := by decide +kernel
theorem dL_areRows_105 : decode cL_areRows 105 = .ok (.ishr, 1) := by decide +kernel
theorem dL_areRows_106 : decode cL_areRows 106 = .ok (.iconst 1, 1) := by decide +kernel
theorem dL_areRows_107 : decode cL_areRows 107 = .ok (.iand, 1) := by decide +kernel
theorem dL_areRows_108 : decode cL_areRows 108 = .ok (.iload 14, 2) := by decide +kernel
theorem dL_areRows_110 : decode cL_areRows 110 = .ok (.ishl, 1) := by decide +kernel
theorem dL_areRows_111 : decode cL_areRows 111 = .ok (.ior, 1) := by decide +kernel
theorem dL_areRows_112 : decode cL_areRows 112 = .ok (.istore 13, 2) := by decide +kernel
theorem dL_areRows_114 : decode cL_areRows 114 = .ok (.iinc 14 1, 3) := by decide +kernel
theorem dL_areRows_117 : decode cL_areRows 117 = .ok (.goto (-31), 3) := by decide +kernel
theorem dL_areRows_120 : decode cL_areRows 120 = .ok (.iload 8, 2) := by decide +kernel
theorem dL_areRows_122 : decode cL_areRows 122 = .ok (.aload 4, 2) := by decide +kernel
theorem dL_areRows_124 : decode cL_areRows 124 = .ok (.iload 11, 2) := by decide +kernel
theorem dL_areRows_126 : decode cL_areRows 126 = .ok (.iaload, 1) := by decide +kernel
theorem dL_areRows_127 : decode cL_areRows 127 = .ok (.iload 11, 2) := by decide +kernel
theorem dL_areRows_129 : decode cL_areRows 129 = .ok (.ishl, 1) := by decide +kernel
theorem dL_areRows_130 : decode cL_areRows 130 = .ok (.ior, 1) := by decide +kernel
theorem dL_areRows_131 : decode cL_areRows 131 = .ok (.istore 8, 2) := by decide +kernel
theorem dL_areRows_133 : decode cL_areRows 133 = .ok (.iload 12, 2) := by decide +kernel
theorem dL_areRows_135 : decode cL_areRows 135 = .ok (.iload 10, 2) := by decide +kernel
theorem dL_areRows_137 : decode cL_areRows 137 = .ok (.if_icmp .le 8, 3) := by decide +kernel
theorem dL_areRows_140 : decode cL_areRows 140 = .ok (.iload 11, 2) := by decide +kernel
theorem dL_areRows_142 : decode cL_areRows 142 = .ok (.goto 5, 3) := by decide +kernel
theorem dL_areRows_145 : decode cL_areRows 145 = .ok (.iload 9, 2) := by decide +kernel
theorem dL_areRows_147 : decode cL_areRows 147 = .ok (.istore 9, 2) := by decide +kernel
theorem dL_areRows_149 : decode cL_areRows 149 = .ok (.iload 12, 2) := by decide +kernel
theorem dL_areRows_151 : decode cL_areRows 151 = .ok (.iload 10, 2) := by decide +kernel
theorem dL_areRows_153 : decode cL_areRows 153 = .ok (.if_icmp .le 8, 3) := by decide +kernel
theorem dL_areRows_156 : decode cL_areRows 156 = .ok (.iload 12, 2) := by decide +kernel
theorem dL_areRows_158 : decode cL_areRows 158 = .ok (.goto 5, 3) := by decide +kernel
theorem dL_areRows_161 : decode cL_areRows 161 = .ok (.iload 10, 2) := by decide +kernel
theorem dL_areRows_163 : decode cL_areRows 163 = .ok (.istore 10, 2) := by decide +kernel
theorem dL_areRows_165 : decode cL_areRows 165 = .ok (.aload_n 0, 1) := by decide +kernel
theorem dL_areRows_166 : decode cL_areRows 166 = .ok (.iload 11, 2) := by decide +kernel
theorem dL_areRows_168 : decode cL_areRows 168 = .ok (.iconst 0, 1) := by decide +kernel
theorem dL_areRows_169 : decode cL_areRows 169 = .ok (.invokevirtual 117, 3) := by decide +kernel
theorem dL_areRows_172 : decode cL_areRows 172 = .ok (.aload_n 2, 1) := by decide +kernel
theorem dL_areRows_173 : decode cL_areRows 173 = .ok (.iload 11, 2) := by decide +kernel
theorem dL_areRows_175 : decode cL_areRows 175 = .ok (.iaload, 1) := by decide +kernel
theorem dL_areRows_176 : decode cL_areRows 176 = .ok (.if_icmp .ne 144, 3) := by decide +kernel
theorem dL_areRows_179 : decode cL_areRows 179 = .ok (.aload_n 0, 1) := by decide +kernel
theorem dL_areRows_180 : decode cL_areRows 180 = .ok (.iload 11, 2) := by decide +kernel
theorem dL_areRows_182 : decode cL_areRows 182 = .ok (.iconst 1, 1) := by decide +kernel
theorem dL_areRows_183 : decode cL_areRows 183 = .ok (.invokevirtual 117, 3) := by decide +kernel
theorem dL_areRows_186 : decode cL_areRows 186 = .ok (.iload 12, 2) := by decide +kernel
theorem dL_areRows_188 : decode cL_areRows 188 = .ok (.if_icmp .ne 132, 3) := by decide +kernel
theorem dL_areRows_191 : decode cL_areRows 191 = .ok (.aload_n 0, 1) := by decide +kernel
theorem dL_areRows_192 : decode cL_areRows 192 = .ok (.iload 11, 2) := by decide +kernel
theorem dL_areRows_194 : decode cL_areRows 194 = .ok (.iconst 2, 1) := by decide +kernel
theorem dL_areRows_195 : decode cL_areRows 195 = .ok (.invokevirtual 117, 3) := by decide +kernel
theorem dL_areRows_198 : decode cL_areRows 198 = .ok (.aload_n 1, 1) := by decide +kernel
theorem dL_areRows_199 : decode cL_areRows 199 = .ok (.iload 12, 2) := by decide +kernel
theorem dL_areRows_201 : decode cL_areRows 201 = .ok (.invokestatic 40, 3) := by decide +kernel
theorem dL_areRows_204 : decode cL_areRows 204 = .ok (.if_icmp .ne 116, 3) := by decide +kernel
theorem dL_areRows_207 : decode cL_areRows 207 = .ok (.aload_n 0, 1) := by decide +kernel
theorem dL_areRows_208 : decode cL_areRows 208 = .ok (.iload 11, 2) := by decide +kernel
theorem dL_areRows_210 : decode cL_areRows 210 = .ok (.iconst 3, 1) := by decide +kernel
theorem dL_areRows_211 : decode cL_areRows 211 = .ok (.invokevirtual 117, 3) := by decide +kernel
theorem dL_areRows_214 : decode cL_areRows 214 = .ok (.aload_n 2, 1) := by decide +kernel
theorem dL_areRows_215 : decode cL_areRows 215 = .ok (.aload 5, 2) := by decide +kernel
theorem dL_areRows_217 : decode cL_areRows 217 = .ok (.iload 11, 2) := by decide +kernel
theorem dL_areRows_219 : decode cL_areRows 219 = .ok (.invokestatic 33, 3) := by decide +kernel
theorem dL_areRows_222 : decode cL_areRows 222 = .ok (.if_icmp .ne 98, 3) := by decide +kernel
theorem dL_areRows_225 : decode cL_areRows 225 = .ok (.aload_n 0, 1) := by decide +kernel
theorem dL_areRows_226 : decode cL_areRows 226 = .ok (.iload 11, 2) := by decide +kernel
theorem dL_areRows_228 : decode cL_areRows 228 = .ok (.iconst 4, 1) := by decide +kernel
theorem dL_areRows_229 : decode cL_areRows 229 = .ok (.invokevirtual 117, 3) := by decide +kernel
theorem dL_areRows_232 : decode cL_areRows 232 = .ok (.aload_n 3, 1) := by decide +kernel
theorem dL_areRows_233 : decode cL_areRows 233 = .ok (.iload 11, 2) := by decide +kernel
theorem dL_areRows_235 : decode cL_areRows 235 = .ok (.iaload, 1) := by decide +kernel
theorem dL_areRows_236 : decode cL_areRows 236 = .ok (.if_icmp .ne 84, 3) := by decide +kernel
theorem dL_areRows_239 : decode cL_areRows 239 = .ok (.aload_n 0, 1) := by decide +kernel
theorem dL_areRows_240 : decode cL_areRows 240 = .ok (.iload 11, 2) := by decide +kernel
theorem dL_areRows_242 : decode cL_areRows 242 = .ok (.iconst 5, 1) := by decide +kernel
theorem dL_areRows_243 : decode cL_areRows 243 = .ok (.invokevirtual 117, 3) := by decide +kernel
theorem dL_areRows_246 : decode cL_areRows 246 = .ok (.aload 4, 2) := by decide +kernel
theorem dL_areRows_248 : decode cL_areRows 248 = .ok (.iload 11, 2) := by decide +kernel
theorem dL_areRows_250 : decode cL_areRows 250 = .ok (.iaload, 1) := by decide +kernel
theorem dL_areRows_251 : decode cL_areRows 251 = .ok (.if_icmp .ne 69, 3) := by decide +kernel
theorem dL_areRows_254 : decode cL_areRows 254 = .ok (.aload_n 0, 1) := by decide +kernel
theorem dL_areRows_255 : decode cL_areRows 255 = .ok (.iload 11, 2) := by decide +kernel
theorem dL_areRows_257 : decode cL_areRows 257 = .ok (.bipush 6, 2) := by decide +kernel
theorem dL_areRows_259 : decode cL_areRows 259 = .ok (.invokevirtual 117, 3) := by decide +kernel
theorem dL_areRows_262 : decode cL_areRows 262 = .ok (.iload 13, 2) := by decide +kernel
theorem dL_areRows_264 : decode cL_areRows 264 = .ok (.if_icmp .ne 56, 3) := by decide +kernel
theorem dL_areRows_267 : decode cL_areRows 267 = .ok (.aload_n 0, 1) := by decide +kernel
theorem dL_areRows_268 : decode cL_areRows 268 = .ok (.iload 11, 2) := by decide +kernel
theorem dL_areRows_270 : decode cL_areRows 270 = .ok (.bipush 7, 2) := by decide +kernel
theorem dL_areRows_272 : decode cL_areRows 272 = .ok (.invokevirtual 117, 3) := by decide +kernel
theorem dL_areRows_275 : decode cL_areRows 275 = .ok (.aload_n 1, 1) := by decide +kernel
theorem dL_areRows_276 : decode cL_areRows 276 = .ok (.iconst 1, 1) := by decide +kernel
theorem dL_areRows_277 : decode cL_areRows 277 = .ok (.iaload, 1) := by decide +kernel
theorem dL_areRows_278 : decode cL_areRows 278 = .ok (.iload 11, 2) := by decide +kernel
theorem dL_areRows_280 : decode cL_areRows 280 = .ok (.if_icmp .ne 7, 3) := by decide +kernel
theorem dL_areRows_283 : decode cL_areRows 283 = .ok (.iconst 1, 1) := by decide +kernel
theorem dL_areRows_284 : decode cL_areRows 284 = .ok (.goto 4, 3) := by decide +kernel
theorem dL_areRows_287 : decode cL_areRows 287 = .ok (.iconst 0, 1) := by decide +kernel
theorem dL_areRows_288 : decode cL_areRows 288 = .ok (.if_icmp .ne 32, 3) := by decide +kernel
theorem dL_areRows_291 : decode cL_areRows 291 = .ok (.aload_n 0, 1) := by decide +kernel
theorem dL_areRows_292 : decode cL_areRows 292 = .ok (.iload 11, 2) := by decide +kernel
theorem dL_areRows_294 : decode cL_areRows 294 = .ok (.bipush 8, 2) := by decide +kernel
theorem dL_areRows_296 : decode cL_areRows 296 = .ok (.invokevirtual 117, 3) := by decide +kernel
theorem dL_areRows_299 : decode cL_areRows 299 = .ok (.ldc 71, 2) := by decide +kernel
theorem dL_areRows_301 : decode cL_areRows 301 = .ok (.if_icmp .ne 19, 3) := by decide +kernel
theorem dL_areRows_304 : decode cL_areRows 304 = .ok (.aload_n 0, 1) := by decide +kernel
theorem dL_areRows_305 : decode cL_areRows 305 = .ok (.iload 11, 2) := by decide +kernel
theorem dL_areRows_307 : decode cL_areRows 307 = .ok (.iconst (-1), 1) := by decide +kernel
theorem dL_areRows_308 : decode cL_areRows 308 = .ok (.invokevirtual 120, 3) := by decide +kernel
theorem dL_areRows_311 : decode cL_areRows 311 = .ok (.ldc 71, 2) := by decide +kernel
theorem dL_areRows_313 : decode cL_areRows 313 = .ok (.if_icmp .ne 7, 3) := by decide +kernel
theorem dL_areRows_316 : decode cL_areRows 316 = .ok (.iconst 1, 1) := by decide +kernel
theorem dL_areRows_317 : decode cL_areRows 317 = .ok (.goto 4, 3) := by decide +kernel
theorem dL_areRows_320 : decode cL_areRows 320 = .ok (.iconst 0, 1) := by decide +kernel
theorem dL_areRows_321 : decode cL_areRows 321 = .ok (.istore 7, 2) := by decide +kernel
theorem dL_areRows_323 : decode cL_areRows 323 = .ok (.iconst 0, 1) := by decide +kernel
theorem dL_areRows_324 : decode cL_areRows 324 = .ok (.istore 14, 2) := by decide +kernel
theorem dL_areRows_326 : decode cL_areRows 326 = .ok (.iload 14, 2) := by decide +kernel
theorem dL_areRows_328 : decode cL_areRows 328 = .ok (.bipush 15, 2) := by decide +kernel
theorem dL_areRows_330 : decode cL_areRows 330 = .ok (.if_icmp .ge 55, 3) := by decide +kernel
theorem dL_areRows_333 : decode cL_areRows 333 = .ok (.iload 7, 2) := by decide +kernel
theorem dL_areRows_335 : decode cL_areRows 335 = .ok (.ifCond .eq 50, 3) := by decide +kernel
theorem dL_areRows_338 : decode cL_areRows 338 = .ok (.aload_n 0, 1) := by decide +kernel
theorem dL_areRows_339 : decode cL_areRows 339 = .ok (.iload 11, 2) := by decide +kernel
theorem dL_areRows_341 : decode cL_areRows 341 = .ok (.iload 14, 2) := by decide +kernel
theorem dL_areRows_343 : decode cL_areRows 343 = .ok (.invokevirtual 120, 3) := by decide +kernel
theorem dL_areRows_346 : decode cL_areRows 346 = .ok (.iload 14, 2) := by decide +kernel
theorem dL_areRows_348 : decode cL_areRows 348 = .ok (.aload_n 2, 1) := by decide +kernel
theorem dL_areRows_349 : decode cL_areRows 349 = .ok (.iload 11, 2) := by decide +kernel
theorem dL_areRows_351 : decode cL_areRows 351 = .ok (.iaload, 1) := by decide +kernel
theorem dL_areRows_352 : decode cL_areRows 352 = .ok (.if_icmp .ge 15, 3) := by decide +kernel
theorem dL_areRows_355 : decode cL_areRows 355 = .ok (.aload 5, 2) := by decide +kernel
theorem dL_areRows_357 : decode cL_areRows 357 = .ok (.iload 11, 2) := by decide +kernel
theorem dL_areRows_359 : decode cL_areRows 359 = .ok (.iload 14, 2) := by decide +kernel
theorem dL_areRows_361 : decode cL_areRows 361 = .ok (.invokestatic 11, 3) := by decide +kernel
theorem dL_areRows_364 : decode cL_areRows 364 = .ok (.goto 5, 3) := by decide +kernel
theorem dL_areRows_367 : decode cL_areRows 367 = .ok (.ldc 60, 2) := by decide +kernel
theorem dL_areRows_369 : decode cL_areRows 369 = .ok (.if_icmp .ne 7, 3) := by decide +kernel
