theorem d_makeCode_0 : decode c_M_makeCode 0 = .ok (.iconst 0, 1) := by decide +kernel
theorem d_makeCode_1 : decode c_M_makeCode 1 = .ok (.istore_n 2, 1) := by decide +kernel
theorem d_makeCode_2 : decode c_M_makeCode 2 = .ok (.iconst 0, 1) := by decide +kernel
theorem d_makeCode_3 : decode c_M_makeCode 3 = .ok (.istore_n 3, 1) := by decide +kernel
theorem d_makeCode_4 : decode c_M_makeCode 4 = .ok (.iload_n 3, 1) := by decide +kernel
theorem d_makeCode_5 : decode c_M_makeCode 5 = .ok (.sipush 256, 3) := by decide +kernel
theorem d_makeCode_8 : decode c_M_makeCode 8 = .ok (.if_icmp .gt 149, 3) := by decide +kernel
theorem d_makeCode_11 : decode c_M_makeCode 11 = .ok (.aload_n 0, 1) := by decide +kernel
theorem d_makeCode_12 : decode c_M_makeCode 12 = .ok (.getfield 88, 3) := by decide +kernel
theorem d_makeCode_15 : decode c_M_makeCode 15 = .ok (.sipush 257, 3) := by decide +kernel
theorem d_makeCode_18 : decode c_M_makeCode 18 = .ok (.iload_n 1, 1) := by decide +kernel
theorem d_makeCode_19 : decode c_M_makeCode 19 = .ok (.imul, 1) := by decide +kernel
theorem d_makeCode_20 : decode c_M_makeCode 20 = .ok (.iload_n 3, 1) := by decide +kernel
theorem d_makeCode_21 : decode c_M_makeCode 21 = .ok (.iadd, 1) := by decide +kernel
theorem d_makeCode_22 : decode c_M_makeCode 22 = .ok (.iconst 0, 1) := by decide +kernel
theorem d_makeCode_23 : decode c_M_makeCode 23 = .ok (.iastore, 1) := by decide +kernel
theorem d_makeCode_24 : decode c_M_makeCode 24 = .ok (.iload_n 3, 1) := by decide +kernel
theorem d_makeCode_25 : decode c_M_makeCode 25 = .ok (.sipush 256, 3) := by decide +kernel
theorem d_makeCode_28 : decode c_M_makeCode 28 = .ok (.if_icmp .eq 18, 3) := by decide +kernel
theorem d_makeCode_31 : decode c_M_makeCode 31 = .ok (.aload_n 0, 1) := by decide +kernel
theorem d_makeCode_32 : decode c_M_makeCode 32 = .ok (.getfield 85, 3) := by decide +kernel
theorem d_makeCode_35 : decode c_M_makeCode 35 = .ok (.sipush 257, 3) := by decide +kernel
theorem d_makeCode_38 : decode c_M_makeCode 38 = .ok (.iload_n 1, 1) := by decide +kernel
theorem d_makeCode_39 : decode c_M_makeCode 39 = .ok (.imul, 1) := by decide +kernel
theorem d_makeCode_40 : decode c_M_makeCode 40 = .ok (.iload_n 3, 1) := by decide +kernel
theorem d_makeCode_41 : decode c_M_makeCode 41 = .ok (.iadd, 1) := by decide +kernel
theorem d_makeCode_42 : decode c_M_makeCode 42 = .ok (.iaload, 1) := by decide +kernel
theorem d_makeCode_43 : decode c_M_makeCode 43 = .ok (.ifCond .le 108, 3) := by decide +kernel
theorem d_makeCode_46 : decode c_M_makeCode 46 = .ok (.iload_n 2, 1) := by decide +kernel
theorem d_makeCode_47 : decode c_M_makeCode 47 = .ok (.istore 4, 2) := by decide +kernel
theorem d_makeCode_49 : decode c_M_makeCode 49 = .ok (.iload_n 3, 1) := by decide +kernel
theorem d_makeCode_50 : decode c_M_makeCode 50 = .ok (.sipush 256, 3) := by decide +kernel
theorem d_makeCode_53 : decode c_M_makeCode 53 = .ok (.if_icmp .ne 7, 3) := by decide +kernel
theorem d_makeCode_56 : decode c_M_makeCode 56 = .ok (.iconst 0, 1) := by decide +kernel
theorem d_makeCode_57 : decode c_M_makeCode 57 = .ok (.goto 15, 3) := by decide +kernel
theorem d_makeCode_60 : decode c_M_makeCode 60 = .ok (.aload_n 0, 1) := by decide +kernel
theorem d_makeCode_61 : decode c_M_makeCode 61 = .ok (.getfield 85, 3) := by decide +kernel
theorem d_makeCode_64 : decode c_M_makeCode 64 = .ok (.sipush 257, 3) := by decide +kernel
theorem d_makeCode_67 : decode c_M_makeCode 67 = .ok (.iload_n 1, 1) := by decide +kernel
theorem d_makeCode_68 : decode c_M_makeCode 68 = .ok (.imul, 1) := by decide +kernel
theorem d_makeCode_69 : decode c_M_makeCode 69 = .ok (.iload_n 3, 1) := by decide +kernel
theorem d_makeCode_70 : decode c_M_makeCode 70 = .ok (.iadd, 1) := by decide +kernel
theorem d_makeCode_71 : decode c_M_makeCode 71 = .ok (.iaload, 1) := by decide +kernel
theorem d_makeCode_72 : decode c_M_makeCode 72 = .ok (.istore 5, 2) := by decide +kernel
theorem d_makeCode_74 : decode c_M_makeCode 74 = .ok (.iload 4, 2) := by decide +kernel
theorem d_makeCode_76 : decode c_M_makeCode 76 = .ok (.ifCond .le 55, 3) := by decide +kernel
theorem d_makeCode_79 : decode c_M_makeCode 79 = .ok (.aload_n 0, 1) := by decide +kernel
theorem d_makeCode_80 : decode c_M_makeCode 80 = .ok (.getfield 94, 3) := by decide +kernel
theorem d_makeCode_83 : decode c_M_makeCode 83 = .ok (.iload 4, 2) := by decide +kernel
theorem d_makeCode_85 : decode c_M_makeCode 85 = .ok (.iconst 1, 1) := by decide +kernel
theorem d_makeCode_86 : decode c_M_makeCode 86 = .ok (.isub, 1) := by decide +kernel
theorem d_makeCode_87 : decode c_M_makeCode 87 = .ok (.iaload, 1) := by decide +kernel
theorem d_makeCode_88 : decode c_M_makeCode 88 = .ok (.iload 5, 2) := by decide +kernel
theorem d_makeCode_90 : decode c_M_makeCode 90 = .ok (.if_icmp .le 41, 3) := by decide +kernel
theorem d_makeCode_93 : decode c_M_makeCode 93 = .ok (.aload_n 0, 1) := by decide +kernel
theorem d_makeCode_94 : decode c_M_makeCode 94 = .ok (.getfield 94, 3) := by decide +kernel
theorem d_makeCode_97 : decode c_M_makeCode 97 = .ok (.iload 4, 2) := by decide +kernel
theorem d_makeCode_99 : decode c_M_makeCode 99 = .ok (.aload_n 0, 1) := by decide +kernel
theorem d_makeCode_100 : decode c_M_makeCode 100 = .ok (.getfield 94, 3) := by decide +kernel
theorem d_makeCode_103 : decode c_M_makeCode 103 = .ok (.iload 4, 2) := by decide +kernel
theorem d_makeCode_105 : decode c_M_makeCode 105 = .ok (.iconst 1, 1) := by decide +kernel
theorem d_makeCode_106 : decode c_M_makeCode 106 = .ok (.isub, 1) := by decide +kernel
theorem d_makeCode_107 : decode c_M_makeCode 107 = .ok (.iaload, 1) := by decide +kernel
theorem d_makeCode_108 : decode c_M_makeCode 108 = .ok (.iastore, 1) := by decide +kernel
theorem d_makeCode_109 : decode c_M_makeCode 109 = .ok (.aload_n 0, 1) := by decide +kernel
theorem d_makeCode_110 : decode c_M_makeCode 110 = .ok (.getfield 97, 3) := by decide +kernel
theorem d_makeCode_113 : decode c_M_makeCode 113 = .ok (.iload 4, 2) := by decide +kernel
theorem d_makeCode_115 : decode c_M_makeCode 115 = .ok (.aload_n 0, 1) := by decide +kernel
theorem d_makeCode_116 : decode c_M_makeCode 116 = .ok (.getfield 97, 3) := by decide +kernel
theorem d_makeCode_119 : decode c_M_makeCode 119 = .ok (.iload 4, 2) := by decide +kernel
theorem d_makeCode_121 : decode c_M_makeCode 121 = .ok (.iconst 1, 1) := by decide +kernel
theorem d_makeCode_122 : decode c_M_makeCode 122 = .ok (.isub, 1) := by decide +kernel
theorem d_makeCode_123 : decode c_M_makeCode 123 = .ok (.iaload, 1) := by decide +kernel
theorem d_makeCode_124 : decode c_M_makeCode 124 = .ok (.iastore, 1) := by decide +kernel
theorem d_makeCode_125 : decode c_M_makeCode 125 = .ok (.iinc 4 (-1), 3) := by decide +kernel
theorem d_makeCode_128 : decode c_M_makeCode 128 = .ok (.goto (-54), 3) := by decide +kernel
theorem d_makeCode_131 : decode c_M_makeCode 131 = .ok (.aload_n 0, 1) := by decide +kernel
theorem d_makeCode_132 : decode c_M_makeCode 132 = .ok (.getfield 94, 3) := by decide +kernel
theorem d_makeCode_135 : decode c_M_makeCode 135 = .ok (.iload 4, 2) := by decide +kernel
theorem d_makeCode_137 : decode c_M_makeCode 137 = .ok (.iload 5, 2) := by decide +kernel
theorem d_makeCode_139 : decode c_M_makeCode 139 = .ok (.iastore, 1) := by decide +kernel
theorem d_makeCode_140 : decode c_M_makeCode 140 = .ok (.aload_n 0, 1) := by decide +kernel
theorem d_makeCode_141 : decode c_M_makeCode 141 = .ok (.getfield 97, 3) := by decide +kernel
theorem d_makeCode_144 : decode c_M_makeCode 144 = .ok (.iload 4, 2) := by decide +kernel
theorem d_makeCode_146 : decode c_M_makeCode 146 = .ok (.iload_n 3, 1) := by decide +kernel
theorem d_makeCode_147 : decode c_M_makeCode 147 = .ok (.iastore, 1) := by decide +kernel
theorem d_makeCode_148 : decode c_M_makeCode 148 = .ok (.iinc 2 1, 3) := by decide +kernel
theorem d_makeCode_151 : decode c_M_makeCode 151 = .ok (.iinc 3 1, 3) := by decide +kernel
theorem d_makeCode_154 : decode c_M_makeCode 154 = .ok (.goto (-150), 3) := by decide +kernel
theorem d_makeCode_157 : decode c_M_makeCode 157 = .ok (.iload_n 2, 1) := by decide +kernel
theorem d_makeCode_158 : decode c_M_makeCode 158 = .ok (.istore_n 3, 1) := by decide +kernel
theorem d_makeCode_159 : decode c_M_makeCode 159 = .ok (.iconst 1, 1) := by decide +kernel
theorem d_makeCode_160 : decode c_M_makeCode 160 = .ok (.istore 4, 2) := by decide +kernel
theorem d_makeCode_162 : decode c_M_makeCode 162 = .ok (.iload 4, 2) := by decide +kernel
theorem d_makeCode_164 : decode c_M_makeCode 164 = .ok (.bipush 16, 2) := by decide +kernel
theorem d_makeCode_166 : decode c_M_makeCode 166 = .ok (.if_icmp .ge 225, 3) := by decide +kernel
theorem d_makeCode_169 : decode c_M_makeCode 169 = .ok (.iload_n 3, 1) := by decide +kernel
theorem d_makeCode_170 : decode c_M_makeCode 170 = .ok (.iconst 2, 1) := by decide +kernel
theorem d_makeCode_171 : decode c_M_makeCode 171 = .ok (.idiv, 1) := by decide +kernel
theorem d_makeCode_172 : decode c_M_makeCode 172 = .ok (.istore 5, 2) := by decide +kernel
theorem d_makeCode_174 : decode c_M_makeCode 174 = .ok (.iconst 0, 1) := by decide +kernel
theorem d_makeCode_175 : decode c_M_makeCode 175 = .ok (.istore 6, 2) := by decide +kernel
theorem d_makeCode_177 : decode c_M_makeCode 177 = .ok (.iconst 0, 1) := by decide +kernel
theorem d_makeCode_178 : decode c_M_makeCode 178 = .ok (.istore 7, 2) := by decide +kernel
theorem d_makeCode_180 : decode c_M_makeCode 180 = .ok (.sipush 520, 3) := by decide +kernel
theorem d_makeCode_183 : decode c_M_makeCode 183 = .ok (.iload 4, 2) := by decide +kernel
theorem d_makeCode_185 : decode c_M_makeCode 185 = .ok (.iconst 1, 1) := by decide +kernel
theorem d_makeCode_186 : decode c_M_makeCode 186 = .ok (.isub, 1) := by decide +kernel
theorem d_makeCode_187 : decode c_M_makeCode 187 = .ok (.imul, 1) := by decide +kernel
theorem d_makeCode_188 : decode c_M_makeCode 188 = .ok (.istore 8, 2) := by decide +kernel
theorem d_makeCode_190 : decode c_M_makeCode 190 = .ok (.iload 6, 2) := by decide +kernel
theorem d_makeCode_192 : decode c_M_makeCode 192 = .ok (.iload_n 2, 1) := by decide +kernel
theorem d_makeCode_193 : decode c_M_makeCode 193 = .ok (.if_icmp .lt 10, 3) := by decide +kernel
theorem d_makeCode_196 : decode c_M_makeCode 196 = .ok (.iload 7, 2) := by decide +kernel
theorem d_makeCode_198 : decode c_M_makeCode 198 = .ok (.iload 5, 2) := by decide +kernel
theorem d_makeCode_200 : decode c_M_makeCode 200 = .ok (.if_icmp .ge 180, 3) := by decide +kernel
theorem d_makeCode_203 : decode c_M_makeCode 203 = .ok (.iload 7, 2) := by decide +kernel
theorem d_makeCode_205 : decode c_M_makeCode 205 = .ok (.iload 5, 2) := by decide +kernel
theorem d_makeCode_207 : decode c_M_makeCode 207 = .ok (.if_icmp .ge 33, 3) := by decide +kernel
theorem d_makeCode_210 : decode c_M_makeCode 210 = .ok (.aload_n 0, 1) := by decide +kernel
theorem d_makeCode_211 : decode c_M_makeCode 211 = .ok (.getfield 94, 3) := by decide +kernel
theorem d_makeCode_214 : decode c_M_makeCode 214 = .ok (.iload 8, 2) := by decide +kernel
theorem d_makeCode_216 : decode c_M_makeCode 216 = .ok (.iconst 2, 1) := by decide +kernel
theorem d_makeCode_217 : decode c_M_makeCode 217 = .ok (.iload 7, 2) := by decide +kernel
theorem d_makeCode_219 : decode c_M_makeCode 219 = .ok (.imul, 1) := by decide +kernel
theorem d_makeCode_220 : decode c_M_makeCode 220 = .ok (.iadd, 1) := by decide +kernel
theorem d_makeCode_221 : decode c_M_makeCode 221 = .ok (.iaload, 1) := by decide +kernel
theorem d_makeCode_222 : decode c_M_makeCode 222 = .ok (.aload_n 0, 1) := by decide +kernel
theorem d_makeCode_223 : decode c_M_makeCode 223 = .ok (.getfield 94, 3) := by decide +kernel
theorem d_makeCode_226 : decode c_M_makeCode 226 = .ok (.iload 8, 2) := by decide +kernel
theorem d_makeCode_228 : decode c_M_makeCode 228 = .ok (.iconst 2, 1) := by decide +kernel
theorem d_makeCode_229 : decode c_M_makeCode 229 = .ok (.iload 7, 2) := by decide +kernel
theorem d_makeCode_231 : decode c_M_makeCode 231 = .ok (.imul, 1) := by decide +kernel
theorem d_makeCode_232 : decode c_M_makeCode 232 = .ok (.iadd, 1) := by decide +kernel
theorem d_makeCode_233 : decode c_M_makeCode 233 = .ok (.iconst 1, 1) := by decide +kernel
theorem d_makeCode_234 : decode c_M_makeCode 234 = .ok (.iadd, 1) := by decide +kernel
theorem d_makeCode_235 : decode c_M_makeCode 235 = .ok (.iaload, 1) := by decide +kernel
theorem d_makeCode_236 : decode c_M_makeCode 236 = .ok (.iadd, 1) := by decide +kernel
theorem d_makeCode_237 : decode c_M_makeCode 237 = .ok (.goto 4, 3) := by decide +kernel
theorem d_makeCode_240 : decode c_M_makeCode 240 = .ok (.iconst 0, 1) := by decide +kernel
theorem d_makeCode_241 : decode c_M_makeCode 241 = .ok (.istore 9, 2) := by decide +kernel
theorem d_makeCode_243 : decode c_M_makeCode 243 = .ok (.iload 7, 2) := by decide +kernel
theorem d_makeCode_245 : decode c_M_makeCode 245 = .ok (.iload 5, 2) := by decide +kernel
theorem d_makeCode_247 : decode c_M_makeCode 247 = .ok (.if_icmp .eq 21, 3) := by decide +kernel
theorem d_makeCode_250 : decode c_M_makeCode 250 = .ok (.iload 6, 2) := by decide +kernel
theorem d_makeCode_252 : decode c_M_makeCode 252 = .ok (.iload_n 2, 1) := by decide +kernel
theorem d_makeCode_253 : decode c_M_makeCode 253 = .ok (.if_icmp .ge 19, 3) := by decide +kernel
theorem d_makeCode_256 : decode c_M_makeCode 256 = .ok (.aload_n 0, 1) := by decide +kernel
theorem d_makeCode_257 : decode c_M_makeCode 257 = .ok (.getfield 94, 3) := by decide +kernel
theorem d_makeCode_260 : decode c_M_makeCode 260 = .ok (.iload 6, 2) := by decide +kernel
theorem d_makeCode_262 : decode c_M_makeCode 262 = .ok (.iaload, 1) := by decide +kernel
theorem d_makeCode_263 : decode c_M_makeCode 263 = .ok (.iload 9, 2) := by decide +kernel
theorem d_makeCode_265 : decode c_M_makeCode 265 = .ok (.if_icmp .gt 7, 3) := by decide +kernel
theorem d_makeCode_268 : decode c_M_makeCode 268 = .ok (.iconst 1, 1) := by decide +kernel
theorem d_makeCode_269 : decode c_M_makeCode 269 = .ok (.goto 4, 3) := by decide +kernel
theorem d_makeCode_272 : decode c_M_makeCode 272 = .ok (.iconst 0, 1) := by decide +kernel
theorem d_makeCode_273 : decode c_M_makeCode 273 = .ok (.istore 10, 2) := by decide +kernel
theorem d_makeCode_275 : decode c_M_makeCode 275 = .ok (.aload_n 0, 1) := by decide +kernel
theorem d_makeCode_276 : decode c_M_makeCode 276 = .ok (.getfield 94, 3) := by decide +kernel
theorem d_makeCode_279 : decode c_M_makeCode 279 = .ok (.sipush 520, 3) := by decide +kernel
theorem d_makeCode_282 : decode c_M_makeCode 282 = .ok (.iload 4, 2) := by decide +kernel
theorem d_makeCode_284 : decode c_M_makeCode 284 = .ok (.imul, 1) := by decide +kernel
theorem d_makeCode_285 : decode c_M_makeCode 285 = .ok (.iload 6, 2) := by decide +kernel
theorem d_makeCode_287 : decode c_M_makeCode 287 = .ok (.iadd, 1) := by decide +kernel
theorem d_makeCode_288 : decode c_M_makeCode 288 = .ok (.iload 7, 2) := by decide +kernel
theorem d_makeCode_290 : decode c_M_makeCode 290 = .ok (.iadd, 1) := by decide +kernel
theorem d_makeCode_291 : decode c_M_makeCode 291 = .ok (.iload 10, 2) := by decide +kernel
theorem d_makeCode_293 : decode c_M_makeCode 293 = .ok (.ifCond .eq 13, 3) := by decide +kernel
theorem d_makeCode_296 : decode c_M_makeCode 296 = .ok (.aload_n 0, 1) := by decide +kernel
theorem d_makeCode_297 : decode c_M_makeCode 297 = .ok (.getfield 94, 3) := by decide +kernel
theorem d_makeCode_300 : decode c_M_makeCode 300 = .ok (.iload 6, 2) := by decide +kernel
theorem d_makeCode_302 : decode c_M_makeCode 302 = .ok (.iaload, 1) := by decide +kernel
theorem d_makeCode_303 : decode c_M_makeCode 303 = .ok (.goto 5, 3) := by decide +kernel
theorem d_makeCode_306 : decode c_M_makeCode 306 = .ok (.iload 9, 2) := by decide +kernel
theorem d_makeCode_308 : decode c_M_makeCode 308 = .ok (.iastore, 1) := by decide +kernel
theorem d_makeCode_309 : decode c_M_makeCode 309 = .ok (.aload_n 0, 1) := by decide +kernel
theorem d_makeCode_310 : decode c_M_makeCode 310 = .ok (.getfield 97, 3) := by decide +kernel
theorem d_makeCode_313 : decode c_M_makeCode 313 = .ok (.sipush 520, 3) := by decide +kernel
theorem d_makeCode_316 : decode c_M_makeCode 316 = .ok (.iload 4, 2) := by decide +kernel
theorem d_makeCode_318 : decode c_M_makeCode 318 = .ok (.imul, 1) := by decide +kernel
theorem d_makeCode_319 : decode c_M_makeCode 319 = .ok (.iload 6, 2) := by decide +kernel
theorem d_makeCode_321 : decode c_M_makeCode 321 = .ok (.iadd, 1) := by decide +kernel
theorem d_makeCode_322 : decode c_M_makeCode 322 = .ok (.iload 7, 2) := by decide +kernel
theorem d_makeCode_324 : decode c_M_makeCode 324 = .ok (.iadd, 1) := by decide +kernel
theorem d_makeCode_325 : decode c_M_makeCode 325 = .ok (.iload 10, 2) := by decide +kernel
theorem d_makeCode_327 : decode c_M_makeCode 327 = .ok (.ifCond .eq 13, 3) := by decide +kernel
theorem d_makeCode_330 : decode c_M_makeCode 330 = .ok (.aload_n 0, 1) := by decide +kernel
theorem d_makeCode_331 : decode c_M_makeCode 331 = .ok (.getfield 97, 3) := by decide +kernel
theorem d_makeCode_334 : decode c_M_makeCode 334 = .ok (.iload 6, 2) := by decide +kernel
theorem d_makeCode_336 : decode c_M_makeCode 336 = .ok (.iaload, 1) := by decide +kernel
theorem d_makeCode_337 : decode c_M_makeCode 337 = .ok (.goto 7, 3) := by decide +kernel
theorem d_makeCode_340 : decode c_M_makeCode 340 = .ok (.iconst (-1), 1) := by decide +kernel
theorem d_makeCode_341 : decode c_M_makeCode 341 = .ok (.iload 7, 2) := by decide +kernel
theorem d_makeCode_343 : decode c_M_makeCode 343 = .ok (.isub, 1) := by decide +kernel
theorem d_makeCode_344 : decode c_M_makeCode 344 = .ok (.iastore, 1) := by decide +kernel
theorem d_makeCode_345 : decode c_M_makeCode 345 = .ok (.iload 10, 2) := by decide +kernel
theorem d_makeCode_347 : decode c_M_makeCode 347 = .ok (.ifCond .eq 10, 3) := by decide +kernel
theorem d_makeCode_350 : decode c_M_makeCode 350 = .ok (.iload 6, 2) := by decide +kernel
theorem d_makeCode_352 : decode c_M_makeCode 352 = .ok (.iconst 1, 1) := by decide +kernel
theorem d_makeCode_353 : decode c_M_makeCode 353 = .ok (.iadd, 1) := by decide +kernel
theorem d_makeCode_354 : decode c_M_makeCode 354 = .ok (.goto 5, 3) := by decide +kernel
theorem d_makeCode_357 : decode c_M_makeCode 357 = .ok (.iload 6, 2) := by decide +kernel
theorem d_makeCode_359 : decode c_M_makeCode 359 = .ok (.istore 6, 2) := by decide +kernel
theorem d_makeCode_361 : decode c_M_makeCode 361 = .ok (.iload 10, 2) := by decide +kernel
theorem d_makeCode_363 : decode c_M_makeCode 363 = .ok (.ifCond .eq 8, 3) := by decide +kernel
theorem d_makeCode_366 : decode c_M_makeCode 366 = .ok (.iload 7, 2) := by decide +kernel
theorem d_makeCode_368 : decode c_M_makeCode 368 = .ok (.goto 7, 3) := by decide +kernel
theorem d_makeCode_371 : decode c_M_makeCode 371 = .ok (.iload 7, 2) := by decide +kernel
theorem d_makeCode_373 : decode c_M_makeCode 373 = .ok (.iconst 1, 1) := by decide +kernel
theorem d_makeCode_374 : decode c_M_makeCode 374 = .ok (.iadd, 1) := by decide +kernel
theorem d_makeCode_375 : decode c_M_makeCode 375 = .ok (.istore 7, 2) := by decide +kernel
theorem d_makeCode_377 : decode c_M_makeCode 377 = .ok (.goto (-187), 3) := by decide +kernel
theorem d_makeCode_380 : decode c_M_makeCode 380 = .ok (.iload_n 2, 1) := by decide +kernel
theorem d_makeCode_381 : decode c_M_makeCode 381 = .ok (.iload 5, 2) := by decide +kernel
theorem d_makeCode_383 : decode c_M_makeCode 383 = .ok (.iadd, 1) := by decide +kernel
theorem d_makeCode_384 : decode c_M_makeCode 384 = .ok (.istore_n 3, 1) := by decide +kernel
theorem d_makeCode_385 : decode c_M_makeCode 385 = .ok (.iinc 4 1, 3) := by decide +kernel
theorem d_makeCode_388 : decode c_M_makeCode 388 = .ok (.goto (-226), 3) := by decide +kernel
theorem d_makeCode_391 : decode c_M_makeCode 391 = .ok (.iconst 0, 1) := by decide +kernel
theorem d_makeCode_392 : decode c_M_makeCode 392 = .ok (.istore 4, 2) := by decide +kernel
theorem d_makeCode_394 : decode c_M_makeCode 394 = .ok (.iload 4, 2) := by decide +kernel
theorem d_makeCode_396 : decode c_M_makeCode 396 = .ok (.sipush 8320, 3) := by decide +kernel
theorem d_makeCode_399 : decode c_M_makeCode 399 = .ok (.if_icmp .ge 43, 3) := by decide +kernel
theorem d_makeCode_402 : decode c_M_makeCode 402 = .ok (.aload_n 0, 1) := by decide +kernel
theorem d_makeCode_403 : decode c_M_makeCode 403 = .ok (.getfield 100, 3) := by decide +kernel
theorem d_makeCode_406 : decode c_M_makeCode 406 = .ok (.iload 4, 2) := by decide +kernel
theorem d_makeCode_408 : decode c_M_makeCode 408 = .ok (.iload 4, 2) := by decide +kernel
theorem d_makeCode_410 : decode c_M_makeCode 410 = .ok (.sipush 7800, 3) := by decide +kernel
theorem d_makeCode_413 : decode c_M_makeCode 413 = .ok (.if_icmp .lt 21, 3) := by decide +kernel
theorem d_makeCode_416 : decode c_M_makeCode 416 = .ok (.iload 4, 2) := by decide +kernel
theorem d_makeCode_418 : decode c_M_makeCode 418 = .ok (.sipush 7800, 3) := by decide +kernel
theorem d_makeCode_421 : decode c_M_makeCode 421 = .ok (.iconst 2, 1) := by decide +kernel
theorem d_makeCode_422 : decode c_M_makeCode 422 = .ok (.iload_n 2, 1) := by decide +kernel
theorem d_makeCode_423 : decode c_M_makeCode 423 = .ok (.imul, 1) := by decide +kernel
theorem d_makeCode_424 : decode c_M_makeCode 424 = .ok (.iadd, 1) := by decide +kernel
theorem d_makeCode_425 : decode c_M_makeCode 425 = .ok (.iconst 2, 1) := by decide +kernel
theorem d_makeCode_426 : decode c_M_makeCode 426 = .ok (.isub, 1) := by decide +kernel
theorem d_makeCode_427 : decode c_M_makeCode 427 = .ok (.if_icmp .ge 7, 3) := by decide +kernel
theorem d_makeCode_430 : decode c_M_makeCode 430 = .ok (.iconst 1, 1) := by decide +kernel
theorem d_makeCode_431 : decode c_M_makeCode 431 = .ok (.goto 4, 3) := by decide +kernel
theorem d_makeCode_434 : decode c_M_makeCode 434 = .ok (.iconst 0, 1) := by decide +kernel
theorem d_makeCode_435 : decode c_M_makeCode 435 = .ok (.iastore, 1) := by decide +kernel
theorem d_makeCode_436 : decode c_M_makeCode 436 = .ok (.iinc 4 1, 3) := by decide +kernel
theorem d_makeCode_439 : decode c_M_makeCode 439 = .ok (.goto (-45), 3) := by decide +kernel
theorem d_makeCode_442 : decode c_M_makeCode 442 = .ok (.bipush 15, 2) := by decide +kernel
theorem d_makeCode_444 : decode c_M_makeCode 444 = .ok (.istore 4, 2) := by decide +kernel
theorem d_makeCode_446 : decode c_M_makeCode 446 = .ok (.iload 4, 2) := by decide +kernel
theorem d_makeCode_448 : decode c_M_makeCode 448 = .ok (.ifCond .lt 132, 3) := by decide +kernel
theorem d_makeCode_451 : decode c_M_makeCode 451 = .ok (.iconst 0, 1) := by decide +kernel
theorem d_makeCode_452 : decode c_M_makeCode 452 = .ok (.istore 5, 2) := by decide +kernel
theorem d_makeCode_454 : decode c_M_makeCode 454 = .ok (.iload 5, 2) := by decide +kernel
theorem d_makeCode_456 : decode c_M_makeCode 456 = .ok (.sipush 520, 3) := by decide +kernel
theorem d_makeCode_459 : decode c_M_makeCode 459 = .ok (.if_icmp .ge 115, 3) := by decide +kernel
theorem d_makeCode_462 : decode c_M_makeCode 462 = .ok (.sipush 520, 3) := by decide +kernel
theorem d_makeCode_465 : decode c_M_makeCode 465 = .ok (.iload 4, 2) := by decide +kernel
theorem d_makeCode_467 : decode c_M_makeCode 467 = .ok (.imul, 1) := by decide +kernel
theorem d_makeCode_468 : decode c_M_makeCode 468 = .ok (.iload 5, 2) := by decide +kernel
theorem d_makeCode_470 : decode c_M_makeCode 470 = .ok (.iadd, 1) := by decide +kernel
theorem d_makeCode_471 : decode c_M_makeCode 471 = .ok (.istore 6, 2) := by decide +kernel
theorem d_makeCode_473 : decode c_M_makeCode 473 = .ok (.aload_n 0, 1) := by decide +kernel
theorem d_makeCode_474 : decode c_M_makeCode 474 = .ok (.getfield 100, 3) := by decide +kernel
theorem d_makeCode_477 : decode c_M_makeCode 477 = .ok (.iload 6, 2) := by decide +kernel
theorem d_makeCode_479 : decode c_M_makeCode 479 = .ok (.iaload, 1) := by decide +kernel
theorem d_makeCode_480 : decode c_M_makeCode 480 = .ok (.ifCond .le 38, 3) := by decide +kernel
theorem d_makeCode_483 : decode c_M_makeCode 483 = .ok (.aload_n 0, 1) := by decide +kernel
theorem d_makeCode_484 : decode c_M_makeCode 484 = .ok (.getfield 97, 3) := by decide +kernel
theorem d_makeCode_487 : decode c_M_makeCode 487 = .ok (.iload 6, 2) := by decide +kernel
theorem d_makeCode_489 : decode c_M_makeCode 489 = .ok (.iaload, 1) := by decide +kernel
theorem d_makeCode_490 : decode c_M_makeCode 490 = .ok (.ifCond .lt 28, 3) := by decide +kernel
theorem d_makeCode_493 : decode c_M_makeCode 493 = .ok (.aload_n 0, 1) := by decide +kernel
theorem d_makeCode_494 : decode c_M_makeCode 494 = .ok (.getfield 88, 3) := by decide +kernel
theorem d_makeCode_497 : decode c_M_makeCode 497 = .ok (.sipush 257, 3) := by decide +kernel
theorem d_makeCode_500 : decode c_M_makeCode 500 = .ok (.iload_n 1, 1) := by decide +kernel
theorem d_makeCode_501 : decode c_M_makeCode 501 = .ok (.imul, 1) := by decide +kernel
theorem d_makeCode_502 : decode c_M_makeCode 502 = .ok (.aload_n 0, 1) := by decide +kernel
theorem d_makeCode_503 : decode c_M_makeCode 503 = .ok (.getfield 97, 3) := by decide +kernel
theorem d_makeCode_506 : decode c_M_makeCode 506 = .ok (.iload 6, 2) := by decide +kernel
theorem d_makeCode_508 : decode c_M_makeCode 508 = .ok (.iaload, 1) := by decide +kernel
theorem d_makeCode_509 : decode c_M_makeCode 509 = .ok (.iadd, 1) := by decide +kernel
theorem d_makeCode_510 : decode c_M_makeCode 510 = .ok (.dup2, 1) := by decide +kernel
theorem d_makeCode_511 : decode c_M_makeCode 511 = .ok (.iaload, 1) := by decide +kernel
theorem d_makeCode_512 : decode c_M_makeCode 512 = .ok (.iconst 1, 1) := by decide +kernel
theorem d_makeCode_513 : decode c_M_makeCode 513 = .ok (.iadd, 1) := by decide +kernel
theorem d_makeCode_514 : decode c_M_makeCode 514 = .ok (.iastore, 1) := by decide +kernel
theorem d_makeCode_515 : decode c_M_makeCode 515 = .ok (.goto 53, 3) := by decide +kernel
theorem d_makeCode_518 : decode c_M_makeCode 518 = .ok (.aload_n 0, 1) := by decide +kernel
theorem d_makeCode_519 : decode c_M_makeCode 519 = .ok (.getfield 100, 3) := by decide +kernel
theorem d_makeCode_522 : decode c_M_makeCode 522 = .ok (.iload 6, 2) := by decide +kernel
theorem d_makeCode_524 : decode c_M_makeCode 524 = .ok (.iaload, 1) := by decide +kernel
theorem d_makeCode_525 : decode c_M_makeCode 525 = .ok (.ifCond .le 43, 3) := by decide +kernel
theorem d_makeCode_528 : decode c_M_makeCode 528 = .ok (.sipush 520, 3) := by decide +kernel
theorem d_makeCode_531 : decode c_M_makeCode 531 = .ok (.iload 4, 2) := by decide +kernel
theorem d_makeCode_533 : decode c_M_makeCode 533 = .ok (.iconst 1, 1) := by decide +kernel
theorem d_makeCode_534 : decode c_M_makeCode 534 = .ok (.isub, 1) := by decide +kernel
theorem d_makeCode_535 : decode c_M_makeCode 535 = .ok (.imul, 1) := by decide +kernel
theorem d_makeCode_536 : decode c_M_makeCode 536 = .ok (.iconst 2, 1) := by decide +kernel
theorem d_makeCode_537 : decode c_M_makeCode 537 = .ok (.iconst (-1), 1) := by decide +kernel
theorem d_makeCode_538 : decode c_M_makeCode 538 = .ok (.aload_n 0, 1) := by decide +kernel
theorem d_makeCode_539 : decode c_M_makeCode 539 = .ok (.getfield 97, 3) := by decide +kernel
theorem d_makeCode_542 : decode c_M_makeCode 542 = .ok (.iload 6, 2) := by decide +kernel
theorem d_makeCode_544 : decode c_M_makeCode 544 = .ok (.iaload, 1) := by decide +kernel
theorem d_makeCode_545 : decode c_M_makeCode 545 = .ok (.isub, 1) := by decide +kernel
theorem d_makeCode_546 : decode c_M_makeCode 546 = .ok (.imul, 1) := by decide +kernel
theorem d_makeCode_547 : decode c_M_makeCode 547 = .ok (.iadd, 1) := by decide +kernel
theorem d_makeCode_548 : decode c_M_makeCode 548 = .ok (.istore 7, 2) := by decide +kernel
theorem d_makeCode_550 : decode c_M_makeCode 550 = .ok (.aload_n 0, 1) := by decide +kernel
theorem d_makeCode_551 : decode c_M_makeCode 551 = .ok (.getfield 100, 3) := by decide +kernel
theorem d_makeCode_554 : decode c_M_makeCode 554 = .ok (.iload 7, 2) := by decide +kernel
theorem d_makeCode_556 : decode c_M_makeCode 556 = .ok (.iconst 1, 1) := by decide +kernel
theorem d_makeCode_557 : decode c_M_makeCode 557 = .ok (.iastore, 1) := by decide +kernel
theorem d_makeCode_558 : decode c_M_makeCode 558 = .ok (.aload_n 0, 1) := by decide +kernel
theorem d_makeCode_559 : decode c_M_makeCode 559 = .ok (.getfield 100, 3) := by decide +kernel
theorem d_makeCode_562 : decode c_M_makeCode 562 = .ok (.iload 7, 2) := by decide +kernel
theorem d_makeCode_564 : decode c_M_makeCode 564 = .ok (.iconst 1, 1) := by decide +kernel
theorem d_makeCode_565 : decode c_M_makeCode 565 = .ok (.iadd, 1) := by decide +kernel
theorem d_makeCode_566 : decode c_M_makeCode 566 = .ok (.iconst 1, 1) := by decide +kernel
theorem d_makeCode_567 : decode c_M_makeCode 567 = .ok (.iastore, 1) := by decide +kernel
theorem d_makeCode_568 : decode c_M_makeCode 568 = .ok (.iinc 5 1, 3) := by decide +kernel
theorem d_makeCode_571 : decode c_M_makeCode 571 = .ok (.goto (-117), 3) := by decide +kernel
theorem d_makeCode_574 : decode c_M_makeCode 574 = .ok (.iinc 4 (-1), 3) := by decide +kernel
theorem d_makeCode_577 : decode c_M_makeCode 577 = .ok (.goto (-131), 3) := by decide +kernel
theorem d_makeCode_580 : decode c_M_makeCode 580 = .ok (.iconst 0, 1) := by decide +kernel
theorem d_makeCode_581 : decode c_M_makeCode 581 = .ok (.istore 4, 2) := by decide +kernel
theorem d_makeCode_583 : decode c_M_makeCode 583 = .ok (.iconst 1, 1) := by decide +kernel
theorem d_makeCode_584 : decode c_M_makeCode 584 = .ok (.istore 5, 2) := by decide +kernel
theorem d_makeCode_586 : decode c_M_makeCode 586 = .ok (.iload 5, 2) := by decide +kernel
theorem d_makeCode_588 : decode c_M_makeCode 588 = .ok (.bipush 16, 2) := by decide +kernel
theorem d_makeCode_590 : decode c_M_makeCode 590 = .ok (.if_icmp .gt 68, 3) := by decide +kernel
theorem d_makeCode_593 : decode c_M_makeCode 593 = .ok (.iconst 2, 1) := by decide +kernel
theorem d_makeCode_594 : decode c_M_makeCode 594 = .ok (.iload 4, 2) := by decide +kernel
theorem d_makeCode_596 : decode c_M_makeCode 596 = .ok (.imul, 1) := by decide +kernel
theorem d_makeCode_597 : decode c_M_makeCode 597 = .ok (.istore 4, 2) := by decide +kernel
theorem d_makeCode_599 : decode c_M_makeCode 599 = .ok (.iconst 0, 1) := by decide +kernel
theorem d_makeCode_600 : decode c_M_makeCode 600 = .ok (.istore 6, 2) := by decide +kernel
theorem d_makeCode_602 : decode c_M_makeCode 602 = .ok (.iload 6, 2) := by decide +kernel
theorem d_makeCode_604 : decode c_M_makeCode 604 = .ok (.sipush 256, 3) := by decide +kernel
theorem d_makeCode_607 : decode c_M_makeCode 607 = .ok (.if_icmp .ge 45, 3) := by decide +kernel
theorem d_makeCode_610 : decode c_M_makeCode 610 = .ok (.aload_n 0, 1) := by decide +kernel
theorem d_makeCode_611 : decode c_M_makeCode 611 = .ok (.getfield 88, 3) := by decide +kernel
theorem d_makeCode_614 : decode c_M_makeCode 614 = .ok (.sipush 257, 3) := by decide +kernel
theorem d_makeCode_617 : decode c_M_makeCode 617 = .ok (.iload_n 1, 1) := by decide +kernel
theorem d_makeCode_618 : decode c_M_makeCode 618 = .ok (.imul, 1) := by decide +kernel
theorem d_makeCode_619 : decode c_M_makeCode 619 = .ok (.iload 6, 2) := by decide +kernel
theorem d_makeCode_621 : decode c_M_makeCode 621 = .ok (.iadd, 1) := by decide +kernel
theorem d_makeCode_622 : decode c_M_makeCode 622 = .ok (.iaload, 1) := by decide +kernel
theorem d_makeCode_623 : decode c_M_makeCode 623 = .ok (.iload 5, 2) := by decide +kernel
theorem d_makeCode_625 : decode c_M_makeCode 625 = .ok (.if_icmp .ne 21, 3) := by decide +kernel
theorem d_makeCode_628 : decode c_M_makeCode 628 = .ok (.aload_n 0, 1) := by decide +kernel
theorem d_makeCode_629 : decode c_M_makeCode 629 = .ok (.getfield 91, 3) := by decide +kernel
theorem d_makeCode_632 : decode c_M_makeCode 632 = .ok (.sipush 257, 3) := by decide +kernel
theorem d_makeCode_635 : decode c_M_makeCode 635 = .ok (.iload_n 1, 1) := by decide +kernel
theorem d_makeCode_636 : decode c_M_makeCode 636 = .ok (.imul, 1) := by decide +kernel
theorem d_makeCode_637 : decode c_M_makeCode 637 = .ok (.iload 6, 2) := by decide +kernel
theorem d_makeCode_639 : decode c_M_makeCode 639 = .ok (.iadd, 1) := by decide +kernel
theorem d_makeCode_640 : decode c_M_makeCode 640 = .ok (.iload 4, 2) := by decide +kernel
theorem d_makeCode_642 : decode c_M_makeCode 642 = .ok (.iastore, 1) := by decide +kernel
theorem d_makeCode_643 : decode c_M_makeCode 643 = .ok (.iinc 4 1, 3) := by decide +kernel
theorem d_makeCode_646 : decode c_M_makeCode 646 = .ok (.iinc 6 1, 3) := by decide +kernel
theorem d_makeCode_649 : decode c_M_makeCode 649 = .ok (.goto (-47), 3) := by decide +kernel
theorem d_makeCode_652 : decode c_M_makeCode 652 = .ok (.iinc 5 1, 3) := by decide +kernel
theorem d_makeCode_655 : decode c_M_makeCode 655 = .ok (.goto (-69), 3) := by decide +kernel
theorem d_makeCode_658 : decode c_M_makeCode 658 = .ok (.return_, 1) := by decide +kernel
theorem d_put_0 : decode c_M_put 0 = .ok (.aload_n 0, 1) := by decide +kernel
theorem d_put_1 : decode c_M_put 1 = .ok (.getfield 31, 3) := by decide +kernel
theorem d_put_4 : decode c_M_put 4 = .ok (.aload_n 0, 1) := by decide +kernel
theorem d_put_5 : decode c_M_put 5 = .ok (.getfield 197, 3) := by decide +kernel
theorem d_put_8 : decode c_M_put 8 = .ok (.iload_n 1, 1) := by decide +kernel
theorem d_put_9 : decode c_M_put 9 = .ok (.iastore, 1) := by decide +kernel
theorem d_put_10 : decode c_M_put 10 = .ok (.aload_n 0, 1) := by decide +kernel
theorem d_put_11 : decode c_M_put 11 = .ok (.dup, 1) := by decide +kernel
theorem d_put_12 : decode c_M_put 12 = .ok (.getfield 197, 3) := by decide +kernel
theorem d_put_15 : decode c_M_put 15 = .ok (.iconst 1, 1) := by decide +kernel
theorem d_put_16 : decode c_M_put 16 = .ok (.iadd, 1) := by decide +kernel
theorem d_put_17 : decode c_M_put 17 = .ok (.putfield 197, 3) := by decide +kernel
theorem d_put_20 : decode c_M_put 20 = .ok (.return_, 1) := by decide +kernel
theorem d_putTwo_0 : decode c_M_putTwo 0 = .ok (.aload_n 0, 1) := by decide +kernel
theorem d_putTwo_1 : decode c_M_putTwo 1 = .ok (.iload_n 1, 1) := by decide +kernel
theorem d_putTwo_2 : decode c_M_putTwo 2 = .ok (.bipush 8, 2) := by decide +kernel
theorem d_putTwo_4 : decode c_M_putTwo 4 = .ok (.ishr, 1) := by decide +kernel
theorem d_putTwo_5 : decode c_M_putTwo 5 = .ok (.sipush 255, 3) := by decide +kernel
theorem d_putTwo_8 : decode c_M_putTwo 8 = .ok (.iand, 1) := by decide +kernel
theorem d_putTwo_9 : decode c_M_putTwo 9 = .ok (.invokevirtual 200, 3) := by decide +kernel
theorem d_putTwo_12 : decode c_M_putTwo 12 = .ok (.aload_n 0, 1) := by decide +kernel
theorem d_putTwo_13 : decode c_M_putTwo 13 = .ok (.iload_n 1, 1) := by decide +kernel
theorem d_putTwo_14 : decode c_M_putTwo 14 = .ok (.sipush 255, 3) := by decide +kernel
theorem d_putTwo_17 : decode c_M_putTwo 17 = .ok (.iand, 1) := by decide +kernel
theorem d_putTwo_18 : decode c_M_putTwo 18 = .ok (.invokevirtual 200, 3) := by decide +kernel
theorem d_putTwo_21 : decode c_M_putTwo 21 = .ok (.return_, 1) := by decide +kernel
theorem d_mark_0 : decode c_M_mark 0 = .ok (.aload_n 0, 1) := by decide +kernel
theorem d_mark_1 : decode c_M_mark 1 = .ok (.sipush 255, 3) := by decide +kernel
theorem d_mark_4 : decode c_M_mark 4 = .ok (.invokevirtual 200, 3) := by decide +kernel
theorem d_mark_7 : decode c_M_mark 7 = .ok (.aload_n 0, 1) := by decide +kernel
theorem d_mark_8 : decode c_M_mark 8 = .ok (.iload_n 1, 1) := by decide +kernel
theorem d_mark_9 : decode c_M_mark 9 = .ok (.invokevirtual 200, 3) := by decide +kernel
theorem d_mark_12 : decode c_M_mark 12 = .ok (.return_, 1) := by decide +kernel
theorem d_putBits_0 : decode c_M_putBits 0 = .ok (.iload_n 2, 1) := by decide +kernel
theorem d_putBits_1 : decode c_M_putBits 1 = .ok (.iconst 1, 1) := by decide +kernel
theorem d_putBits_2 : decode c_M_putBits 2 = .ok (.isub, 1) := by decide +kernel
theorem d_putBits_3 : decode c_M_putBits 3 = .ok (.istore_n 3, 1) := by decide +kernel
theorem d_putBits_4 : decode c_M_putBits 4 = .ok (.iload_n 3, 1) := by decide +kernel
theorem d_putBits_5 : decode c_M_putBits 5 = .ok (.ifCond .lt 77, 3) := by decide +kernel
theorem d_putBits_8 : decode c_M_putBits 8 = .ok (.aload_n 0, 1) := by decide +kernel
theorem d_putBits_9 : decode c_M_putBits 9 = .ok (.iconst 2, 1) := by decide +kernel
theorem d_putBits_10 : decode c_M_putBits 10 = .ok (.aload_n 0, 1) := by decide +kernel
theorem d_putBits_11 : decode c_M_putBits 11 = .ok (.getfield 204, 3) := by decide +kernel
theorem d_putBits_14 : decode c_M_putBits 14 = .ok (.imul, 1) := by decide +kernel
theorem d_putBits_15 : decode c_M_putBits 15 = .ok (.iload_n 1, 1) := by decide +kernel
theorem d_putBits_16 : decode c_M_putBits 16 = .ok (.iload_n 3, 1) := by decide +kernel
theorem d_putBits_17 : decode c_M_putBits 17 = .ok (.ishr, 1) := by decide +kernel
theorem d_putBits_18 : decode c_M_putBits 18 = .ok (.iconst 1, 1) := by decide +kernel
theorem d_putBits_19 : decode c_M_putBits 19 = .ok (.iand, 1) := by decide +kernel
theorem d_putBits_20 : decode c_M_putBits 20 = .ok (.iadd, 1) := by decide +kernel
theorem d_putBits_21 : decode c_M_putBits 21 = .ok (.putfield 204, 3) := by decide +kernel
theorem d_putBits_24 : decode c_M_putBits 24 = .ok (.aload_n 0, 1) := by decide +kernel
theorem d_putBits_25 : decode c_M_putBits 25 = .ok (.dup, 1) := by decide +kernel
theorem d_putBits_26 : decode c_M_putBits 26 = .ok (.getfield 207, 3) := by decide +kernel
theorem d_putBits_29 : decode c_M_putBits 29 = .ok (.iconst 1, 1) := by decide +kernel
theorem d_putBits_30 : decode c_M_putBits 30 = .ok (.iadd, 1) := by decide +kernel
theorem d_putBits_31 : decode c_M_putBits 31 = .ok (.putfield 207, 3) := by decide +kernel
theorem d_putBits_34 : decode c_M_putBits 34 = .ok (.aload_n 0, 1) := by decide +kernel
theorem d_putBits_35 : decode c_M_putBits 35 = .ok (.getfield 207, 3) := by decide +kernel
theorem d_putBits_38 : decode c_M_putBits 38 = .ok (.bipush 8, 2) := by decide +kernel
theorem d_putBits_40 : decode c_M_putBits 40 = .ok (.if_icmp .ne 36, 3) := by decide +kernel
theorem d_putBits_43 : decode c_M_putBits 43 = .ok (.aload_n 0, 1) := by decide +kernel
theorem d_putBits_44 : decode c_M_putBits 44 = .ok (.aload_n 0, 1) := by decide +kernel
theorem d_putBits_45 : decode c_M_putBits 45 = .ok (.getfield 204, 3) := by decide +kernel
theorem d_putBits_48 : decode c_M_putBits 48 = .ok (.invokevirtual 200, 3) := by decide +kernel
theorem d_putBits_51 : decode c_M_putBits 51 = .ok (.aload_n 0, 1) := by decide +kernel
theorem d_putBits_52 : decode c_M_putBits 52 = .ok (.getfield 204, 3) := by decide +kernel
theorem d_putBits_55 : decode c_M_putBits 55 = .ok (.sipush 255, 3) := by decide +kernel
theorem d_putBits_58 : decode c_M_putBits 58 = .ok (.if_icmp .ne 8, 3) := by decide +kernel
theorem d_putBits_61 : decode c_M_putBits 61 = .ok (.aload_n 0, 1) := by decide +kernel
theorem d_putBits_62 : decode c_M_putBits 62 = .ok (.iconst 0, 1) := by decide +kernel
theorem d_putBits_63 : decode c_M_putBits 63 = .ok (.invokevirtual 200, 3) := by decide +kernel
theorem d_putBits_66 : decode c_M_putBits 66 = .ok (.aload_n 0, 1) := by decide +kernel
theorem d_putBits_67 : decode c_M_putBits 67 = .ok (.iconst 0, 1) := by decide +kernel
theorem d_putBits_68 : decode c_M_putBits 68 = .ok (.putfield 207, 3) := by decide +kernel
theorem d_putBits_71 : decode c_M_putBits 71 = .ok (.aload_n 0, 1) := by decide +kernel
theorem d_putBits_72 : decode c_M_putBits 72 = .ok (.iconst 0, 1) := by decide +kernel
theorem d_putBits_73 : decode c_M_putBits 73 = .ok (.putfield 204, 3) := by decide +kernel
theorem d_putBits_76 : decode c_M_putBits 76 = .ok (.iinc 3 (-1), 3) := by decide +kernel
theorem d_putBits_79 : decode c_M_putBits 79 = .ok (.goto (-75), 3) := by decide +kernel
theorem d_putBits_82 : decode c_M_putBits 82 = .ok (.return_, 1) := by decide +kernel
theorem d_fillUp_0 : decode c_M_fillUp 0 = .ok (.aload_n 0, 1) := by decide +kernel
theorem d_fillUp_1 : decode c_M_fillUp 1 = .ok (.getfield 207, 3) := by decide +kernel
theorem d_fillUp_4 : decode c_M_fillUp 4 = .ok (.ifCond .le 12, 3) := by decide +kernel
theorem d_fillUp_7 : decode c_M_fillUp 7 = .ok (.aload_n 0, 1) := by decide +kernel
theorem d_fillUp_8 : decode c_M_fillUp 8 = .ok (.iconst 1, 1) := by decide +kernel
theorem d_fillUp_9 : decode c_M_fillUp 9 = .ok (.iconst 1, 1) := by decide +kernel
theorem d_fillUp_10 : decode c_M_fillUp 10 = .ok (.invokevirtual 210, 3) := by decide +kernel
theorem d_fillUp_13 : decode c_M_fillUp 13 = .ok (.goto (-13), 3) := by decide +kernel
theorem d_fillUp_16 : decode c_M_fillUp 16 = .ok (.return_, 1) := by decide +kernel
theorem d_symbol_0 : decode c_M_symbol 0 = .ok (.iload_n 1, 1) := by decide +kernel
theorem d_symbol_1 : decode c_M_symbol 1 = .ok (.ifCond .eq 22, 3) := by decide +kernel
theorem d_symbol_4 : decode c_M_symbol 4 = .ok (.aload_n 0, 1) := by decide +kernel
theorem d_symbol_5 : decode c_M_symbol 5 = .ok (.getfield 85, 3) := by decide +kernel
theorem d_symbol_8 : decode c_M_symbol 8 = .ok (.sipush 257, 3) := by decide +kernel
theorem d_symbol_11 : decode c_M_symbol 11 = .ok (.iload_n 2, 1) := by decide +kernel
theorem d_symbol_12 : decode c_M_symbol 12 = .ok (.imul, 1) := by decide +kernel
theorem d_symbol_13 : decode c_M_symbol 13 = .ok (.iload_n 3, 1) := by decide +kernel
theorem d_symbol_14 : decode c_M_symbol 14 = .ok (.iadd, 1) := by decide +kernel
theorem d_symbol_15 : decode c_M_symbol 15 = .ok (.dup2, 1) := by decide +kernel
theorem d_symbol_16 : decode c_M_symbol 16 = .ok (.iaload, 1) := by decide +kernel
theorem d_symbol_17 : decode c_M_symbol 17 = .ok (.iconst 1, 1) := by decide +kernel
theorem d_symbol_18 : decode c_M_symbol 18 = .ok (.iadd, 1) := by decide +kernel
theorem d_symbol_19 : decode c_M_symbol 19 = .ok (.iastore, 1) := by decide +kernel
theorem d_symbol_20 : decode c_M_symbol 20 = .ok (.goto 31, 3) := by decide +kernel
theorem d_symbol_23 : decode c_M_symbol 23 = .ok (.aload_n 0, 1) := by decide +kernel
theorem d_symbol_24 : decode c_M_symbol 24 = .ok (.aload_n 0, 1) := by decide +kernel
theorem d_symbol_25 : decode c_M_symbol 25 = .ok (.getfield 91, 3) := by decide +kernel
theorem d_symbol_28 : decode c_M_symbol 28 = .ok (.sipush 257, 3) := by decide +kernel
theorem d_symbol_31 : decode c_M_symbol 31 = .ok (.iload_n 2, 1) := by decide +kernel
theorem d_symbol_32 : decode c_M_symbol 32 = .ok (.imul, 1) := by decide +kernel
theorem d_symbol_33 : decode c_M_symbol 33 = .ok (.iload_n 3, 1) := by decide +kernel
theorem d_symbol_34 : decode c_M_symbol 34 = .ok (.iadd, 1) := by decide +kernel
theorem d_symbol_35 : decode c_M_symbol 35 = .ok (.iaload, 1) := by decide +kernel
theorem d_symbol_36 : decode c_M_symbol 36 = .ok (.aload_n 0, 1) := by decide +kernel
theorem d_symbol_37 : decode c_M_symbol 37 = .ok (.getfield 88, 3) := by decide +kernel
theorem d_symbol_40 : decode c_M_symbol 40 = .ok (.sipush 257, 3) := by decide +kernel
theorem d_symbol_43 : decode c_M_symbol 43 = .ok (.iload_n 2, 1) := by decide +kernel
theorem d_symbol_44 : decode c_M_symbol 44 = .ok (.imul, 1) := by decide +kernel
theorem d_symbol_45 : decode c_M_symbol 45 = .ok (.iload_n 3, 1) := by decide +kernel
theorem d_symbol_46 : decode c_M_symbol 46 = .ok (.iadd, 1) := by decide +kernel
theorem d_symbol_47 : decode c_M_symbol 47 = .ok (.iaload, 1) := by decide +kernel
theorem d_symbol_48 : decode c_M_symbol 48 = .ok (.invokevirtual 210, 3) := by decide +kernel
theorem d_symbol_51 : decode c_M_symbol 51 = .ok (.return_, 1) := by decide +kernel
theorem d_bitsOf_0 : decode c_M_bitsOf 0 = .ok (.iload_n 0, 1) := by decide +kernel
theorem d_bitsOf_1 : decode c_M_bitsOf 1 = .ok (.ifCond .ge 8, 3) := by decide +kernel
theorem d_bitsOf_4 : decode c_M_bitsOf 4 = .ok (.iload_n 0, 1) := by decide +kernel
theorem d_bitsOf_5 : decode c_M_bitsOf 5 = .ok (.ineg, 1) := by decide +kernel
theorem d_bitsOf_6 : decode c_M_bitsOf 6 = .ok (.goto 4, 3) := by decide +kernel
theorem d_bitsOf_9 : decode c_M_bitsOf 9 = .ok (.iload_n 0, 1) := by decide +kernel
theorem d_bitsOf_10 : decode c_M_bitsOf 10 = .ok (.istore_n 1, 1) := by decide +kernel
theorem d_bitsOf_11 : decode c_M_bitsOf 11 = .ok (.iconst 0, 1) := by decide +kernel
theorem d_bitsOf_12 : decode c_M_bitsOf 12 = .ok (.istore_n 2, 1) := by decide +kernel
theorem d_bitsOf_13 : decode c_M_bitsOf 13 = .ok (.iload_n 1, 1) := by decide +kernel
theorem d_bitsOf_14 : decode c_M_bitsOf 14 = .ok (.iload_n 2, 1) := by decide +kernel
theorem d_bitsOf_15 : decode c_M_bitsOf 15 = .ok (.ishr, 1) := by decide +kernel
theorem d_bitsOf_16 : decode c_M_bitsOf 16 = .ok (.ifCond .le 9, 3) := by decide +kernel
theorem d_bitsOf_19 : decode c_M_bitsOf 19 = .ok (.iinc 2 1, 3) := by decide +kernel
theorem d_bitsOf_22 : decode c_M_bitsOf 22 = .ok (.goto (-9), 3) := by decide +kernel
theorem d_bitsOf_25 : decode c_M_bitsOf 25 = .ok (.iload_n 2, 1) := by decide +kernel
theorem d_bitsOf_26 : decode c_M_bitsOf 26 = .ok (.ireturn, 1) := by decide +kernel
theorem d_number_0 : decode c_M_number 0 = .ok (.iload_n 1, 1) := by decide +kernel
theorem d_number_1 : decode c_M_number 1 = .ok (.ifCond .ne 23, 3) := by decide +kernel
theorem d_number_4 : decode c_M_number 4 = .ok (.aload_n 0, 1) := by decide +kernel
theorem d_number_5 : decode c_M_number 5 = .ok (.iload_n 2, 1) := by decide +kernel
theorem d_number_6 : decode c_M_number 6 = .ok (.ifCond .ge 13, 3) := by decide +kernel
theorem d_number_9 : decode c_M_number 9 = .ok (.iload_n 2, 1) := by decide +kernel
theorem d_number_10 : decode c_M_number 10 = .ok (.iconst 1, 1) := by decide +kernel
theorem d_number_11 : decode c_M_number 11 = .ok (.iload_n 3, 1) := by decide +kernel
theorem d_number_12 : decode c_M_number 12 = .ok (.ishl, 1) := by decide +kernel
theorem d_number_13 : decode c_M_number 13 = .ok (.iadd, 1) := by decide +kernel
theorem d_number_14 : decode c_M_number 14 = .ok (.iconst 1, 1) := by decide +kernel
theorem d_number_15 : decode c_M_number 15 = .ok (.isub, 1) := by decide +kernel
theorem d_number_16 : decode c_M_number 16 = .ok (.goto 4, 3) := by decide +kernel
theorem d_number_19 : decode c_M_number 19 = .ok (.iload_n 2, 1) := by decide +kernel
theorem d_number_20 : decode c_M_number 20 = .ok (.iload_n 3, 1) := by decide +kernel
theorem d_number_21 : decode c_M_number 21 = .ok (.invokevirtual 210, 3) := by decide +kernel
theorem d_number_24 : decode c_M_number 24 = .ok (.return_, 1) := by decide +kernel
theorem d_tell_0 : decode c_M_tell 0 = .ok (.iload_n 2, 1) := by decide +kernel
theorem d_tell_1 : decode c_M_tell 1 = .ok (.ifCond .ne 7, 3) := by decide +kernel
theorem d_tell_4 : decode c_M_tell 4 = .ok (.iconst 0, 1) := by decide +kernel
theorem d_tell_5 : decode c_M_tell 5 = .ok (.goto 4, 3) := by decide +kernel
theorem d_tell_8 : decode c_M_tell 8 = .ok (.iconst 2, 1) := by decide +kernel
theorem d_tell_9 : decode c_M_tell 9 = .ok (.istore 4, 2) := by decide +kernel
theorem d_tell_11 : decode c_M_tell 11 = .ok (.aload_n 0, 1) := by decide +kernel
theorem d_tell_12 : decode c_M_tell 12 = .ok (.getfield 63, 3) := by decide +kernel
theorem d_tell_15 : decode c_M_tell 15 = .ok (.iconst 0, 1) := by decide +kernel
theorem d_tell_16 : decode c_M_tell 16 = .ok (.iload_n 2, 1) := by decide +kernel
theorem d_tell_17 : decode c_M_tell 17 = .ok (.iload_n 3, 1) := by decide +kernel
theorem d_tell_18 : decode c_M_tell 18 = .ok (.iconst 0, 1) := by decide +kernel
theorem d_tell_19 : decode c_M_tell 19 = .ok (.invokestatic 193, 3) := by decide +kernel
theorem d_tell_22 : decode c_M_tell 22 = .ok (.iaload, 1) := by decide +kernel
theorem d_tell_23 : decode c_M_tell 23 = .ok (.istore 5, 2) := by decide +kernel
theorem d_tell_25 : decode c_M_tell 25 = .ok (.iload 5, 2) := by decide +kernel
theorem d_tell_27 : decode c_M_tell 27 = .ok (.aload_n 0, 1) := by decide +kernel
theorem d_tell_28 : decode c_M_tell 28 = .ok (.getfield 139, 3) := by decide +kernel
theorem d_tell_31 : decode c_M_tell 31 = .ok (.iload_n 2, 1) := by decide +kernel
theorem d_tell_32 : decode c_M_tell 32 = .ok (.iaload, 1) := by decide +kernel
theorem d_tell_33 : decode c_M_tell 33 = .ok (.isub, 1) := by decide +kernel
theorem d_tell_34 : decode c_M_tell 34 = .ok (.istore 6, 2) := by decide +kernel
theorem d_tell_36 : decode c_M_tell 36 = .ok (.aload_n 0, 1) := by decide +kernel
theorem d_tell_37 : decode c_M_tell 37 = .ok (.getfield 139, 3) := by decide +kernel
theorem d_tell_40 : decode c_M_tell 40 = .ok (.iload_n 2, 1) := by decide +kernel
theorem d_tell_41 : decode c_M_tell 41 = .ok (.iload 5, 2) := by decide +kernel
theorem d_tell_43 : decode c_M_tell 43 = .ok (.iastore, 1) := by decide +kernel
theorem d_tell_44 : decode c_M_tell 44 = .ok (.aload_n 0, 1) := by decide +kernel
theorem d_tell_45 : decode c_M_tell 45 = .ok (.iload_n 1, 1) := by decide +kernel
theorem d_tell_46 : decode c_M_tell 46 = .ok (.iload 4, 2) := by decide +kernel
theorem d_tell_48 : decode c_M_tell 48 = .ok (.iload 6, 2) := by decide +kernel
theorem d_tell_50 : decode c_M_tell 50 = .ok (.invokestatic 214, 3) := by decide +kernel
theorem d_tell_53 : decode c_M_tell 53 = .ok (.invokevirtual 217, 3) := by decide +kernel
theorem d_tell_56 : decode c_M_tell 56 = .ok (.aload_n 0, 1) := by decide +kernel
theorem d_tell_57 : decode c_M_tell 57 = .ok (.iload_n 1, 1) := by decide +kernel
theorem d_tell_58 : decode c_M_tell 58 = .ok (.iload 6, 2) := by decide +kernel
theorem d_tell_60 : decode c_M_tell 60 = .ok (.iload 6, 2) := by decide +kernel
theorem d_tell_62 : decode c_M_tell 62 = .ok (.invokestatic 214, 3) := by decide +kernel
theorem d_tell_65 : decode c_M_tell 65 = .ok (.invokevirtual 221, 3) := by decide +kernel
theorem d_tell_68 : decode c_M_tell 68 = .ok (.iconst 0, 1) := by decide +kernel
theorem d_tell_69 : decode c_M_tell 69 = .ok (.istore 7, 2) := by decide +kernel
theorem d_tell_71 : decode c_M_tell 71 = .ok (.iconst 1, 1) := by decide +kernel
theorem d_tell_72 : decode c_M_tell 72 = .ok (.istore 8, 2) := by decide +kernel
theorem d_tell_74 : decode c_M_tell 74 = .ok (.iload 8, 2) := by decide +kernel
theorem d_tell_76 : decode c_M_tell 76 = .ok (.bipush 64, 2) := by decide +kernel
theorem d_tell_78 : decode c_M_tell 78 = .ok (.if_icmp .ge 95, 3) := by decide +kernel
theorem d_tell_81 : decode c_M_tell 81 = .ok (.aload_n 0, 1) := by decide +kernel
theorem d_tell_82 : decode c_M_tell 82 = .ok (.getfield 63, 3) := by decide +kernel
theorem d_tell_85 : decode c_M_tell 85 = .ok (.iconst 0, 1) := by decide +kernel
theorem d_tell_86 : decode c_M_tell 86 = .ok (.iload_n 2, 1) := by decide +kernel
theorem d_tell_87 : decode c_M_tell 87 = .ok (.iload_n 3, 1) := by decide +kernel
theorem d_tell_88 : decode c_M_tell 88 = .ok (.iload 8, 2) := by decide +kernel
theorem d_tell_90 : decode c_M_tell 90 = .ok (.invokestatic 193, 3) := by decide +kernel
theorem d_tell_93 : decode c_M_tell 93 = .ok (.iaload, 1) := by decide +kernel
theorem d_tell_94 : decode c_M_tell 94 = .ok (.istore 9, 2) := by decide +kernel
theorem d_tell_96 : decode c_M_tell 96 = .ok (.iload 9, 2) := by decide +kernel
theorem d_tell_98 : decode c_M_tell 98 = .ok (.ifCond .ne 9, 3) := by decide +kernel
theorem d_tell_101 : decode c_M_tell 101 = .ok (.iinc 7 1, 3) := by decide +kernel
theorem d_tell_104 : decode c_M_tell 104 = .ok (.goto 63, 3) := by decide +kernel
theorem d_tell_107 : decode c_M_tell 107 = .ok (.iload 7, 2) := by decide +kernel
theorem d_tell_109 : decode c_M_tell 109 = .ok (.bipush 15, 2) := by decide +kernel
theorem d_tell_111 : decode c_M_tell 111 = .ok (.if_icmp .le 21, 3) := by decide +kernel
theorem d_tell_114 : decode c_M_tell 114 = .ok (.aload_n 0, 1) := by decide +kernel
theorem d_tell_115 : decode c_M_tell 115 = .ok (.iload_n 1, 1) := by decide +kernel
theorem d_tell_116 : decode c_M_tell 116 = .ok (.iload 4, 2) := by decide +kernel
theorem d_tell_118 : decode c_M_tell 118 = .ok (.iconst 1, 1) := by decide +kernel
theorem d_tell_119 : decode c_M_tell 119 = .ok (.iadd, 1) := by decide +kernel
theorem d_tell_120 : decode c_M_tell 120 = .ok (.sipush 240, 3) := by decide +kernel
theorem d_tell_123 : decode c_M_tell 123 = .ok (.invokevirtual 217, 3) := by decide +kernel
theorem d_tell_126 : decode c_M_tell 126 = .ok (.iinc 7 (-16), 3) := by decide +kernel
theorem d_tell_129 : decode c_M_tell 129 = .ok (.goto (-22), 3) := by decide +kernel
theorem d_tell_132 : decode c_M_tell 132 = .ok (.aload_n 0, 1) := by decide +kernel
theorem d_tell_133 : decode c_M_tell 133 = .ok (.iload_n 1, 1) := by decide +kernel
theorem d_tell_134 : decode c_M_tell 134 = .ok (.iload 4, 2) := by decide +kernel
theorem d_tell_136 : decode c_M_tell 136 = .ok (.iconst 1, 1) := by decide +kernel
theorem d_tell_137 : decode c_M_tell 137 = .ok (.iadd, 1) := by decide +kernel
theorem d_tell_138 : decode c_M_tell 138 = .ok (.bipush 16, 2) := by decide +kernel
theorem d_tell_140 : decode c_M_tell 140 = .ok (.iload 7, 2) := by decide +kernel
theorem d_tell_142 : decode c_M_tell 142 = .ok (.imul, 1) := by decide +kernel
theorem d_tell_143 : decode c_M_tell 143 = .ok (.iload 9, 2) := by decide +kernel
theorem d_tell_145 : decode c_M_tell 145 = .ok (.invokestatic 214, 3) := by decide +kernel
theorem d_tell_148 : decode c_M_tell 148 = .ok (.iadd, 1) := by decide +kernel
theorem d_tell_149 : decode c_M_tell 149 = .ok (.invokevirtual 217, 3) := by decide +kernel
theorem d_tell_152 : decode c_M_tell 152 = .ok (.aload_n 0, 1) := by decide +kernel
theorem d_tell_153 : decode c_M_tell 153 = .ok (.iload_n 1, 1) := by decide +kernel
theorem d_tell_154 : decode c_M_tell 154 = .ok (.iload 9, 2) := by decide +kernel
theorem d_tell_156 : decode c_M_tell 156 = .ok (.iload 9, 2) := by decide +kernel
theorem d_tell_158 : decode c_M_tell 158 = .ok (.invokestatic 214, 3) := by decide +kernel
theorem d_tell_161 : decode c_M_tell 161 = .ok (.invokevirtual 221, 3) := by decide +kernel
theorem d_tell_164 : decode c_M_tell 164 = .ok (.iconst 0, 1) := by decide +kernel
theorem d_tell_165 : decode c_M_tell 165 = .ok (.istore 7, 2) := by decide +kernel
theorem d_tell_167 : decode c_M_tell 167 = .ok (.iinc 8 1, 3) := by decide +kernel
theorem d_tell_170 : decode c_M_tell 170 = .ok (.goto (-96), 3) := by decide +kernel
theorem d_tell_173 : decode c_M_tell 173 = .ok (.iload 7, 2) := by decide +kernel
theorem d_tell_175 : decode c_M_tell 175 = .ok (.ifCond .le 13, 3) := by decide +kernel
theorem d_tell_178 : decode c_M_tell 178 = .ok (.aload_n 0, 1) := by decide +kernel
theorem d_tell_179 : decode c_M_tell 179 = .ok (.iload_n 1, 1) := by decide +kernel
theorem d_tell_180 : decode c_M_tell 180 = .ok (.iload 4, 2) := by decide +kernel
theorem d_tell_182 : decode c_M_tell 182 = .ok (.iconst 1, 1) := by decide +kernel
theorem d_tell_183 : decode c_M_tell 183 = .ok (.iadd, 1) := by decide +kernel
theorem d_tell_184 : decode c_M_tell 184 = .ok (.iconst 0, 1) := by decide +kernel
theorem d_tell_185 : decode c_M_tell 185 = .ok (.invokevirtual 217, 3) := by decide +kernel
theorem d_tell_188 : decode c_M_tell 188 = .ok (.return_, 1) := by decide +kernel
