theorem d_units_0 : decode c_M_units 0 = .ok (.aload_n 0, 1) := by decide +kernel
theorem d_units_1 : decode c_M_units 1 = .ok (.getfield 47, 3) := by decide +kernel
theorem d_units_4 : decode c_M_units 4 = .ok (.iconst 0, 1) := by decide +kernel
theorem d_units_5 : decode c_M_units 5 = .ok (.iaload, 1) := by decide +kernel
theorem d_units_6 : decode c_M_units 6 = .ok (.iconst 1, 1) := by decide +kernel
theorem d_units_7 : decode c_M_units 7 = .ok (.if_icmp .ne 7, 3) := by decide +kernel
theorem d_units_10 : decode c_M_units 10 = .ok (.iconst 1, 1) := by decide +kernel
theorem d_units_11 : decode c_M_units 11 = .ok (.goto 4, 3) := by decide +kernel
theorem d_units_14 : decode c_M_units 14 = .ok (.iconst 0, 1) := by decide +kernel
theorem d_units_15 : decode c_M_units 15 = .ok (.istore_n 3, 1) := by decide +kernel
theorem d_units_16 : decode c_M_units 16 = .ok (.aload_n 0, 1) := by decide +kernel
theorem d_units_17 : decode c_M_units 17 = .ok (.iconst 0, 1) := by decide +kernel
theorem d_units_18 : decode c_M_units 18 = .ok (.iconst 1, 1) := by decide +kernel
theorem d_units_19 : decode c_M_units 19 = .ok (.invokevirtual 173, 3) := by decide +kernel
theorem d_units_22 : decode c_M_units 22 = .ok (.istore 4, 2) := by decide +kernel
theorem d_units_24 : decode c_M_units 24 = .ok (.aload_n 0, 1) := by decide +kernel
theorem d_units_25 : decode c_M_units 25 = .ok (.iconst 0, 1) := by decide +kernel
theorem d_units_26 : decode c_M_units 26 = .ok (.iconst 0, 1) := by decide +kernel
theorem d_units_27 : decode c_M_units 27 = .ok (.invokevirtual 173, 3) := by decide +kernel
theorem d_units_30 : decode c_M_units 30 = .ok (.istore 5, 2) := by decide +kernel
theorem d_units_32 : decode c_M_units 32 = .ok (.iload_n 3, 1) := by decide +kernel
theorem d_units_33 : decode c_M_units 33 = .ok (.ifCond .eq 17, 3) := by decide +kernel
theorem d_units_36 : decode c_M_units 36 = .ok (.aload_n 0, 1) := by decide +kernel
theorem d_units_37 : decode c_M_units 37 = .ok (.iconst 0, 1) := by decide +kernel
theorem d_units_38 : decode c_M_units 38 = .ok (.iconst 0, 1) := by decide +kernel
theorem d_units_39 : decode c_M_units 39 = .ok (.invokevirtual 184, 3) := by decide +kernel
theorem d_units_42 : decode c_M_units 42 = .ok (.bipush 8, 2) := by decide +kernel
theorem d_units_44 : decode c_M_units 44 = .ok (.invokestatic 177, 3) := by decide +kernel
theorem d_units_47 : decode c_M_units 47 = .ok (.goto 15, 3) := by decide +kernel
theorem d_units_50 : decode c_M_units 50 = .ok (.aload_n 0, 1) := by decide +kernel
theorem d_units_51 : decode c_M_units 51 = .ok (.getfield 7, 3) := by decide +kernel
theorem d_units_54 : decode c_M_units 54 = .ok (.bipush 8, 2) := by decide +kernel
theorem d_units_56 : decode c_M_units 56 = .ok (.iload 4, 2) := by decide +kernel
theorem d_units_58 : decode c_M_units 58 = .ok (.imul, 1) := by decide +kernel
theorem d_units_59 : decode c_M_units 59 = .ok (.invokestatic 177, 3) := by decide +kernel
theorem d_units_62 : decode c_M_units 62 = .ok (.istore 6, 2) := by decide +kernel
theorem d_units_64 : decode c_M_units 64 = .ok (.iload_n 3, 1) := by decide +kernel
theorem d_units_65 : decode c_M_units 65 = .ok (.ifCond .eq 17, 3) := by decide +kernel
theorem d_units_68 : decode c_M_units 68 = .ok (.aload_n 0, 1) := by decide +kernel
theorem d_units_69 : decode c_M_units 69 = .ok (.iconst 0, 1) := by decide +kernel
theorem d_units_70 : decode c_M_units 70 = .ok (.iconst 0, 1) := by decide +kernel
theorem d_units_71 : decode c_M_units 71 = .ok (.invokevirtual 181, 3) := by decide +kernel
theorem d_units_74 : decode c_M_units 74 = .ok (.bipush 8, 2) := by decide +kernel
theorem d_units_76 : decode c_M_units 76 = .ok (.invokestatic 177, 3) := by decide +kernel
theorem d_units_79 : decode c_M_units 79 = .ok (.goto 15, 3) := by decide +kernel
theorem d_units_82 : decode c_M_units 82 = .ok (.aload_n 0, 1) := by decide +kernel
theorem d_units_83 : decode c_M_units 83 = .ok (.getfield 13, 3) := by decide +kernel
theorem d_units_86 : decode c_M_units 86 = .ok (.bipush 8, 2) := by decide +kernel
theorem d_units_88 : decode c_M_units 88 = .ok (.iload 5, 2) := by decide +kernel
theorem d_units_90 : decode c_M_units 90 = .ok (.imul, 1) := by decide +kernel
theorem d_units_91 : decode c_M_units 91 = .ok (.invokestatic 177, 3) := by decide +kernel
theorem d_units_94 : decode c_M_units 94 = .ok (.istore 7, 2) := by decide +kernel
theorem d_units_96 : decode c_M_units 96 = .ok (.iconst 0, 1) := by decide +kernel
theorem d_units_97 : decode c_M_units 97 = .ok (.istore 8, 2) := by decide +kernel
theorem d_units_99 : decode c_M_units 99 = .ok (.iload 8, 2) := by decide +kernel
theorem d_units_101 : decode c_M_units 101 = .ok (.iconst 3, 1) := by decide +kernel
theorem d_units_102 : decode c_M_units 102 = .ok (.if_icmp .ge 17, 3) := by decide +kernel
theorem d_units_105 : decode c_M_units 105 = .ok (.aload_n 0, 1) := by decide +kernel
theorem d_units_106 : decode c_M_units 106 = .ok (.getfield 139, 3) := by decide +kernel
theorem d_units_109 : decode c_M_units 109 = .ok (.iload 8, 2) := by decide +kernel
theorem d_units_111 : decode c_M_units 111 = .ok (.iconst 0, 1) := by decide +kernel
theorem d_units_112 : decode c_M_units 112 = .ok (.iastore, 1) := by decide +kernel
theorem d_units_113 : decode c_M_units 113 = .ok (.iinc 8 1, 3) := by decide +kernel
theorem d_units_116 : decode c_M_units 116 = .ok (.goto (-17), 3) := by decide +kernel
theorem d_units_119 : decode c_M_units 119 = .ok (.iconst 0, 1) := by decide +kernel
theorem d_units_120 : decode c_M_units 120 = .ok (.istore 8, 2) := by decide +kernel
theorem d_units_122 : decode c_M_units 122 = .ok (.iload 8, 2) := by decide +kernel
theorem d_units_124 : decode c_M_units 124 = .ok (.iload 6, 2) := by decide +kernel
theorem d_units_126 : decode c_M_units 126 = .ok (.iload 7, 2) := by decide +kernel
theorem d_units_128 : decode c_M_units 128 = .ok (.imul, 1) := by decide +kernel
theorem d_units_129 : decode c_M_units 129 = .ok (.if_icmp .ge 206, 3) := by decide +kernel
theorem d_units_132 : decode c_M_units 132 = .ok (.iload_n 2, 1) := by decide +kernel
theorem d_units_133 : decode c_M_units 133 = .ok (.ifCond .le 63, 3) := by decide +kernel
theorem d_units_136 : decode c_M_units 136 = .ok (.iload 8, 2) := by decide +kernel
theorem d_units_138 : decode c_M_units 138 = .ok (.ifCond .le 58, 3) := by decide +kernel
theorem d_units_141 : decode c_M_units 141 = .ok (.iload 8, 2) := by decide +kernel
theorem d_units_143 : decode c_M_units 143 = .ok (.iload_n 2, 1) := by decide +kernel
theorem d_units_144 : decode c_M_units 144 = .ok (.irem, 1) := by decide +kernel
theorem d_units_145 : decode c_M_units 145 = .ok (.ifCond .ne 51, 3) := by decide +kernel
theorem d_units_148 : decode c_M_units 148 = .ok (.iload_n 1, 1) := by decide +kernel
theorem d_units_149 : decode c_M_units 149 = .ok (.ifCond .ne 24, 3) := by decide +kernel
theorem d_units_152 : decode c_M_units 152 = .ok (.aload_n 0, 1) := by decide +kernel
theorem d_units_153 : decode c_M_units 153 = .ok (.invokevirtual 224, 3) := by decide +kernel
theorem d_units_156 : decode c_M_units 156 = .ok (.aload_n 0, 1) := by decide +kernel
theorem d_units_157 : decode c_M_units 157 = .ok (.sipush 208, 3) := by decide +kernel
theorem d_units_160 : decode c_M_units 160 = .ok (.iload 8, 2) := by decide +kernel
theorem d_units_162 : decode c_M_units 162 = .ok (.iload_n 2, 1) := by decide +kernel
theorem d_units_163 : decode c_M_units 163 = .ok (.idiv, 1) := by decide +kernel
theorem d_units_164 : decode c_M_units 164 = .ok (.iconst 1, 1) := by decide +kernel
theorem d_units_165 : decode c_M_units 165 = .ok (.isub, 1) := by decide +kernel
theorem d_units_166 : decode c_M_units 166 = .ok (.bipush 8, 2) := by decide +kernel
theorem d_units_168 : decode c_M_units 168 = .ok (.irem, 1) := by decide +kernel
theorem d_units_169 : decode c_M_units 169 = .ok (.iadd, 1) := by decide +kernel
theorem d_units_170 : decode c_M_units 170 = .ok (.invokevirtual 227, 3) := by decide +kernel
theorem d_units_173 : decode c_M_units 173 = .ok (.iconst 0, 1) := by decide +kernel
theorem d_units_174 : decode c_M_units 174 = .ok (.istore 9, 2) := by decide +kernel
theorem d_units_176 : decode c_M_units 176 = .ok (.iload 9, 2) := by decide +kernel
theorem d_units_178 : decode c_M_units 178 = .ok (.iconst 3, 1) := by decide +kernel
theorem d_units_179 : decode c_M_units 179 = .ok (.if_icmp .ge 17, 3) := by decide +kernel
theorem d_units_182 : decode c_M_units 182 = .ok (.aload_n 0, 1) := by decide +kernel
theorem d_units_183 : decode c_M_units 183 = .ok (.getfield 139, 3) := by decide +kernel
theorem d_units_186 : decode c_M_units 186 = .ok (.iload 9, 2) := by decide +kernel
theorem d_units_188 : decode c_M_units 188 = .ok (.iconst 0, 1) := by decide +kernel
theorem d_units_189 : decode c_M_units 189 = .ok (.iastore, 1) := by decide +kernel
theorem d_units_190 : decode c_M_units 190 = .ok (.iinc 9 1, 3) := by decide +kernel
theorem d_units_193 : decode c_M_units 193 = .ok (.goto (-17), 3) := by decide +kernel
theorem d_units_196 : decode c_M_units 196 = .ok (.iload 8, 2) := by decide +kernel
theorem d_units_198 : decode c_M_units 198 = .ok (.iload 6, 2) := by decide +kernel
theorem d_units_200 : decode c_M_units 200 = .ok (.irem, 1) := by decide +kernel
theorem d_units_201 : decode c_M_units 201 = .ok (.istore 9, 2) := by decide +kernel
theorem d_units_203 : decode c_M_units 203 = .ok (.iload 8, 2) := by decide +kernel
theorem d_units_205 : decode c_M_units 205 = .ok (.iload 6, 2) := by decide +kernel
theorem d_units_207 : decode c_M_units 207 = .ok (.idiv, 1) := by decide +kernel
theorem d_units_208 : decode c_M_units 208 = .ok (.istore 10, 2) := by decide +kernel
theorem d_units_210 : decode c_M_units 210 = .ok (.iconst 0, 1) := by decide +kernel
theorem d_units_211 : decode c_M_units 211 = .ok (.istore 11, 2) := by decide +kernel
theorem d_units_213 : decode c_M_units 213 = .ok (.iload 11, 2) := by decide +kernel
theorem d_units_215 : decode c_M_units 215 = .ok (.aload_n 0, 1) := by decide +kernel
theorem d_units_216 : decode c_M_units 216 = .ok (.getfield 47, 3) := by decide +kernel
theorem d_units_219 : decode c_M_units 219 = .ok (.iconst 0, 1) := by decide +kernel
theorem d_units_220 : decode c_M_units 220 = .ok (.iaload, 1) := by decide +kernel
theorem d_units_221 : decode c_M_units 221 = .ok (.if_icmp .ge 108, 3) := by decide +kernel
theorem d_units_224 : decode c_M_units 224 = .ok (.iload_n 3, 1) := by decide +kernel
theorem d_units_225 : decode c_M_units 225 = .ok (.ifCond .eq 7, 3) := by decide +kernel
theorem d_units_228 : decode c_M_units 228 = .ok (.iconst 1, 1) := by decide +kernel
theorem d_units_229 : decode c_M_units 229 = .ok (.goto 10, 3) := by decide +kernel
theorem d_units_232 : decode c_M_units 232 = .ok (.aload_n 0, 1) := by decide +kernel
theorem d_units_233 : decode c_M_units 233 = .ok (.getfield 50, 3) := by decide +kernel
theorem d_units_236 : decode c_M_units 236 = .ok (.iload 11, 2) := by decide +kernel
theorem d_units_238 : decode c_M_units 238 = .ok (.iaload, 1) := by decide +kernel
theorem d_units_239 : decode c_M_units 239 = .ok (.istore 12, 2) := by decide +kernel
theorem d_units_241 : decode c_M_units 241 = .ok (.iload_n 3, 1) := by decide +kernel
theorem d_units_242 : decode c_M_units 242 = .ok (.ifCond .eq 7, 3) := by decide +kernel
theorem d_units_245 : decode c_M_units 245 = .ok (.iconst 1, 1) := by decide +kernel
theorem d_units_246 : decode c_M_units 246 = .ok (.goto 10, 3) := by decide +kernel
theorem d_units_249 : decode c_M_units 249 = .ok (.aload_n 0, 1) := by decide +kernel
theorem d_units_250 : decode c_M_units 250 = .ok (.getfield 53, 3) := by decide +kernel
theorem d_units_253 : decode c_M_units 253 = .ok (.iload 11, 2) := by decide +kernel
theorem d_units_255 : decode c_M_units 255 = .ok (.iaload, 1) := by decide +kernel
theorem d_units_256 : decode c_M_units 256 = .ok (.istore 13, 2) := by decide +kernel
theorem d_units_258 : decode c_M_units 258 = .ok (.iconst 0, 1) := by decide +kernel
theorem d_units_259 : decode c_M_units 259 = .ok (.istore 14, 2) := by decide +kernel
theorem d_units_261 : decode c_M_units 261 = .ok (.iload 14, 2) := by decide +kernel
theorem d_units_263 : decode c_M_units 263 = .ok (.iload 12, 2) := by decide +kernel
theorem d_units_265 : decode c_M_units 265 = .ok (.iload 13, 2) := by decide +kernel
theorem d_units_267 : decode c_M_units 267 = .ok (.imul, 1) := by decide +kernel
theorem d_units_268 : decode c_M_units 268 = .ok (.if_icmp .ge 55, 3) := by decide +kernel
theorem d_units_271 : decode c_M_units 271 = .ok (.iload 9, 2) := by decide +kernel
theorem d_units_273 : decode c_M_units 273 = .ok (.iload 12, 2) := by decide +kernel
theorem d_units_275 : decode c_M_units 275 = .ok (.imul, 1) := by decide +kernel
theorem d_units_276 : decode c_M_units 276 = .ok (.iload 14, 2) := by decide +kernel
theorem d_units_278 : decode c_M_units 278 = .ok (.iload 12, 2) := by decide +kernel
theorem d_units_280 : decode c_M_units 280 = .ok (.irem, 1) := by decide +kernel
theorem d_units_281 : decode c_M_units 281 = .ok (.iadd, 1) := by decide +kernel
theorem d_units_282 : decode c_M_units 282 = .ok (.istore 15, 2) := by decide +kernel
theorem d_units_284 : decode c_M_units 284 = .ok (.iload 10, 2) := by decide +kernel
theorem d_units_286 : decode c_M_units 286 = .ok (.iload 13, 2) := by decide +kernel
theorem d_units_288 : decode c_M_units 288 = .ok (.imul, 1) := by decide +kernel
theorem d_units_289 : decode c_M_units 289 = .ok (.iload 14, 2) := by decide +kernel
theorem d_units_291 : decode c_M_units 291 = .ok (.iload 12, 2) := by decide +kernel
theorem d_units_293 : decode c_M_units 293 = .ok (.idiv, 1) := by decide +kernel
theorem d_units_294 : decode c_M_units 294 = .ok (.iadd, 1) := by decide +kernel
theorem d_units_295 : decode c_M_units 295 = .ok (.istore 16, 2) := by decide +kernel
theorem d_units_297 : decode c_M_units 297 = .ok (.aload_n 0, 1) := by decide +kernel
theorem d_units_298 : decode c_M_units 298 = .ok (.iload_n 1, 1) := by decide +kernel
theorem d_units_299 : decode c_M_units 299 = .ok (.iload 11, 2) := by decide +kernel
theorem d_units_301 : decode c_M_units 301 = .ok (.iload 16, 2) := by decide +kernel
theorem d_units_303 : decode c_M_units 303 = .ok (.aload_n 0, 1) := by decide +kernel
theorem d_units_304 : decode c_M_units 304 = .ok (.getfield 56, 3) := by decide +kernel
theorem d_units_307 : decode c_M_units 307 = .ok (.iload 11, 2) := by decide +kernel
theorem d_units_309 : decode c_M_units 309 = .ok (.iaload, 1) := by decide +kernel
theorem d_units_310 : decode c_M_units 310 = .ok (.imul, 1) := by decide +kernel
theorem d_units_311 : decode c_M_units 311 = .ok (.iload 15, 2) := by decide +kernel
theorem d_units_313 : decode c_M_units 313 = .ok (.iadd, 1) := by decide +kernel
theorem d_units_314 : decode c_M_units 314 = .ok (.invokevirtual 230, 3) := by decide +kernel
theorem d_units_317 : decode c_M_units 317 = .ok (.iinc 14 1, 3) := by decide +kernel
theorem d_units_320 : decode c_M_units 320 = .ok (.goto (-59), 3) := by decide +kernel
theorem d_units_323 : decode c_M_units 323 = .ok (.iinc 11 1, 3) := by decide +kernel
theorem d_units_326 : decode c_M_units 326 = .ok (.goto (-113), 3) := by decide +kernel
theorem d_units_329 : decode c_M_units 329 = .ok (.iinc 8 1, 3) := by decide +kernel
theorem d_units_332 : decode c_M_units 332 = .ok (.goto (-210), 3) := by decide +kernel
theorem d_units_335 : decode c_M_units 335 = .ok (.return_, 1) := by decide +kernel
theorem d_putCode_0 : decode c_M_putCode 0 = .ok (.aload_n 0, 1) := by decide +kernel
theorem d_putCode_1 : decode c_M_putCode 1 = .ok (.iload_n 2, 1) := by decide +kernel
theorem d_putCode_2 : decode c_M_putCode 2 = .ok (.invokevirtual 200, 3) := by decide +kernel
theorem d_putCode_5 : decode c_M_putCode 5 = .ok (.iconst 1, 1) := by decide +kernel
theorem d_putCode_6 : decode c_M_putCode 6 = .ok (.istore_n 3, 1) := by decide +kernel
theorem d_putCode_7 : decode c_M_putCode 7 = .ok (.iload_n 3, 1) := by decide +kernel
theorem d_putCode_8 : decode c_M_putCode 8 = .ok (.bipush 16, 2) := by decide +kernel
theorem d_putCode_10 : decode c_M_putCode 10 = .ok (.if_icmp .gt 63, 3) := by decide +kernel
theorem d_putCode_13 : decode c_M_putCode 13 = .ok (.iconst 0, 1) := by decide +kernel
theorem d_putCode_14 : decode c_M_putCode 14 = .ok (.istore 4, 2) := by decide +kernel
theorem d_putCode_16 : decode c_M_putCode 16 = .ok (.iconst 0, 1) := by decide +kernel
theorem d_putCode_17 : decode c_M_putCode 17 = .ok (.istore 5, 2) := by decide +kernel
theorem d_putCode_19 : decode c_M_putCode 19 = .ok (.iload 5, 2) := by decide +kernel
theorem d_putCode_21 : decode c_M_putCode 21 = .ok (.sipush 256, 3) := by decide +kernel
theorem d_putCode_24 : decode c_M_putCode 24 = .ok (.if_icmp .ge 37, 3) := by decide +kernel
theorem d_putCode_27 : decode c_M_putCode 27 = .ok (.aload_n 0, 1) := by decide +kernel
theorem d_putCode_28 : decode c_M_putCode 28 = .ok (.getfield 88, 3) := by decide +kernel
theorem d_putCode_31 : decode c_M_putCode 31 = .ok (.sipush 257, 3) := by decide +kernel
theorem d_putCode_34 : decode c_M_putCode 34 = .ok (.iload_n 1, 1) := by decide +kernel
theorem d_putCode_35 : decode c_M_putCode 35 = .ok (.imul, 1) := by decide +kernel
theorem d_putCode_36 : decode c_M_putCode 36 = .ok (.iload 5, 2) := by decide +kernel
theorem d_putCode_38 : decode c_M_putCode 38 = .ok (.iadd, 1) := by decide +kernel
theorem d_putCode_39 : decode c_M_putCode 39 = .ok (.iaload, 1) := by decide +kernel
theorem d_putCode_40 : decode c_M_putCode 40 = .ok (.iload_n 3, 1) := by decide +kernel
theorem d_putCode_41 : decode c_M_putCode 41 = .ok (.if_icmp .ne 10, 3) := by decide +kernel
theorem d_putCode_44 : decode c_M_putCode 44 = .ok (.iload 4, 2) := by decide +kernel
theorem d_putCode_46 : decode c_M_putCode 46 = .ok (.iconst 1, 1) := by decide +kernel
theorem d_putCode_47 : decode c_M_putCode 47 = .ok (.iadd, 1) := by decide +kernel
theorem d_putCode_48 : decode c_M_putCode 48 = .ok (.goto 5, 3) := by decide +kernel
theorem d_putCode_51 : decode c_M_putCode 51 = .ok (.iload 4, 2) := by decide +kernel
theorem d_putCode_53 : decode c_M_putCode 53 = .ok (.istore 4, 2) := by decide +kernel
theorem d_putCode_55 : decode c_M_putCode 55 = .ok (.iinc 5 1, 3) := by decide +kernel
theorem d_putCode_58 : decode c_M_putCode 58 = .ok (.goto (-39), 3) := by decide +kernel
theorem d_putCode_61 : decode c_M_putCode 61 = .ok (.aload_n 0, 1) := by decide +kernel
theorem d_putCode_62 : decode c_M_putCode 62 = .ok (.iload 4, 2) := by decide +kernel
theorem d_putCode_64 : decode c_M_putCode 64 = .ok (.invokevirtual 200, 3) := by decide +kernel
theorem d_putCode_67 : decode c_M_putCode 67 = .ok (.iinc 3 1, 3) := by decide +kernel
theorem d_putCode_70 : decode c_M_putCode 70 = .ok (.goto (-63), 3) := by decide +kernel
theorem d_putCode_73 : decode c_M_putCode 73 = .ok (.iconst 1, 1) := by decide +kernel
theorem d_putCode_74 : decode c_M_putCode 74 = .ok (.istore_n 3, 1) := by decide +kernel
theorem d_putCode_75 : decode c_M_putCode 75 = .ok (.iload_n 3, 1) := by decide +kernel
theorem d_putCode_76 : decode c_M_putCode 76 = .ok (.bipush 16, 2) := by decide +kernel
theorem d_putCode_78 : decode c_M_putCode 78 = .ok (.if_icmp .gt 49, 3) := by decide +kernel
theorem d_putCode_81 : decode c_M_putCode 81 = .ok (.iconst 0, 1) := by decide +kernel
theorem d_putCode_82 : decode c_M_putCode 82 = .ok (.istore 4, 2) := by decide +kernel
theorem d_putCode_84 : decode c_M_putCode 84 = .ok (.iload 4, 2) := by decide +kernel
theorem d_putCode_86 : decode c_M_putCode 86 = .ok (.sipush 256, 3) := by decide +kernel
theorem d_putCode_89 : decode c_M_putCode 89 = .ok (.if_icmp .ge 32, 3) := by decide +kernel
theorem d_putCode_92 : decode c_M_putCode 92 = .ok (.aload_n 0, 1) := by decide +kernel
theorem d_putCode_93 : decode c_M_putCode 93 = .ok (.getfield 88, 3) := by decide +kernel
theorem d_putCode_96 : decode c_M_putCode 96 = .ok (.sipush 257, 3) := by decide +kernel
theorem d_putCode_99 : decode c_M_putCode 99 = .ok (.iload_n 1, 1) := by decide +kernel
theorem d_putCode_100 : decode c_M_putCode 100 = .ok (.imul, 1) := by decide +kernel
theorem d_putCode_101 : decode c_M_putCode 101 = .ok (.iload 4, 2) := by decide +kernel
theorem d_putCode_103 : decode c_M_putCode 103 = .ok (.iadd, 1) := by decide +kernel
theorem d_putCode_104 : decode c_M_putCode 104 = .ok (.iaload, 1) := by decide +kernel
theorem d_putCode_105 : decode c_M_putCode 105 = .ok (.iload_n 3, 1) := by decide +kernel
theorem d_putCode_106 : decode c_M_putCode 106 = .ok (.if_icmp .ne 9, 3) := by decide +kernel
theorem d_putCode_109 : decode c_M_putCode 109 = .ok (.aload_n 0, 1) := by decide +kernel
theorem d_putCode_110 : decode c_M_putCode 110 = .ok (.iload 4, 2) := by decide +kernel
theorem d_putCode_112 : decode c_M_putCode 112 = .ok (.invokevirtual 200, 3) := by decide +kernel
theorem d_putCode_115 : decode c_M_putCode 115 = .ok (.iinc 4 1, 3) := by decide +kernel
theorem d_putCode_118 : decode c_M_putCode 118 = .ok (.goto (-34), 3) := by decide +kernel
theorem d_putCode_121 : decode c_M_putCode 121 = .ok (.iinc 3 1, 3) := by decide +kernel
theorem d_putCode_124 : decode c_M_putCode 124 = .ok (.goto (-49), 3) := by decide +kernel
theorem d_putCode_127 : decode c_M_putCode 127 = .ok (.return_, 1) := by decide +kernel
theorem d_codeSize_0 : decode c_M_codeSize 0 = .ok (.bipush 17, 2) := by decide +kernel
theorem d_codeSize_2 : decode c_M_codeSize 2 = .ok (.istore_n 2, 1) := by decide +kernel
theorem d_codeSize_3 : decode c_M_codeSize 3 = .ok (.iconst 0, 1) := by decide +kernel
theorem d_codeSize_4 : decode c_M_codeSize 4 = .ok (.istore_n 3, 1) := by decide +kernel
theorem d_codeSize_5 : decode c_M_codeSize 5 = .ok (.iload_n 3, 1) := by decide +kernel
theorem d_codeSize_6 : decode c_M_codeSize 6 = .ok (.sipush 256, 3) := by decide +kernel
theorem d_codeSize_9 : decode c_M_codeSize 9 = .ok (.if_icmp .ge 32, 3) := by decide +kernel
theorem d_codeSize_12 : decode c_M_codeSize 12 = .ok (.aload_n 0, 1) := by decide +kernel
theorem d_codeSize_13 : decode c_M_codeSize 13 = .ok (.getfield 88, 3) := by decide +kernel
theorem d_codeSize_16 : decode c_M_codeSize 16 = .ok (.sipush 257, 3) := by decide +kernel
theorem d_codeSize_19 : decode c_M_codeSize 19 = .ok (.iload_n 1, 1) := by decide +kernel
theorem d_codeSize_20 : decode c_M_codeSize 20 = .ok (.imul, 1) := by decide +kernel
theorem d_codeSize_21 : decode c_M_codeSize 21 = .ok (.iload_n 3, 1) := by decide +kernel
theorem d_codeSize_22 : decode c_M_codeSize 22 = .ok (.iadd, 1) := by decide +kernel
theorem d_codeSize_23 : decode c_M_codeSize 23 = .ok (.iaload, 1) := by decide +kernel
theorem d_codeSize_24 : decode c_M_codeSize 24 = .ok (.ifCond .le 9, 3) := by decide +kernel
theorem d_codeSize_27 : decode c_M_codeSize 27 = .ok (.iload_n 2, 1) := by decide +kernel
theorem d_codeSize_28 : decode c_M_codeSize 28 = .ok (.iconst 1, 1) := by decide +kernel
theorem d_codeSize_29 : decode c_M_codeSize 29 = .ok (.iadd, 1) := by decide +kernel
theorem d_codeSize_30 : decode c_M_codeSize 30 = .ok (.goto 4, 3) := by decide +kernel
theorem d_codeSize_33 : decode c_M_codeSize 33 = .ok (.iload_n 2, 1) := by decide +kernel
theorem d_codeSize_34 : decode c_M_codeSize 34 = .ok (.istore_n 2, 1) := by decide +kernel
theorem d_codeSize_35 : decode c_M_codeSize 35 = .ok (.iinc 3 1, 3) := by decide +kernel
theorem d_codeSize_38 : decode c_M_codeSize 38 = .ok (.goto (-33), 3) := by decide +kernel
theorem d_codeSize_41 : decode c_M_codeSize 41 = .ok (.iload_n 2, 1) := by decide +kernel
theorem d_codeSize_42 : decode c_M_codeSize 42 = .ok (.ireturn, 1) := by decide +kernel
theorem d_putSections_0 : decode c_M_putSections 0 = .ok (.aload_n 0, 1) := by decide +kernel
theorem d_putSections_1 : decode c_M_putSections 1 = .ok (.getfield 47, 3) := by decide +kernel
theorem d_putSections_4 : decode c_M_putSections 4 = .ok (.iconst 0, 1) := by decide +kernel
theorem d_putSections_5 : decode c_M_putSections 5 = .ok (.iaload, 1) := by decide +kernel
theorem d_putSections_6 : decode c_M_putSections 6 = .ok (.istore_n 2, 1) := by decide +kernel
theorem d_putSections_7 : decode c_M_putSections 7 = .ok (.iload_n 2, 1) := by decide +kernel
theorem d_putSections_8 : decode c_M_putSections 8 = .ok (.iconst 1, 1) := by decide +kernel
theorem d_putSections_9 : decode c_M_putSections 9 = .ok (.if_icmp .ne 7, 3) := by decide +kernel
theorem d_putSections_12 : decode c_M_putSections 12 = .ok (.iconst 1, 1) := by decide +kernel
theorem d_putSections_13 : decode c_M_putSections 13 = .ok (.goto 4, 3) := by decide +kernel
theorem d_putSections_16 : decode c_M_putSections 16 = .ok (.iconst 2, 1) := by decide +kernel
theorem d_putSections_17 : decode c_M_putSections 17 = .ok (.istore_n 3, 1) := by decide +kernel
theorem d_putSections_18 : decode c_M_putSections 18 = .ok (.aload_n 0, 1) := by decide +kernel
theorem d_putSections_19 : decode c_M_putSections 19 = .ok (.sipush 219, 3) := by decide +kernel
theorem d_putSections_22 : decode c_M_putSections 22 = .ok (.invokevirtual 227, 3) := by decide +kernel
theorem d_putSections_25 : decode c_M_putSections 25 = .ok (.aload_n 0, 1) := by decide +kernel
theorem d_putSections_26 : decode c_M_putSections 26 = .ok (.iconst 2, 1) := by decide +kernel
theorem d_putSections_27 : decode c_M_putSections 27 = .ok (.bipush 65, 2) := by decide +kernel
theorem d_putSections_29 : decode c_M_putSections 29 = .ok (.iload_n 3, 1) := by decide +kernel
theorem d_putSections_30 : decode c_M_putSections 30 = .ok (.imul, 1) := by decide +kernel
theorem d_putSections_31 : decode c_M_putSections 31 = .ok (.iadd, 1) := by decide +kernel
theorem d_putSections_32 : decode c_M_putSections 32 = .ok (.invokevirtual 233, 3) := by decide +kernel
theorem d_putSections_35 : decode c_M_putSections 35 = .ok (.iconst 0, 1) := by decide +kernel
theorem d_putSections_36 : decode c_M_putSections 36 = .ok (.istore 4, 2) := by decide +kernel
theorem d_putSections_38 : decode c_M_putSections 38 = .ok (.iload 4, 2) := by decide +kernel
theorem d_putSections_40 : decode c_M_putSections 40 = .ok (.iload_n 3, 1) := by decide +kernel
theorem d_putSections_41 : decode c_M_putSections 41 = .ok (.if_icmp .ge 53, 3) := by decide +kernel
theorem d_putSections_44 : decode c_M_putSections 44 = .ok (.aload_n 0, 1) := by decide +kernel
theorem d_putSections_45 : decode c_M_putSections 45 = .ok (.iload 4, 2) := by decide +kernel
theorem d_putSections_47 : decode c_M_putSections 47 = .ok (.invokevirtual 200, 3) := by decide +kernel
theorem d_putSections_50 : decode c_M_putSections 50 = .ok (.iconst 0, 1) := by decide +kernel
theorem d_putSections_51 : decode c_M_putSections 51 = .ok (.istore 5, 2) := by decide +kernel
theorem d_putSections_53 : decode c_M_putSections 53 = .ok (.iload 5, 2) := by decide +kernel
theorem d_putSections_55 : decode c_M_putSections 55 = .ok (.bipush 64, 2) := by decide +kernel
theorem d_putSections_57 : decode c_M_putSections 57 = .ok (.if_icmp .ge 31, 3) := by decide +kernel
theorem d_putSections_60 : decode c_M_putSections 60 = .ok (.aload_n 0, 1) := by decide +kernel
theorem d_putSections_61 : decode c_M_putSections 61 = .ok (.aload_n 0, 1) := by decide +kernel
theorem d_putSections_62 : decode c_M_putSections 62 = .ok (.getfield 23, 3) := by decide +kernel
theorem d_putSections_65 : decode c_M_putSections 65 = .ok (.bipush 64, 2) := by decide +kernel
theorem d_putSections_67 : decode c_M_putSections 67 = .ok (.iload 4, 2) := by decide +kernel
theorem d_putSections_69 : decode c_M_putSections 69 = .ok (.imul, 1) := by decide +kernel
theorem d_putSections_70 : decode c_M_putSections 70 = .ok (.aload_n 0, 1) := by decide +kernel
theorem d_putSections_71 : decode c_M_putSections 71 = .ok (.getfield 72, 3) := by decide +kernel
theorem d_putSections_74 : decode c_M_putSections 74 = .ok (.iload 5, 2) := by decide +kernel
theorem d_putSections_76 : decode c_M_putSections 76 = .ok (.iaload, 1) := by decide +kernel
theorem d_putSections_77 : decode c_M_putSections 77 = .ok (.iadd, 1) := by decide +kernel
theorem d_putSections_78 : decode c_M_putSections 78 = .ok (.iaload, 1) := by decide +kernel
theorem d_putSections_79 : decode c_M_putSections 79 = .ok (.invokevirtual 200, 3) := by decide +kernel
theorem d_putSections_82 : decode c_M_putSections 82 = .ok (.iinc 5 1, 3) := by decide +kernel
theorem d_putSections_85 : decode c_M_putSections 85 = .ok (.goto (-32), 3) := by decide +kernel
theorem d_putSections_88 : decode c_M_putSections 88 = .ok (.iinc 4 1, 3) := by decide +kernel
theorem d_putSections_91 : decode c_M_putSections 91 = .ok (.goto (-53), 3) := by decide +kernel
theorem d_putSections_94 : decode c_M_putSections 94 = .ok (.aload_n 0, 1) := by decide +kernel
theorem d_putSections_95 : decode c_M_putSections 95 = .ok (.sipush 192, 3) := by decide +kernel
theorem d_putSections_98 : decode c_M_putSections 98 = .ok (.invokevirtual 227, 3) := by decide +kernel
theorem d_putSections_101 : decode c_M_putSections 101 = .ok (.aload_n 0, 1) := by decide +kernel
theorem d_putSections_102 : decode c_M_putSections 102 = .ok (.bipush 8, 2) := by decide +kernel
theorem d_putSections_104 : decode c_M_putSections 104 = .ok (.iconst 3, 1) := by decide +kernel
theorem d_putSections_105 : decode c_M_putSections 105 = .ok (.iload_n 2, 1) := by decide +kernel
theorem d_putSections_106 : decode c_M_putSections 106 = .ok (.imul, 1) := by decide +kernel
theorem d_putSections_107 : decode c_M_putSections 107 = .ok (.iadd, 1) := by decide +kernel
theorem d_putSections_108 : decode c_M_putSections 108 = .ok (.invokevirtual 233, 3) := by decide +kernel
theorem d_putSections_111 : decode c_M_putSections 111 = .ok (.aload_n 0, 1) := by decide +kernel
theorem d_putSections_112 : decode c_M_putSections 112 = .ok (.bipush 8, 2) := by decide +kernel
theorem d_putSections_114 : decode c_M_putSections 114 = .ok (.invokevirtual 200, 3) := by decide +kernel
theorem d_putSections_117 : decode c_M_putSections 117 = .ok (.aload_n 0, 1) := by decide +kernel
theorem d_putSections_118 : decode c_M_putSections 118 = .ok (.aload_n 0, 1) := by decide +kernel
theorem d_putSections_119 : decode c_M_putSections 119 = .ok (.getfield 13, 3) := by decide +kernel
theorem d_putSections_122 : decode c_M_putSections 122 = .ok (.invokevirtual 233, 3) := by decide +kernel
theorem d_putSections_125 : decode c_M_putSections 125 = .ok (.aload_n 0, 1) := by decide +kernel
theorem d_putSections_126 : decode c_M_putSections 126 = .ok (.aload_n 0, 1) := by decide +kernel
theorem d_putSections_127 : decode c_M_putSections 127 = .ok (.getfield 7, 3) := by decide +kernel
theorem d_putSections_130 : decode c_M_putSections 130 = .ok (.invokevirtual 233, 3) := by decide +kernel
theorem d_putSections_133 : decode c_M_putSections 133 = .ok (.aload_n 0, 1) := by decide +kernel
theorem d_putSections_134 : decode c_M_putSections 134 = .ok (.iload_n 2, 1) := by decide +kernel
theorem d_putSections_135 : decode c_M_putSections 135 = .ok (.invokevirtual 200, 3) := by decide +kernel
theorem d_putSections_138 : decode c_M_putSections 138 = .ok (.iconst 0, 1) := by decide +kernel
theorem d_putSections_139 : decode c_M_putSections 139 = .ok (.istore 4, 2) := by decide +kernel
theorem d_putSections_141 : decode c_M_putSections 141 = .ok (.iload 4, 2) := by decide +kernel
theorem d_putSections_143 : decode c_M_putSections 143 = .ok (.iload_n 2, 1) := by decide +kernel
theorem d_putSections_144 : decode c_M_putSections 144 = .ok (.if_icmp .ge 53, 3) := by decide +kernel
theorem d_putSections_147 : decode c_M_putSections 147 = .ok (.aload_n 0, 1) := by decide +kernel
theorem d_putSections_148 : decode c_M_putSections 148 = .ok (.iload 4, 2) := by decide +kernel
theorem d_putSections_150 : decode c_M_putSections 150 = .ok (.iconst 1, 1) := by decide +kernel
theorem d_putSections_151 : decode c_M_putSections 151 = .ok (.iadd, 1) := by decide +kernel
theorem d_putSections_152 : decode c_M_putSections 152 = .ok (.invokevirtual 200, 3) := by decide +kernel
theorem d_putSections_155 : decode c_M_putSections 155 = .ok (.aload_n 0, 1) := by decide +kernel
theorem d_putSections_156 : decode c_M_putSections 156 = .ok (.bipush 16, 2) := by decide +kernel
theorem d_putSections_158 : decode c_M_putSections 158 = .ok (.aload_n 0, 1) := by decide +kernel
theorem d_putSections_159 : decode c_M_putSections 159 = .ok (.getfield 50, 3) := by decide +kernel
theorem d_putSections_162 : decode c_M_putSections 162 = .ok (.iload 4, 2) := by decide +kernel
theorem d_putSections_164 : decode c_M_putSections 164 = .ok (.iaload, 1) := by decide +kernel
theorem d_putSections_165 : decode c_M_putSections 165 = .ok (.imul, 1) := by decide +kernel
theorem d_putSections_166 : decode c_M_putSections 166 = .ok (.aload_n 0, 1) := by decide +kernel
theorem d_putSections_167 : decode c_M_putSections 167 = .ok (.getfield 53, 3) := by decide +kernel
theorem d_putSections_170 : decode c_M_putSections 170 = .ok (.iload 4, 2) := by decide +kernel
theorem d_putSections_172 : decode c_M_putSections 172 = .ok (.iaload, 1) := by decide +kernel
theorem d_putSections_173 : decode c_M_putSections 173 = .ok (.iadd, 1) := by decide +kernel
theorem d_putSections_174 : decode c_M_putSections 174 = .ok (.invokevirtual 200, 3) := by decide +kernel
theorem d_putSections_177 : decode c_M_putSections 177 = .ok (.aload_n 0, 1) := by decide +kernel
theorem d_putSections_178 : decode c_M_putSections 178 = .ok (.iload 4, 2) := by decide +kernel
theorem d_putSections_180 : decode c_M_putSections 180 = .ok (.ifCond .ne 7, 3) := by decide +kernel
theorem d_putSections_183 : decode c_M_putSections 183 = .ok (.iconst 0, 1) := by decide +kernel
theorem d_putSections_184 : decode c_M_putSections 184 = .ok (.goto 4, 3) := by decide +kernel
theorem d_putSections_187 : decode c_M_putSections 187 = .ok (.iconst 1, 1) := by decide +kernel
theorem d_putSections_188 : decode c_M_putSections 188 = .ok (.invokevirtual 200, 3) := by decide +kernel
theorem d_putSections_191 : decode c_M_putSections 191 = .ok (.iinc 4 1, 3) := by decide +kernel
theorem d_putSections_194 : decode c_M_putSections 194 = .ok (.goto (-53), 3) := by decide +kernel
theorem d_putSections_197 : decode c_M_putSections 197 = .ok (.aload_n 0, 1) := by decide +kernel
theorem d_putSections_198 : decode c_M_putSections 198 = .ok (.sipush 196, 3) := by decide +kernel
theorem d_putSections_201 : decode c_M_putSections 201 = .ok (.invokevirtual 227, 3) := by decide +kernel
theorem d_putSections_204 : decode c_M_putSections 204 = .ok (.iconst 2, 1) := by decide +kernel
theorem d_putSections_205 : decode c_M_putSections 205 = .ok (.istore 4, 2) := by decide +kernel
theorem d_putSections_207 : decode c_M_putSections 207 = .ok (.iconst 0, 1) := by decide +kernel
theorem d_putSections_208 : decode c_M_putSections 208 = .ok (.istore 5, 2) := by decide +kernel
theorem d_putSections_210 : decode c_M_putSections 210 = .ok (.iload 5, 2) := by decide +kernel
theorem d_putSections_212 : decode c_M_putSections 212 = .ok (.iconst 2, 1) := by decide +kernel
theorem d_putSections_213 : decode c_M_putSections 213 = .ok (.iload_n 3, 1) := by decide +kernel
theorem d_putSections_214 : decode c_M_putSections 214 = .ok (.imul, 1) := by decide +kernel
theorem d_putSections_215 : decode c_M_putSections 215 = .ok (.if_icmp .ge 20, 3) := by decide +kernel
theorem d_putSections_218 : decode c_M_putSections 218 = .ok (.iload 4, 2) := by decide +kernel
theorem d_putSections_220 : decode c_M_putSections 220 = .ok (.aload_n 0, 1) := by decide +kernel
theorem d_putSections_221 : decode c_M_putSections 221 = .ok (.iload 5, 2) := by decide +kernel
theorem d_putSections_223 : decode c_M_putSections 223 = .ok (.invokevirtual 236, 3) := by decide +kernel
theorem d_putSections_226 : decode c_M_putSections 226 = .ok (.iadd, 1) := by decide +kernel
theorem d_putSections_227 : decode c_M_putSections 227 = .ok (.istore 4, 2) := by decide +kernel
theorem d_putSections_229 : decode c_M_putSections 229 = .ok (.iinc 5 1, 3) := by decide +kernel
theorem d_putSections_232 : decode c_M_putSections 232 = .ok (.goto (-22), 3) := by decide +kernel
theorem d_putSections_235 : decode c_M_putSections 235 = .ok (.aload_n 0, 1) := by decide +kernel
theorem d_putSections_236 : decode c_M_putSections 236 = .ok (.iload 4, 2) := by decide +kernel
theorem d_putSections_238 : decode c_M_putSections 238 = .ok (.invokevirtual 233, 3) := by decide +kernel
theorem d_putSections_241 : decode c_M_putSections 241 = .ok (.iconst 0, 1) := by decide +kernel
theorem d_putSections_242 : decode c_M_putSections 242 = .ok (.istore 5, 2) := by decide +kernel
theorem d_putSections_244 : decode c_M_putSections 244 = .ok (.iload 5, 2) := by decide +kernel
theorem d_putSections_246 : decode c_M_putSections 246 = .ok (.iconst 2, 1) := by decide +kernel
theorem d_putSections_247 : decode c_M_putSections 247 = .ok (.iload_n 3, 1) := by decide +kernel
theorem d_putSections_248 : decode c_M_putSections 248 = .ok (.imul, 1) := by decide +kernel
theorem d_putSections_249 : decode c_M_putSections 249 = .ok (.if_icmp .ge 27, 3) := by decide +kernel
theorem d_putSections_252 : decode c_M_putSections 252 = .ok (.aload_n 0, 1) := by decide +kernel
theorem d_putSections_253 : decode c_M_putSections 253 = .ok (.iload 5, 2) := by decide +kernel
theorem d_putSections_255 : decode c_M_putSections 255 = .ok (.bipush 16, 2) := by decide +kernel
theorem d_putSections_257 : decode c_M_putSections 257 = .ok (.iload 5, 2) := by decide +kernel
theorem d_putSections_259 : decode c_M_putSections 259 = .ok (.iconst 2, 1) := by decide +kernel
theorem d_putSections_260 : decode c_M_putSections 260 = .ok (.irem, 1) := by decide +kernel
theorem d_putSections_261 : decode c_M_putSections 261 = .ok (.imul, 1) := by decide +kernel
theorem d_putSections_262 : decode c_M_putSections 262 = .ok (.iload 5, 2) := by decide +kernel
theorem d_putSections_264 : decode c_M_putSections 264 = .ok (.iconst 2, 1) := by decide +kernel
theorem d_putSections_265 : decode c_M_putSections 265 = .ok (.idiv, 1) := by decide +kernel
theorem d_putSections_266 : decode c_M_putSections 266 = .ok (.iadd, 1) := by decide +kernel
theorem d_putSections_267 : decode c_M_putSections 267 = .ok (.invokevirtual 239, 3) := by decide +kernel
theorem d_putSections_270 : decode c_M_putSections 270 = .ok (.iinc 5 1, 3) := by decide +kernel
theorem d_putSections_273 : decode c_M_putSections 273 = .ok (.goto (-29), 3) := by decide +kernel
theorem d_putSections_276 : decode c_M_putSections 276 = .ok (.iload_n 1, 1) := by decide +kernel
theorem d_putSections_277 : decode c_M_putSections 277 = .ok (.ifCond .le 20, 3) := by decide +kernel
theorem d_putSections_280 : decode c_M_putSections 280 = .ok (.aload_n 0, 1) := by decide +kernel
theorem d_putSections_281 : decode c_M_putSections 281 = .ok (.sipush 221, 3) := by decide +kernel
theorem d_putSections_284 : decode c_M_putSections 284 = .ok (.invokevirtual 227, 3) := by decide +kernel
theorem d_putSections_287 : decode c_M_putSections 287 = .ok (.aload_n 0, 1) := by decide +kernel
theorem d_putSections_288 : decode c_M_putSections 288 = .ok (.iconst 4, 1) := by decide +kernel
theorem d_putSections_289 : decode c_M_putSections 289 = .ok (.invokevirtual 233, 3) := by decide +kernel
theorem d_putSections_292 : decode c_M_putSections 292 = .ok (.aload_n 0, 1) := by decide +kernel
theorem d_putSections_293 : decode c_M_putSections 293 = .ok (.iload_n 1, 1) := by decide +kernel
theorem d_putSections_294 : decode c_M_putSections 294 = .ok (.invokevirtual 233, 3) := by decide +kernel
theorem d_putSections_297 : decode c_M_putSections 297 = .ok (.aload_n 0, 1) := by decide +kernel
theorem d_putSections_298 : decode c_M_putSections 298 = .ok (.sipush 218, 3) := by decide +kernel
theorem d_putSections_301 : decode c_M_putSections 301 = .ok (.invokevirtual 227, 3) := by decide +kernel
theorem d_putSections_304 : decode c_M_putSections 304 = .ok (.aload_n 0, 1) := by decide +kernel
theorem d_putSections_305 : decode c_M_putSections 305 = .ok (.bipush 6, 2) := by decide +kernel
theorem d_putSections_307 : decode c_M_putSections 307 = .ok (.iconst 2, 1) := by decide +kernel
theorem d_putSections_308 : decode c_M_putSections 308 = .ok (.iload_n 2, 1) := by decide +kernel
theorem d_putSections_309 : decode c_M_putSections 309 = .ok (.imul, 1) := by decide +kernel
theorem d_putSections_310 : decode c_M_putSections 310 = .ok (.iadd, 1) := by decide +kernel
theorem d_putSections_311 : decode c_M_putSections 311 = .ok (.invokevirtual 233, 3) := by decide +kernel
theorem d_putSections_314 : decode c_M_putSections 314 = .ok (.aload_n 0, 1) := by decide +kernel
theorem d_putSections_315 : decode c_M_putSections 315 = .ok (.iload_n 2, 1) := by decide +kernel
theorem d_putSections_316 : decode c_M_putSections 316 = .ok (.invokevirtual 200, 3) := by decide +kernel
theorem d_putSections_319 : decode c_M_putSections 319 = .ok (.iconst 0, 1) := by decide +kernel
theorem d_putSections_320 : decode c_M_putSections 320 = .ok (.istore 5, 2) := by decide +kernel
theorem d_putSections_322 : decode c_M_putSections 322 = .ok (.iload 5, 2) := by decide +kernel
theorem d_putSections_324 : decode c_M_putSections 324 = .ok (.iload_n 2, 1) := by decide +kernel
theorem d_putSections_325 : decode c_M_putSections 325 = .ok (.if_icmp .ge 32, 3) := by decide +kernel
theorem d_putSections_328 : decode c_M_putSections 328 = .ok (.aload_n 0, 1) := by decide +kernel
theorem d_putSections_329 : decode c_M_putSections 329 = .ok (.iload 5, 2) := by decide +kernel
theorem d_putSections_331 : decode c_M_putSections 331 = .ok (.iconst 1, 1) := by decide +kernel
theorem d_putSections_332 : decode c_M_putSections 332 = .ok (.iadd, 1) := by decide +kernel
theorem d_putSections_333 : decode c_M_putSections 333 = .ok (.invokevirtual 200, 3) := by decide +kernel
theorem d_putSections_336 : decode c_M_putSections 336 = .ok (.aload_n 0, 1) := by decide +kernel
theorem d_putSections_337 : decode c_M_putSections 337 = .ok (.iload 5, 2) := by decide +kernel
theorem d_putSections_339 : decode c_M_putSections 339 = .ok (.ifCond .ne 7, 3) := by decide +kernel
theorem d_putSections_342 : decode c_M_putSections 342 = .ok (.iconst 0, 1) := by decide +kernel
theorem d_putSections_343 : decode c_M_putSections 343 = .ok (.goto 5, 3) := by decide +kernel
theorem d_putSections_346 : decode c_M_putSections 346 = .ok (.bipush 17, 2) := by decide +kernel
theorem d_putSections_348 : decode c_M_putSections 348 = .ok (.invokevirtual 200, 3) := by decide +kernel
theorem d_putSections_351 : decode c_M_putSections 351 = .ok (.iinc 5 1, 3) := by decide +kernel
theorem d_putSections_354 : decode c_M_putSections 354 = .ok (.goto (-32), 3) := by decide +kernel
theorem d_putSections_357 : decode c_M_putSections 357 = .ok (.aload_n 0, 1) := by decide +kernel
theorem d_putSections_358 : decode c_M_putSections 358 = .ok (.iconst 0, 1) := by decide +kernel
theorem d_putSections_359 : decode c_M_putSections 359 = .ok (.invokevirtual 200, 3) := by decide +kernel
theorem d_putSections_362 : decode c_M_putSections 362 = .ok (.aload_n 0, 1) := by decide +kernel
theorem d_putSections_363 : decode c_M_putSections 363 = .ok (.bipush 63, 2) := by decide +kernel
theorem d_putSections_365 : decode c_M_putSections 365 = .ok (.invokevirtual 200, 3) := by decide +kernel
theorem d_putSections_368 : decode c_M_putSections 368 = .ok (.aload_n 0, 1) := by decide +kernel
theorem d_putSections_369 : decode c_M_putSections 369 = .ok (.iconst 0, 1) := by decide +kernel
theorem d_putSections_370 : decode c_M_putSections 370 = .ok (.invokevirtual 200, 3) := by decide +kernel
theorem d_putSections_373 : decode c_M_putSections 373 = .ok (.return_, 1) := by decide +kernel
theorem d_pack_0 : decode c_M_pack 0 = .ok (.aload_n 0, 1) := by decide +kernel
theorem d_pack_1 : decode c_M_pack 1 = .ok (.iload_n 1, 1) := by decide +kernel
theorem d_pack_2 : decode c_M_pack 2 = .ok (.iconst 1, 1) := by decide +kernel
theorem d_pack_3 : decode c_M_pack 3 = .ok (.if_icmp .lt 28, 3) := by decide +kernel
theorem d_pack_6 : decode c_M_pack 6 = .ok (.iload_n 1, 1) := by decide +kernel
theorem d_pack_7 : decode c_M_pack 7 = .ok (.iconst 2, 1) := by decide +kernel
theorem d_pack_8 : decode c_M_pack 8 = .ok (.if_icmp .gt 23, 3) := by decide +kernel
theorem d_pack_11 : decode c_M_pack 11 = .ok (.iload_n 2, 1) := by decide +kernel
theorem d_pack_12 : decode c_M_pack 12 = .ok (.iconst 1, 1) := by decide +kernel
theorem d_pack_13 : decode c_M_pack 13 = .ok (.if_icmp .lt 18, 3) := by decide +kernel
theorem d_pack_16 : decode c_M_pack 16 = .ok (.iload_n 2, 1) := by decide +kernel
theorem d_pack_17 : decode c_M_pack 17 = .ok (.iconst 2, 1) := by decide +kernel
theorem d_pack_18 : decode c_M_pack 18 = .ok (.if_icmp .gt 13, 3) := by decide +kernel
theorem d_pack_21 : decode c_M_pack 21 = .ok (.iload_n 3, 1) := by decide +kernel
theorem d_pack_22 : decode c_M_pack 22 = .ok (.ifCond .lt 9, 3) := by decide +kernel
theorem d_pack_25 : decode c_M_pack 25 = .ok (.iload_n 3, 1) := by decide +kernel
theorem d_pack_26 : decode c_M_pack 26 = .ok (.ldc 242, 2) := by decide +kernel
theorem d_pack_28 : decode c_M_pack 28 = .ok (.if_icmp .le 7, 3) := by decide +kernel
theorem d_pack_31 : decode c_M_pack 31 = .ok (.iconst 1, 1) := by decide +kernel
theorem d_pack_32 : decode c_M_pack 32 = .ok (.goto 4, 3) := by decide +kernel
theorem d_pack_35 : decode c_M_pack 35 = .ok (.iconst 0, 1) := by decide +kernel
theorem d_pack_36 : decode c_M_pack 36 = .ok (.putfield 146, 3) := by decide +kernel
theorem d_pack_39 : decode c_M_pack 39 = .ok (.aload_n 0, 1) := by decide +kernel
theorem d_pack_40 : decode c_M_pack 40 = .ok (.getfield 146, 3) := by decide +kernel
theorem d_pack_43 : decode c_M_pack 43 = .ok (.ifCond .le 5, 3) := by decide +kernel
theorem d_pack_46 : decode c_M_pack 46 = .ok (.iconst 0, 1) := by decide +kernel
theorem d_pack_47 : decode c_M_pack 47 = .ok (.ireturn, 1) := by decide +kernel
theorem d_pack_48 : decode c_M_pack 48 = .ok (.aload_n 0, 1) := by decide +kernel
theorem d_pack_49 : decode c_M_pack 49 = .ok (.getfield 37, 3) := by decide +kernel
theorem d_pack_52 : decode c_M_pack 52 = .ok (.iconst 0, 1) := by decide +kernel
theorem d_pack_53 : decode c_M_pack 53 = .ok (.iconst 1, 1) := by decide +kernel
theorem d_pack_54 : decode c_M_pack 54 = .ok (.bastore, 1) := by decide +kernel
theorem d_pack_55 : decode c_M_pack 55 = .ok (.aload_n 0, 1) := by decide +kernel
theorem d_pack_56 : decode c_M_pack 56 = .ok (.getfield 41, 3) := by decide +kernel
theorem d_pack_59 : decode c_M_pack 59 = .ok (.iconst 0, 1) := by decide +kernel
theorem d_pack_60 : decode c_M_pack 60 = .ok (.aload_n 0, 1) := by decide +kernel
theorem d_pack_61 : decode c_M_pack 61 = .ok (.getfield 7, 3) := by decide +kernel
theorem d_pack_64 : decode c_M_pack 64 = .ok (.iastore, 1) := by decide +kernel
theorem d_pack_65 : decode c_M_pack 65 = .ok (.aload_n 0, 1) := by decide +kernel
theorem d_pack_66 : decode c_M_pack 66 = .ok (.getfield 44, 3) := by decide +kernel
theorem d_pack_69 : decode c_M_pack 69 = .ok (.iconst 0, 1) := by decide +kernel
theorem d_pack_70 : decode c_M_pack 70 = .ok (.aload_n 0, 1) := by decide +kernel
theorem d_pack_71 : decode c_M_pack 71 = .ok (.getfield 13, 3) := by decide +kernel
theorem d_pack_74 : decode c_M_pack 74 = .ok (.iastore, 1) := by decide +kernel
theorem d_pack_75 : decode c_M_pack 75 = .ok (.aload_n 0, 1) := by decide +kernel
theorem d_pack_76 : decode c_M_pack 76 = .ok (.getfield 47, 3) := by decide +kernel
theorem d_pack_79 : decode c_M_pack 79 = .ok (.iconst 0, 1) := by decide +kernel
theorem d_pack_80 : decode c_M_pack 80 = .ok (.aload_n 0, 1) := by decide +kernel
theorem d_pack_81 : decode c_M_pack 81 = .ok (.getfield 16, 3) := by decide +kernel
theorem d_pack_84 : decode c_M_pack 84 = .ok (.iastore, 1) := by decide +kernel
theorem d_pack_85 : decode c_M_pack 85 = .ok (.iconst 0, 1) := by decide +kernel
theorem d_pack_86 : decode c_M_pack 86 = .ok (.istore 4, 2) := by decide +kernel
theorem d_pack_88 : decode c_M_pack 88 = .ok (.iload 4, 2) := by decide +kernel
theorem d_pack_90 : decode c_M_pack 90 = .ok (.aload_n 0, 1) := by decide +kernel
theorem d_pack_91 : decode c_M_pack 91 = .ok (.getfield 16, 3) := by decide +kernel
theorem d_pack_94 : decode c_M_pack 94 = .ok (.if_icmp .ge 43, 3) := by decide +kernel
theorem d_pack_97 : decode c_M_pack 97 = .ok (.aload_n 0, 1) := by decide +kernel
theorem d_pack_98 : decode c_M_pack 98 = .ok (.getfield 50, 3) := by decide +kernel
theorem d_pack_101 : decode c_M_pack 101 = .ok (.iload 4, 2) := by decide +kernel
theorem d_pack_103 : decode c_M_pack 103 = .ok (.iload 4, 2) := by decide +kernel
theorem d_pack_105 : decode c_M_pack 105 = .ok (.ifCond .ne 7, 3) := by decide +kernel
theorem d_pack_108 : decode c_M_pack 108 = .ok (.iload_n 1, 1) := by decide +kernel
theorem d_pack_109 : decode c_M_pack 109 = .ok (.goto 4, 3) := by decide +kernel
theorem d_pack_112 : decode c_M_pack 112 = .ok (.iconst 1, 1) := by decide +kernel
theorem d_pack_113 : decode c_M_pack 113 = .ok (.iastore, 1) := by decide +kernel
theorem d_pack_114 : decode c_M_pack 114 = .ok (.aload_n 0, 1) := by decide +kernel
theorem d_pack_115 : decode c_M_pack 115 = .ok (.getfield 53, 3) := by decide +kernel
theorem d_pack_118 : decode c_M_pack 118 = .ok (.iload 4, 2) := by decide +kernel
theorem d_pack_120 : decode c_M_pack 120 = .ok (.iload 4, 2) := by decide +kernel
theorem d_pack_122 : decode c_M_pack 122 = .ok (.ifCond .ne 7, 3) := by decide +kernel
theorem d_pack_125 : decode c_M_pack 125 = .ok (.iload_n 2, 1) := by decide +kernel
theorem d_pack_126 : decode c_M_pack 126 = .ok (.goto 4, 3) := by decide +kernel
theorem d_pack_129 : decode c_M_pack 129 = .ok (.iconst 1, 1) := by decide +kernel
theorem d_pack_130 : decode c_M_pack 130 = .ok (.iastore, 1) := by decide +kernel
theorem d_pack_131 : decode c_M_pack 131 = .ok (.iinc 4 1, 3) := by decide +kernel
theorem d_pack_134 : decode c_M_pack 134 = .ok (.goto (-46), 3) := by decide +kernel
theorem d_pack_137 : decode c_M_pack 137 = .ok (.aload_n 0, 1) := by decide +kernel
theorem d_pack_138 : decode c_M_pack 138 = .ok (.iconst 0, 1) := by decide +kernel
theorem d_pack_139 : decode c_M_pack 139 = .ok (.invokevirtual 243, 3) := by decide +kernel
theorem d_pack_142 : decode c_M_pack 142 = .ok (.iconst 0, 1) := by decide +kernel
theorem d_pack_143 : decode c_M_pack 143 = .ok (.istore 4, 2) := by decide +kernel
theorem d_pack_145 : decode c_M_pack 145 = .ok (.iload 4, 2) := by decide +kernel
theorem d_pack_147 : decode c_M_pack 147 = .ok (.aload_n 0, 1) := by decide +kernel
theorem d_pack_148 : decode c_M_pack 148 = .ok (.getfield 16, 3) := by decide +kernel
theorem d_pack_151 : decode c_M_pack 151 = .ok (.if_icmp .ge 121, 3) := by decide +kernel
theorem d_pack_154 : decode c_M_pack 154 = .ok (.aload_n 0, 1) := by decide +kernel
theorem d_pack_155 : decode c_M_pack 155 = .ok (.iload 4, 2) := by decide +kernel
theorem d_pack_157 : decode c_M_pack 157 = .ok (.invokevirtual 246, 3) := by decide +kernel
theorem d_pack_160 : decode c_M_pack 160 = .ok (.aload_n 0, 1) := by decide +kernel
theorem d_pack_161 : decode c_M_pack 161 = .ok (.getfield 16, 3) := by decide +kernel
theorem d_pack_164 : decode c_M_pack 164 = .ok (.iconst 1, 1) := by decide +kernel
theorem d_pack_165 : decode c_M_pack 165 = .ok (.if_icmp .ne 17, 3) := by decide +kernel
theorem d_pack_168 : decode c_M_pack 168 = .ok (.aload_n 0, 1) := by decide +kernel
theorem d_pack_169 : decode c_M_pack 169 = .ok (.iconst 0, 1) := by decide +kernel
theorem d_pack_170 : decode c_M_pack 170 = .ok (.iconst 0, 1) := by decide +kernel
theorem d_pack_171 : decode c_M_pack 171 = .ok (.invokevirtual 184, 3) := by decide +kernel
theorem d_pack_174 : decode c_M_pack 174 = .ok (.bipush 8, 2) := by decide +kernel
theorem d_pack_176 : decode c_M_pack 176 = .ok (.invokestatic 177, 3) := by decide +kernel
theorem d_pack_179 : decode c_M_pack 179 = .ok (.goto 10, 3) := by decide +kernel
theorem d_pack_182 : decode c_M_pack 182 = .ok (.aload_n 0, 1) := by decide +kernel
theorem d_pack_183 : decode c_M_pack 183 = .ok (.getfield 56, 3) := by decide +kernel
theorem d_pack_186 : decode c_M_pack 186 = .ok (.iload 4, 2) := by decide +kernel
theorem d_pack_188 : decode c_M_pack 188 = .ok (.iaload, 1) := by decide +kernel
theorem d_pack_189 : decode c_M_pack 189 = .ok (.istore 5, 2) := by decide +kernel
theorem d_pack_191 : decode c_M_pack 191 = .ok (.aload_n 0, 1) := by decide +kernel
theorem d_pack_192 : decode c_M_pack 192 = .ok (.getfield 16, 3) := by decide +kernel
theorem d_pack_195 : decode c_M_pack 195 = .ok (.iconst 1, 1) := by decide +kernel
theorem d_pack_196 : decode c_M_pack 196 = .ok (.if_icmp .ne 17, 3) := by decide +kernel
theorem d_pack_199 : decode c_M_pack 199 = .ok (.aload_n 0, 1) := by decide +kernel
theorem d_pack_200 : decode c_M_pack 200 = .ok (.iconst 0, 1) := by decide +kernel
theorem d_pack_201 : decode c_M_pack 201 = .ok (.iconst 0, 1) := by decide +kernel
theorem d_pack_202 : decode c_M_pack 202 = .ok (.invokevirtual 181, 3) := by decide +kernel
theorem d_pack_205 : decode c_M_pack 205 = .ok (.bipush 8, 2) := by decide +kernel
theorem d_pack_207 : decode c_M_pack 207 = .ok (.invokestatic 177, 3) := by decide +kernel
theorem d_pack_210 : decode c_M_pack 210 = .ok (.goto 10, 3) := by decide +kernel
theorem d_pack_213 : decode c_M_pack 213 = .ok (.aload_n 0, 1) := by decide +kernel
theorem d_pack_214 : decode c_M_pack 214 = .ok (.getfield 59, 3) := by decide +kernel
theorem d_pack_217 : decode c_M_pack 217 = .ok (.iload 4, 2) := by decide +kernel
theorem d_pack_219 : decode c_M_pack 219 = .ok (.iaload, 1) := by decide +kernel
theorem d_pack_220 : decode c_M_pack 220 = .ok (.istore 6, 2) := by decide +kernel
theorem d_pack_222 : decode c_M_pack 222 = .ok (.iconst 0, 1) := by decide +kernel
theorem d_pack_223 : decode c_M_pack 223 = .ok (.istore 7, 2) := by decide +kernel
theorem d_pack_225 : decode c_M_pack 225 = .ok (.iload 7, 2) := by decide +kernel
theorem d_pack_227 : decode c_M_pack 227 = .ok (.iload 5, 2) := by decide +kernel
theorem d_pack_229 : decode c_M_pack 229 = .ok (.iload 6, 2) := by decide +kernel
theorem d_pack_231 : decode c_M_pack 231 = .ok (.imul, 1) := by decide +kernel
theorem d_pack_232 : decode c_M_pack 232 = .ok (.if_icmp .ge 34, 3) := by decide +kernel
theorem d_pack_235 : decode c_M_pack 235 = .ok (.aload_n 0, 1) := by decide +kernel
theorem d_pack_236 : decode c_M_pack 236 = .ok (.iload 4, 2) := by decide +kernel
theorem d_pack_238 : decode c_M_pack 238 = .ok (.iload 7, 2) := by decide +kernel
theorem d_pack_240 : decode c_M_pack 240 = .ok (.iload 5, 2) := by decide +kernel
theorem d_pack_242 : decode c_M_pack 242 = .ok (.idiv, 1) := by decide +kernel
theorem d_pack_243 : decode c_M_pack 243 = .ok (.aload_n 0, 1) := by decide +kernel
theorem d_pack_244 : decode c_M_pack 244 = .ok (.getfield 56, 3) := by decide +kernel
theorem d_pack_247 : decode c_M_pack 247 = .ok (.iload 4, 2) := by decide +kernel
theorem d_pack_249 : decode c_M_pack 249 = .ok (.iaload, 1) := by decide +kernel
theorem d_pack_250 : decode c_M_pack 250 = .ok (.imul, 1) := by decide +kernel
theorem d_pack_251 : decode c_M_pack 251 = .ok (.iload 7, 2) := by decide +kernel
theorem d_pack_253 : decode c_M_pack 253 = .ok (.iload 5, 2) := by decide +kernel
theorem d_pack_255 : decode c_M_pack 255 = .ok (.irem, 1) := by decide +kernel
theorem d_pack_256 : decode c_M_pack 256 = .ok (.iadd, 1) := by decide +kernel
theorem d_pack_257 : decode c_M_pack 257 = .ok (.invokevirtual 249, 3) := by decide +kernel
theorem d_pack_260 : decode c_M_pack 260 = .ok (.iinc 7 1, 3) := by decide +kernel
theorem d_pack_263 : decode c_M_pack 263 = .ok (.goto (-38), 3) := by decide +kernel
theorem d_pack_266 : decode c_M_pack 266 = .ok (.iinc 4 1, 3) := by decide +kernel
theorem d_pack_269 : decode c_M_pack 269 = .ok (.goto (-124), 3) := by decide +kernel
theorem d_pack_272 : decode c_M_pack 272 = .ok (.iconst 0, 1) := by decide +kernel
theorem d_pack_273 : decode c_M_pack 273 = .ok (.istore 4, 2) := by decide +kernel
theorem d_pack_275 : decode c_M_pack 275 = .ok (.iload 4, 2) := by decide +kernel
theorem d_pack_277 : decode c_M_pack 277 = .ok (.sipush 1028, 3) := by decide +kernel
theorem d_pack_280 : decode c_M_pack 280 = .ok (.if_icmp .ge 17, 3) := by decide +kernel
theorem d_pack_283 : decode c_M_pack 283 = .ok (.aload_n 0, 1) := by decide +kernel
theorem d_pack_284 : decode c_M_pack 284 = .ok (.getfield 85, 3) := by decide +kernel
theorem d_pack_287 : decode c_M_pack 287 = .ok (.iload 4, 2) := by decide +kernel
theorem d_pack_289 : decode c_M_pack 289 = .ok (.iconst 0, 1) := by decide +kernel
theorem d_pack_290 : decode c_M_pack 290 = .ok (.iastore, 1) := by decide +kernel
theorem d_pack_291 : decode c_M_pack 291 = .ok (.iinc 4 1, 3) := by decide +kernel
theorem d_pack_294 : decode c_M_pack 294 = .ok (.goto (-19), 3) := by decide +kernel
theorem d_pack_297 : decode c_M_pack 297 = .ok (.aload_n 0, 1) := by decide +kernel
theorem d_pack_298 : decode c_M_pack 298 = .ok (.iconst 1, 1) := by decide +kernel
theorem d_pack_299 : decode c_M_pack 299 = .ok (.iload_n 3, 1) := by decide +kernel
theorem d_pack_300 : decode c_M_pack 300 = .ok (.invokevirtual 252, 3) := by decide +kernel
theorem d_pack_303 : decode c_M_pack 303 = .ok (.iconst 0, 1) := by decide +kernel
theorem d_pack_304 : decode c_M_pack 304 = .ok (.istore 4, 2) := by decide +kernel
theorem d_pack_306 : decode c_M_pack 306 = .ok (.iload 4, 2) := by decide +kernel
theorem d_pack_308 : decode c_M_pack 308 = .ok (.aload_n 0, 1) := by decide +kernel
theorem d_pack_309 : decode c_M_pack 309 = .ok (.getfield 16, 3) := by decide +kernel
theorem d_pack_312 : decode c_M_pack 312 = .ok (.iconst 1, 1) := by decide +kernel
theorem d_pack_313 : decode c_M_pack 313 = .ok (.if_icmp .ne 7, 3) := by decide +kernel
theorem d_pack_316 : decode c_M_pack 316 = .ok (.iconst 2, 1) := by decide +kernel
theorem d_pack_317 : decode c_M_pack 317 = .ok (.goto 4, 3) := by decide +kernel
theorem d_pack_320 : decode c_M_pack 320 = .ok (.iconst 4, 1) := by decide +kernel
theorem d_pack_321 : decode c_M_pack 321 = .ok (.if_icmp .ge 15, 3) := by decide +kernel
theorem d_pack_324 : decode c_M_pack 324 = .ok (.aload_n 0, 1) := by decide +kernel
theorem d_pack_325 : decode c_M_pack 325 = .ok (.iload 4, 2) := by decide +kernel
theorem d_pack_327 : decode c_M_pack 327 = .ok (.invokevirtual 256, 3) := by decide +kernel
theorem d_pack_330 : decode c_M_pack 330 = .ok (.iinc 4 1, 3) := by decide +kernel
theorem d_pack_333 : decode c_M_pack 333 = .ok (.goto (-27), 3) := by decide +kernel
theorem d_pack_336 : decode c_M_pack 336 = .ok (.aload_n 0, 1) := by decide +kernel
theorem d_pack_337 : decode c_M_pack 337 = .ok (.iconst 0, 1) := by decide +kernel
theorem d_pack_338 : decode c_M_pack 338 = .ok (.putfield 197, 3) := by decide +kernel
theorem d_pack_341 : decode c_M_pack 341 = .ok (.aload_n 0, 1) := by decide +kernel
theorem d_pack_342 : decode c_M_pack 342 = .ok (.iconst 0, 1) := by decide +kernel
theorem d_pack_343 : decode c_M_pack 343 = .ok (.putfield 207, 3) := by decide +kernel
theorem d_pack_346 : decode c_M_pack 346 = .ok (.aload_n 0, 1) := by decide +kernel
theorem d_pack_347 : decode c_M_pack 347 = .ok (.iconst 0, 1) := by decide +kernel
theorem d_pack_348 : decode c_M_pack 348 = .ok (.putfield 204, 3) := by decide +kernel
theorem d_pack_351 : decode c_M_pack 351 = .ok (.aload_n 0, 1) := by decide +kernel
theorem d_pack_352 : decode c_M_pack 352 = .ok (.sipush 216, 3) := by decide +kernel
theorem d_pack_355 : decode c_M_pack 355 = .ok (.invokevirtual 227, 3) := by decide +kernel
theorem d_pack_358 : decode c_M_pack 358 = .ok (.aload_n 0, 1) := by decide +kernel
theorem d_pack_359 : decode c_M_pack 359 = .ok (.iload_n 3, 1) := by decide +kernel
theorem d_pack_360 : decode c_M_pack 360 = .ok (.invokevirtual 259, 3) := by decide +kernel
theorem d_pack_363 : decode c_M_pack 363 = .ok (.aload_n 0, 1) := by decide +kernel
theorem d_pack_364 : decode c_M_pack 364 = .ok (.iconst 0, 1) := by decide +kernel
theorem d_pack_365 : decode c_M_pack 365 = .ok (.iload_n 3, 1) := by decide +kernel
theorem d_pack_366 : decode c_M_pack 366 = .ok (.invokevirtual 252, 3) := by decide +kernel
theorem d_pack_369 : decode c_M_pack 369 = .ok (.aload_n 0, 1) := by decide +kernel
theorem d_pack_370 : decode c_M_pack 370 = .ok (.invokevirtual 224, 3) := by decide +kernel
theorem d_pack_373 : decode c_M_pack 373 = .ok (.aload_n 0, 1) := by decide +kernel
theorem d_pack_374 : decode c_M_pack 374 = .ok (.sipush 217, 3) := by decide +kernel
theorem d_pack_377 : decode c_M_pack 377 = .ok (.invokevirtual 227, 3) := by decide +kernel
theorem d_pack_380 : decode c_M_pack 380 = .ok (.aload_n 0, 1) := by decide +kernel
theorem d_pack_381 : decode c_M_pack 381 = .ok (.getfield 197, 3) := by decide +kernel
theorem d_pack_384 : decode c_M_pack 384 = .ok (.ireturn, 1) := by decide +kernel
theorem d_size_0 : decode c_M_size 0 = .ok (.aload_n 0, 1) := by decide +kernel
theorem d_size_1 : decode c_M_size 1 = .ok (.iconst 0, 1) := by decide +kernel
theorem d_size_2 : decode c_M_size 2 = .ok (.putfield 146, 3) := by decide +kernel
theorem d_size_5 : decode c_M_size 5 = .ok (.aload_n 0, 1) := by decide +kernel
theorem d_size_6 : decode c_M_size 6 = .ok (.getfield 197, 3) := by decide +kernel
theorem d_size_9 : decode c_M_size 9 = .ok (.ireturn, 1) := by decide +kernel
