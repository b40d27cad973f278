theorem d_become_0 : decode c_M_become 0 = .ok (.aload_n 0, 1) := by decide +kernel
theorem d_become_1 : decode c_M_become 1 = .ok (.getfield 37, 3) := by decide +kernel
theorem d_become_4 : decode c_M_become 4 = .ok (.iconst 1, 1) := by decide +kernel
theorem d_become_5 : decode c_M_become 5 = .ok (.iconst 1, 1) := by decide +kernel
theorem d_become_6 : decode c_M_become 6 = .ok (.bastore, 1) := by decide +kernel
theorem d_become_7 : decode c_M_become 7 = .ok (.aload_n 0, 1) := by decide +kernel
theorem d_become_8 : decode c_M_become 8 = .ok (.getfield 41, 3) := by decide +kernel
theorem d_become_11 : decode c_M_become 11 = .ok (.iconst 1, 1) := by decide +kernel
theorem d_become_12 : decode c_M_become 12 = .ok (.aload_n 0, 1) := by decide +kernel
theorem d_become_13 : decode c_M_become 13 = .ok (.getfield 41, 3) := by decide +kernel
theorem d_become_16 : decode c_M_become 16 = .ok (.iconst 2, 1) := by decide +kernel
theorem d_become_17 : decode c_M_become 17 = .ok (.iaload, 1) := by decide +kernel
theorem d_become_18 : decode c_M_become 18 = .ok (.iastore, 1) := by decide +kernel
theorem d_become_19 : decode c_M_become 19 = .ok (.aload_n 0, 1) := by decide +kernel
theorem d_become_20 : decode c_M_become 20 = .ok (.getfield 44, 3) := by decide +kernel
theorem d_become_23 : decode c_M_become 23 = .ok (.iconst 1, 1) := by decide +kernel
theorem d_become_24 : decode c_M_become 24 = .ok (.aload_n 0, 1) := by decide +kernel
theorem d_become_25 : decode c_M_become 25 = .ok (.getfield 44, 3) := by decide +kernel
theorem d_become_28 : decode c_M_become 28 = .ok (.iconst 2, 1) := by decide +kernel
theorem d_become_29 : decode c_M_become 29 = .ok (.iaload, 1) := by decide +kernel
theorem d_become_30 : decode c_M_become 30 = .ok (.iastore, 1) := by decide +kernel
theorem d_become_31 : decode c_M_become 31 = .ok (.aload_n 0, 1) := by decide +kernel
theorem d_become_32 : decode c_M_become 32 = .ok (.getfield 47, 3) := by decide +kernel
theorem d_become_35 : decode c_M_become 35 = .ok (.iconst 1, 1) := by decide +kernel
theorem d_become_36 : decode c_M_become 36 = .ok (.aload_n 0, 1) := by decide +kernel
theorem d_become_37 : decode c_M_become 37 = .ok (.getfield 47, 3) := by decide +kernel
theorem d_become_40 : decode c_M_become 40 = .ok (.iconst 2, 1) := by decide +kernel
theorem d_become_41 : decode c_M_become 41 = .ok (.iaload, 1) := by decide +kernel
theorem d_become_42 : decode c_M_become 42 = .ok (.iastore, 1) := by decide +kernel
theorem d_become_43 : decode c_M_become 43 = .ok (.iconst 0, 1) := by decide +kernel
theorem d_become_44 : decode c_M_become 44 = .ok (.istore_n 1, 1) := by decide +kernel
theorem d_become_45 : decode c_M_become 45 = .ok (.iload_n 1, 1) := by decide +kernel
theorem d_become_46 : decode c_M_become 46 = .ok (.aload_n 0, 1) := by decide +kernel
theorem d_become_47 : decode c_M_become 47 = .ok (.getfield 47, 3) := by decide +kernel
theorem d_become_50 : decode c_M_become 50 = .ok (.iconst 2, 1) := by decide +kernel
theorem d_become_51 : decode c_M_become 51 = .ok (.iaload, 1) := by decide +kernel
theorem d_become_52 : decode c_M_become 52 = .ok (.if_icmp .ge 43, 3) := by decide +kernel
theorem d_become_55 : decode c_M_become 55 = .ok (.aload_n 0, 1) := by decide +kernel
theorem d_become_56 : decode c_M_become 56 = .ok (.getfield 50, 3) := by decide +kernel
theorem d_become_59 : decode c_M_become 59 = .ok (.iconst 3, 1) := by decide +kernel
theorem d_become_60 : decode c_M_become 60 = .ok (.iload_n 1, 1) := by decide +kernel
theorem d_become_61 : decode c_M_become 61 = .ok (.iadd, 1) := by decide +kernel
theorem d_become_62 : decode c_M_become 62 = .ok (.aload_n 0, 1) := by decide +kernel
theorem d_become_63 : decode c_M_become 63 = .ok (.getfield 50, 3) := by decide +kernel
theorem d_become_66 : decode c_M_become 66 = .ok (.bipush 6, 2) := by decide +kernel
theorem d_become_68 : decode c_M_become 68 = .ok (.iload_n 1, 1) := by decide +kernel
theorem d_become_69 : decode c_M_become 69 = .ok (.iadd, 1) := by decide +kernel
theorem d_become_70 : decode c_M_become 70 = .ok (.iaload, 1) := by decide +kernel
theorem d_become_71 : decode c_M_become 71 = .ok (.iastore, 1) := by decide +kernel
theorem d_become_72 : decode c_M_become 72 = .ok (.aload_n 0, 1) := by decide +kernel
theorem d_become_73 : decode c_M_become 73 = .ok (.getfield 53, 3) := by decide +kernel
theorem d_become_76 : decode c_M_become 76 = .ok (.iconst 3, 1) := by decide +kernel
theorem d_become_77 : decode c_M_become 77 = .ok (.iload_n 1, 1) := by decide +kernel
theorem d_become_78 : decode c_M_become 78 = .ok (.iadd, 1) := by decide +kernel
theorem d_become_79 : decode c_M_become 79 = .ok (.aload_n 0, 1) := by decide +kernel
theorem d_become_80 : decode c_M_become 80 = .ok (.getfield 53, 3) := by decide +kernel
theorem d_become_83 : decode c_M_become 83 = .ok (.bipush 6, 2) := by decide +kernel
theorem d_become_85 : decode c_M_become 85 = .ok (.iload_n 1, 1) := by decide +kernel
theorem d_become_86 : decode c_M_become 86 = .ok (.iadd, 1) := by decide +kernel
theorem d_become_87 : decode c_M_become 87 = .ok (.iaload, 1) := by decide +kernel
theorem d_become_88 : decode c_M_become 88 = .ok (.iastore, 1) := by decide +kernel
theorem d_become_89 : decode c_M_become 89 = .ok (.iinc 1 1, 3) := by decide +kernel
theorem d_become_92 : decode c_M_become 92 = .ok (.goto (-47), 3) := by decide +kernel
theorem d_become_95 : decode c_M_become 95 = .ok (.aload_n 0, 1) := by decide +kernel
theorem d_become_96 : decode c_M_become 96 = .ok (.iconst 1, 1) := by decide +kernel
theorem d_become_97 : decode c_M_become 97 = .ok (.invokevirtual 243, 3) := by decide +kernel
theorem d_become_100 : decode c_M_become 100 = .ok (.iconst 0, 1) := by decide +kernel
theorem d_become_101 : decode c_M_become 101 = .ok (.istore_n 1, 1) := by decide +kernel
theorem d_become_102 : decode c_M_become 102 = .ok (.iload_n 1, 1) := by decide +kernel
theorem d_become_103 : decode c_M_become 103 = .ok (.aload_n 0, 1) := by decide +kernel
theorem d_become_104 : decode c_M_become 104 = .ok (.getfield 47, 3) := by decide +kernel
theorem d_become_107 : decode c_M_become 107 = .ok (.iconst 1, 1) := by decide +kernel
theorem d_become_108 : decode c_M_become 108 = .ok (.iaload, 1) := by decide +kernel
theorem d_become_109 : decode c_M_become 109 = .ok (.if_icmp .ge 195, 3) := by decide +kernel
theorem d_become_112 : decode c_M_become 112 = .ok (.iconst 0, 1) := by decide +kernel
theorem d_become_113 : decode c_M_become 113 = .ok (.istore_n 2, 1) := by decide +kernel
theorem d_become_114 : decode c_M_become 114 = .ok (.iload_n 2, 1) := by decide +kernel
theorem d_become_115 : decode c_M_become 115 = .ok (.aload_n 0, 1) := by decide +kernel
theorem d_become_116 : decode c_M_become 116 = .ok (.getfield 56, 3) := by decide +kernel
theorem d_become_119 : decode c_M_become 119 = .ok (.iconst 3, 1) := by decide +kernel
theorem d_become_120 : decode c_M_become 120 = .ok (.iload_n 1, 1) := by decide +kernel
theorem d_become_121 : decode c_M_become 121 = .ok (.iadd, 1) := by decide +kernel
theorem d_become_122 : decode c_M_become 122 = .ok (.iaload, 1) := by decide +kernel
theorem d_become_123 : decode c_M_become 123 = .ok (.aload_n 0, 1) := by decide +kernel
theorem d_become_124 : decode c_M_become 124 = .ok (.getfield 59, 3) := by decide +kernel
theorem d_become_127 : decode c_M_become 127 = .ok (.iconst 3, 1) := by decide +kernel
theorem d_become_128 : decode c_M_become 128 = .ok (.iload_n 1, 1) := by decide +kernel
theorem d_become_129 : decode c_M_become 129 = .ok (.iadd, 1) := by decide +kernel
theorem d_become_130 : decode c_M_become 130 = .ok (.iaload, 1) := by decide +kernel
theorem d_become_131 : decode c_M_become 131 = .ok (.imul, 1) := by decide +kernel
theorem d_become_132 : decode c_M_become 132 = .ok (.if_icmp .ge 166, 3) := by decide +kernel
theorem d_become_135 : decode c_M_become 135 = .ok (.iconst 0, 1) := by decide +kernel
theorem d_become_136 : decode c_M_become 136 = .ok (.istore_n 3, 1) := by decide +kernel
theorem d_become_137 : decode c_M_become 137 = .ok (.iload_n 3, 1) := by decide +kernel
theorem d_become_138 : decode c_M_become 138 = .ok (.bipush 64, 2) := by decide +kernel
theorem d_become_140 : decode c_M_become 140 = .ok (.if_icmp .ge 67, 3) := by decide +kernel
theorem d_become_143 : decode c_M_become 143 = .ok (.aload_n 0, 1) := by decide +kernel
theorem d_become_144 : decode c_M_become 144 = .ok (.getfield 63, 3) := by decide +kernel
theorem d_become_147 : decode c_M_become 147 = .ok (.iconst 2, 1) := by decide +kernel
theorem d_become_148 : decode c_M_become 148 = .ok (.iload_n 1, 1) := by decide +kernel
theorem d_become_149 : decode c_M_become 149 = .ok (.iload_n 2, 1) := by decide +kernel
theorem d_become_150 : decode c_M_become 150 = .ok (.iload_n 3, 1) := by decide +kernel
theorem d_become_151 : decode c_M_become 151 = .ok (.invokestatic 193, 3) := by decide +kernel
theorem d_become_154 : decode c_M_become 154 = .ok (.iaload, 1) := by decide +kernel
theorem d_become_155 : decode c_M_become 155 = .ok (.istore 4, 2) := by decide +kernel
theorem d_become_157 : decode c_M_become 157 = .ok (.aload_n 0, 1) := by decide +kernel
theorem d_become_158 : decode c_M_become 158 = .ok (.getfield 63, 3) := by decide +kernel
theorem d_become_161 : decode c_M_become 161 = .ok (.iconst 1, 1) := by decide +kernel
theorem d_become_162 : decode c_M_become 162 = .ok (.iload_n 1, 1) := by decide +kernel
theorem d_become_163 : decode c_M_become 163 = .ok (.iload_n 2, 1) := by decide +kernel
theorem d_become_164 : decode c_M_become 164 = .ok (.iload_n 3, 1) := by decide +kernel
theorem d_become_165 : decode c_M_become 165 = .ok (.invokestatic 193, 3) := by decide +kernel
theorem d_become_168 : decode c_M_become 168 = .ok (.iload 4, 2) := by decide +kernel
theorem d_become_170 : decode c_M_become 170 = .ok (.iastore, 1) := by decide +kernel
theorem d_become_171 : decode c_M_become 171 = .ok (.aload_n 0, 1) := by decide +kernel
theorem d_become_172 : decode c_M_become 172 = .ok (.getfield 82, 3) := by decide +kernel
theorem d_become_175 : decode c_M_become 175 = .ok (.aload_n 0, 1) := by decide +kernel
theorem d_become_176 : decode c_M_become 176 = .ok (.getfield 72, 3) := by decide +kernel
theorem d_become_179 : decode c_M_become 179 = .ok (.iload_n 3, 1) := by decide +kernel
theorem d_become_180 : decode c_M_become 180 = .ok (.iaload, 1) := by decide +kernel
theorem d_become_181 : decode c_M_become 181 = .ok (.iload 4, 2) := by decide +kernel
theorem d_become_183 : decode c_M_become 183 = .ok (.aload_n 0, 1) := by decide +kernel
theorem d_become_184 : decode c_M_become 184 = .ok (.getfield 124, 3) := by decide +kernel
theorem d_become_187 : decode c_M_become 187 = .ok (.bipush 64, 2) := by decide +kernel
theorem d_become_189 : decode c_M_become 189 = .ok (.iload_n 1, 1) := by decide +kernel
theorem d_become_190 : decode c_M_become 190 = .ok (.imul, 1) := by decide +kernel
theorem d_become_191 : decode c_M_become 191 = .ok (.aload_n 0, 1) := by decide +kernel
theorem d_become_192 : decode c_M_become 192 = .ok (.getfield 72, 3) := by decide +kernel
theorem d_become_195 : decode c_M_become 195 = .ok (.iload_n 3, 1) := by decide +kernel
theorem d_become_196 : decode c_M_become 196 = .ok (.iaload, 1) := by decide +kernel
theorem d_become_197 : decode c_M_become 197 = .ok (.iadd, 1) := by decide +kernel
theorem d_become_198 : decode c_M_become 198 = .ok (.iaload, 1) := by decide +kernel
theorem d_become_199 : decode c_M_become 199 = .ok (.imul, 1) := by decide +kernel
theorem d_become_200 : decode c_M_become 200 = .ok (.iastore, 1) := by decide +kernel
theorem d_become_201 : decode c_M_become 201 = .ok (.iinc 3 1, 3) := by decide +kernel
theorem d_become_204 : decode c_M_become 204 = .ok (.goto (-67), 3) := by decide +kernel
theorem d_become_207 : decode c_M_become 207 = .ok (.aload_n 0, 1) := by decide +kernel
theorem d_become_208 : decode c_M_become 208 = .ok (.invokevirtual 374, 3) := by decide +kernel
theorem d_become_211 : decode c_M_become 211 = .ok (.bipush 8, 2) := by decide +kernel
theorem d_become_213 : decode c_M_become 213 = .ok (.iload_n 2, 1) := by decide +kernel
theorem d_become_214 : decode c_M_become 214 = .ok (.aload_n 0, 1) := by decide +kernel
theorem d_become_215 : decode c_M_become 215 = .ok (.getfield 56, 3) := by decide +kernel
theorem d_become_218 : decode c_M_become 218 = .ok (.iconst 3, 1) := by decide +kernel
theorem d_become_219 : decode c_M_become 219 = .ok (.iload_n 1, 1) := by decide +kernel
theorem d_become_220 : decode c_M_become 220 = .ok (.iadd, 1) := by decide +kernel
theorem d_become_221 : decode c_M_become 221 = .ok (.iaload, 1) := by decide +kernel
theorem d_become_222 : decode c_M_become 222 = .ok (.irem, 1) := by decide +kernel
theorem d_become_223 : decode c_M_become 223 = .ok (.imul, 1) := by decide +kernel
theorem d_become_224 : decode c_M_become 224 = .ok (.istore_n 3, 1) := by decide +kernel
theorem d_become_225 : decode c_M_become 225 = .ok (.bipush 8, 2) := by decide +kernel
theorem d_become_227 : decode c_M_become 227 = .ok (.iload_n 2, 1) := by decide +kernel
theorem d_become_228 : decode c_M_become 228 = .ok (.aload_n 0, 1) := by decide +kernel
theorem d_become_229 : decode c_M_become 229 = .ok (.getfield 56, 3) := by decide +kernel
theorem d_become_232 : decode c_M_become 232 = .ok (.iconst 3, 1) := by decide +kernel
theorem d_become_233 : decode c_M_become 233 = .ok (.iload_n 1, 1) := by decide +kernel
theorem d_become_234 : decode c_M_become 234 = .ok (.iadd, 1) := by decide +kernel
theorem d_become_235 : decode c_M_become 235 = .ok (.iaload, 1) := by decide +kernel
theorem d_become_236 : decode c_M_become 236 = .ok (.idiv, 1) := by decide +kernel
theorem d_become_237 : decode c_M_become 237 = .ok (.imul, 1) := by decide +kernel
theorem d_become_238 : decode c_M_become 238 = .ok (.istore 4, 2) := by decide +kernel
theorem d_become_240 : decode c_M_become 240 = .ok (.iconst 0, 1) := by decide +kernel
theorem d_become_241 : decode c_M_become 241 = .ok (.istore 5, 2) := by decide +kernel
theorem d_become_243 : decode c_M_become 243 = .ok (.iload 5, 2) := by decide +kernel
theorem d_become_245 : decode c_M_become 245 = .ok (.bipush 64, 2) := by decide +kernel
theorem d_become_247 : decode c_M_become 247 = .ok (.if_icmp .ge 45, 3) := by decide +kernel
theorem d_become_250 : decode c_M_become 250 = .ok (.aload_n 0, 1) := by decide +kernel
theorem d_become_251 : decode c_M_become 251 = .ok (.getfield 66, 3) := by decide +kernel
theorem d_become_254 : decode c_M_become 254 = .ok (.bipush 64, 2) := by decide +kernel
theorem d_become_256 : decode c_M_become 256 = .ok (.bipush 64, 2) := by decide +kernel
theorem d_become_258 : decode c_M_become 258 = .ok (.iload_n 1, 1) := by decide +kernel
theorem d_become_259 : decode c_M_become 259 = .ok (.imul, 1) := by decide +kernel
theorem d_become_260 : decode c_M_become 260 = .ok (.iload 4, 2) := by decide +kernel
theorem d_become_262 : decode c_M_become 262 = .ok (.iadd, 1) := by decide +kernel
theorem d_become_263 : decode c_M_become 263 = .ok (.iload 5, 2) := by decide +kernel
theorem d_become_265 : decode c_M_become 265 = .ok (.bipush 8, 2) := by decide +kernel
theorem d_become_267 : decode c_M_become 267 = .ok (.idiv, 1) := by decide +kernel
theorem d_become_268 : decode c_M_become 268 = .ok (.iadd, 1) := by decide +kernel
theorem d_become_269 : decode c_M_become 269 = .ok (.imul, 1) := by decide +kernel
theorem d_become_270 : decode c_M_become 270 = .ok (.iload_n 3, 1) := by decide +kernel
theorem d_become_271 : decode c_M_become 271 = .ok (.iadd, 1) := by decide +kernel
theorem d_become_272 : decode c_M_become 272 = .ok (.iload 5, 2) := by decide +kernel
theorem d_become_274 : decode c_M_become 274 = .ok (.bipush 8, 2) := by decide +kernel
theorem d_become_276 : decode c_M_become 276 = .ok (.irem, 1) := by decide +kernel
theorem d_become_277 : decode c_M_become 277 = .ok (.iadd, 1) := by decide +kernel
theorem d_become_278 : decode c_M_become 278 = .ok (.aload_n 0, 1) := by decide +kernel
theorem d_become_279 : decode c_M_become 279 = .ok (.getfield 82, 3) := by decide +kernel
theorem d_become_282 : decode c_M_become 282 = .ok (.iload 5, 2) := by decide +kernel
theorem d_become_284 : decode c_M_become 284 = .ok (.iaload, 1) := by decide +kernel
theorem d_become_285 : decode c_M_become 285 = .ok (.iastore, 1) := by decide +kernel
theorem d_become_286 : decode c_M_become 286 = .ok (.iinc 5 1, 3) := by decide +kernel
theorem d_become_289 : decode c_M_become 289 = .ok (.goto (-46), 3) := by decide +kernel
theorem d_become_292 : decode c_M_become 292 = .ok (.iinc 2 1, 3) := by decide +kernel
theorem d_become_295 : decode c_M_become 295 = .ok (.goto (-181), 3) := by decide +kernel
theorem d_become_298 : decode c_M_become 298 = .ok (.iinc 1 1, 3) := by decide +kernel
theorem d_become_301 : decode c_M_become 301 = .ok (.goto (-199), 3) := by decide +kernel
theorem d_become_304 : decode c_M_become 304 = .ok (.return_, 1) := by decide +kernel
theorem d_unpack_0 : decode c_M_unpack 0 = .ok (.aload_n 0, 1) := by decide +kernel
theorem d_unpack_1 : decode c_M_unpack 1 = .ok (.iconst 0, 1) := by decide +kernel
theorem d_unpack_2 : decode c_M_unpack 2 = .ok (.putfield 146, 3) := by decide +kernel
theorem d_unpack_5 : decode c_M_unpack 5 = .ok (.aload_n 0, 1) := by decide +kernel
theorem d_unpack_6 : decode c_M_unpack 6 = .ok (.invokevirtual 361, 3) := by decide +kernel
theorem d_unpack_9 : decode c_M_unpack 9 = .ok (.aload_n 0, 1) := by decide +kernel
theorem d_unpack_10 : decode c_M_unpack 10 = .ok (.invokevirtual 333, 3) := by decide +kernel
theorem d_unpack_13 : decode c_M_unpack 13 = .ok (.istore_n 1, 1) := by decide +kernel
theorem d_unpack_14 : decode c_M_unpack 14 = .ok (.aload_n 0, 1) := by decide +kernel
theorem d_unpack_15 : decode c_M_unpack 15 = .ok (.getfield 265, 3) := by decide +kernel
theorem d_unpack_18 : decode c_M_unpack 18 = .ok (.ifCond .ne 22, 3) := by decide +kernel
theorem d_unpack_21 : decode c_M_unpack 21 = .ok (.iload_n 1, 1) := by decide +kernel
theorem d_unpack_22 : decode c_M_unpack 22 = .ok (.sipush 216, 3) := by decide +kernel
theorem d_unpack_25 : decode c_M_unpack 25 = .ok (.if_icmp .eq 15, 3) := by decide +kernel
theorem d_unpack_28 : decode c_M_unpack 28 = .ok (.aload_n 0, 1) := by decide +kernel
theorem d_unpack_29 : decode c_M_unpack 29 = .ok (.iconst 3, 1) := by decide +kernel
theorem d_unpack_30 : decode c_M_unpack 30 = .ok (.aload_n 0, 1) := by decide +kernel
theorem d_unpack_31 : decode c_M_unpack 31 = .ok (.getfield 268, 3) := by decide +kernel
theorem d_unpack_34 : decode c_M_unpack 34 = .ok (.iconst 1, 1) := by decide +kernel
theorem d_unpack_35 : decode c_M_unpack 35 = .ok (.isub, 1) := by decide +kernel
theorem d_unpack_36 : decode c_M_unpack 36 = .ok (.invokevirtual 271, 3) := by decide +kernel
theorem d_unpack_39 : decode c_M_unpack 39 = .ok (.istore_n 2, 1) := by decide +kernel
theorem d_unpack_40 : decode c_M_unpack 40 = .ok (.aload_n 0, 1) := by decide +kernel
theorem d_unpack_41 : decode c_M_unpack 41 = .ok (.getfield 265, 3) := by decide +kernel
theorem d_unpack_44 : decode c_M_unpack 44 = .ok (.ifCond .ne 64, 3) := by decide +kernel
theorem d_unpack_47 : decode c_M_unpack 47 = .ok (.iload_n 1, 1) := by decide +kernel
theorem d_unpack_48 : decode c_M_unpack 48 = .ok (.sipush 217, 3) := by decide +kernel
theorem d_unpack_51 : decode c_M_unpack 51 = .ok (.if_icmp .eq 57, 3) := by decide +kernel
theorem d_unpack_54 : decode c_M_unpack 54 = .ok (.aload_n 0, 1) := by decide +kernel
theorem d_unpack_55 : decode c_M_unpack 55 = .ok (.invokevirtual 333, 3) := by decide +kernel
theorem d_unpack_58 : decode c_M_unpack 58 = .ok (.istore_n 1, 1) := by decide +kernel
theorem d_unpack_59 : decode c_M_unpack 59 = .ok (.aload_n 0, 1) := by decide +kernel
theorem d_unpack_60 : decode c_M_unpack 60 = .ok (.getfield 265, 3) := by decide +kernel
theorem d_unpack_63 : decode c_M_unpack 63 = .ok (.ifCond .ne 23, 3) := by decide +kernel
theorem d_unpack_66 : decode c_M_unpack 66 = .ok (.aload_n 0, 1) := by decide +kernel
theorem d_unpack_67 : decode c_M_unpack 67 = .ok (.iload_n 1, 1) := by decide +kernel
theorem d_unpack_68 : decode c_M_unpack 68 = .ok (.invokevirtual 364, 3) := by decide +kernel
theorem d_unpack_71 : decode c_M_unpack 71 = .ok (.ifCond .ne 15, 3) := by decide +kernel
theorem d_unpack_74 : decode c_M_unpack 74 = .ok (.aload_n 0, 1) := by decide +kernel
theorem d_unpack_75 : decode c_M_unpack 75 = .ok (.iconst 3, 1) := by decide +kernel
theorem d_unpack_76 : decode c_M_unpack 76 = .ok (.aload_n 0, 1) := by decide +kernel
theorem d_unpack_77 : decode c_M_unpack 77 = .ok (.getfield 268, 3) := by decide +kernel
theorem d_unpack_80 : decode c_M_unpack 80 = .ok (.iconst 1, 1) := by decide +kernel
theorem d_unpack_81 : decode c_M_unpack 81 = .ok (.isub, 1) := by decide +kernel
theorem d_unpack_82 : decode c_M_unpack 82 = .ok (.invokevirtual 271, 3) := by decide +kernel
theorem d_unpack_85 : decode c_M_unpack 85 = .ok (.istore_n 2, 1) := by decide +kernel
theorem d_unpack_86 : decode c_M_unpack 86 = .ok (.aload_n 0, 1) := by decide +kernel
theorem d_unpack_87 : decode c_M_unpack 87 = .ok (.getfield 265, 3) := by decide +kernel
theorem d_unpack_90 : decode c_M_unpack 90 = .ok (.ifCond .ne (-50), 3) := by decide +kernel
theorem d_unpack_93 : decode c_M_unpack 93 = .ok (.iload_n 1, 1) := by decide +kernel
theorem d_unpack_94 : decode c_M_unpack 94 = .ok (.sipush 217, 3) := by decide +kernel
theorem d_unpack_97 : decode c_M_unpack 97 = .ok (.if_icmp .eq (-57), 3) := by decide +kernel
theorem d_unpack_100 : decode c_M_unpack 100 = .ok (.aload_n 0, 1) := by decide +kernel
theorem d_unpack_101 : decode c_M_unpack 101 = .ok (.iload_n 1, 1) := by decide +kernel
theorem d_unpack_102 : decode c_M_unpack 102 = .ok (.invokevirtual 368, 3) := by decide +kernel
theorem d_unpack_105 : decode c_M_unpack 105 = .ok (.goto (-65), 3) := by decide +kernel
theorem d_unpack_108 : decode c_M_unpack 108 = .ok (.aload_n 0, 1) := by decide +kernel
theorem d_unpack_109 : decode c_M_unpack 109 = .ok (.getfield 265, 3) := by decide +kernel
theorem d_unpack_112 : decode c_M_unpack 112 = .ok (.ifCond .ne 25, 3) := by decide +kernel
theorem d_unpack_115 : decode c_M_unpack 115 = .ok (.aload_n 0, 1) := by decide +kernel
theorem d_unpack_116 : decode c_M_unpack 116 = .ok (.getfield 268, 3) := by decide +kernel
theorem d_unpack_119 : decode c_M_unpack 119 = .ok (.aload_n 0, 1) := by decide +kernel
theorem d_unpack_120 : decode c_M_unpack 120 = .ok (.getfield 262, 3) := by decide +kernel
theorem d_unpack_123 : decode c_M_unpack 123 = .ok (.if_icmp .ge 14, 3) := by decide +kernel
theorem d_unpack_126 : decode c_M_unpack 126 = .ok (.aload_n 0, 1) := by decide +kernel
theorem d_unpack_127 : decode c_M_unpack 127 = .ok (.bipush 8, 2) := by decide +kernel
theorem d_unpack_129 : decode c_M_unpack 129 = .ok (.aload_n 0, 1) := by decide +kernel
theorem d_unpack_130 : decode c_M_unpack 130 = .ok (.getfield 268, 3) := by decide +kernel
theorem d_unpack_133 : decode c_M_unpack 133 = .ok (.invokevirtual 271, 3) := by decide +kernel
theorem d_unpack_136 : decode c_M_unpack 136 = .ok (.istore_n 2, 1) := by decide +kernel
theorem d_unpack_137 : decode c_M_unpack 137 = .ok (.aload_n 0, 1) := by decide +kernel
theorem d_unpack_138 : decode c_M_unpack 138 = .ok (.getfield 265, 3) := by decide +kernel
theorem d_unpack_141 : decode c_M_unpack 141 = .ok (.ifCond .ne 7, 3) := by decide +kernel
theorem d_unpack_144 : decode c_M_unpack 144 = .ok (.aload_n 0, 1) := by decide +kernel
theorem d_unpack_145 : decode c_M_unpack 145 = .ok (.invokevirtual 371, 3) := by decide +kernel
theorem d_unpack_148 : decode c_M_unpack 148 = .ok (.aload_n 0, 1) := by decide +kernel
theorem d_unpack_149 : decode c_M_unpack 149 = .ok (.getfield 265, 3) := by decide +kernel
theorem d_unpack_152 : decode c_M_unpack 152 = .ok (.ireturn, 1) := by decide +kernel
theorem d_place_0 : decode c_M_place 0 = .ok (.aload_n 0, 1) := by decide +kernel
theorem d_place_1 : decode c_M_place 1 = .ok (.iconst 0, 1) := by decide +kernel
theorem d_place_2 : decode c_M_place 2 = .ok (.putfield 146, 3) := by decide +kernel
theorem d_place_5 : decode c_M_place 5 = .ok (.aload_n 0, 1) := by decide +kernel
theorem d_place_6 : decode c_M_place 6 = .ok (.getfield 34, 3) := by decide +kernel
theorem d_place_9 : decode c_M_place 9 = .ok (.ireturn, 1) := by decide +kernel
theorem d_about_0 : decode c_M_about 0 = .ok (.aload_n 0, 1) := by decide +kernel
theorem d_about_1 : decode c_M_about 1 = .ok (.iload_n 1, 1) := by decide +kernel
theorem d_about_2 : decode c_M_about 2 = .ok (.ifCond .lt 8, 3) := by decide +kernel
theorem d_about_5 : decode c_M_about 5 = .ok (.iload_n 1, 1) := by decide +kernel
theorem d_about_6 : decode c_M_about 6 = .ok (.iconst 2, 1) := by decide +kernel
theorem d_about_7 : decode c_M_about 7 = .ok (.if_icmp .le 7, 3) := by decide +kernel
theorem d_about_10 : decode c_M_about 10 = .ok (.iconst 1, 1) := by decide +kernel
theorem d_about_11 : decode c_M_about 11 = .ok (.goto 17, 3) := by decide +kernel
theorem d_about_14 : decode c_M_about 14 = .ok (.aload_n 0, 1) := by decide +kernel
theorem d_about_15 : decode c_M_about 15 = .ok (.getfield 37, 3) := by decide +kernel
theorem d_about_18 : decode c_M_about 18 = .ok (.iconst 1, 1) := by decide +kernel
theorem d_about_19 : decode c_M_about 19 = .ok (.baload, 1) := by decide +kernel
theorem d_about_20 : decode c_M_about 20 = .ok (.ifCond .eq 7, 3) := by decide +kernel
theorem d_about_23 : decode c_M_about 23 = .ok (.iconst 0, 1) := by decide +kernel
theorem d_about_24 : decode c_M_about 24 = .ok (.goto 4, 3) := by decide +kernel
theorem d_about_27 : decode c_M_about 27 = .ok (.iconst 2, 1) := by decide +kernel
theorem d_about_28 : decode c_M_about 28 = .ok (.putfield 146, 3) := by decide +kernel
theorem d_about_31 : decode c_M_about 31 = .ok (.aload_n 0, 1) := by decide +kernel
theorem d_about_32 : decode c_M_about 32 = .ok (.getfield 146, 3) := by decide +kernel
theorem d_about_35 : decode c_M_about 35 = .ok (.ifCond .le 7, 3) := by decide +kernel
theorem d_about_38 : decode c_M_about 38 = .ok (.iconst 0, 1) := by decide +kernel
theorem d_about_39 : decode c_M_about 39 = .ok (.goto 36, 3) := by decide +kernel
theorem d_about_42 : decode c_M_about 42 = .ok (.iload_n 1, 1) := by decide +kernel
theorem d_about_43 : decode c_M_about 43 = .ok (.ifCond .ne 12, 3) := by decide +kernel
theorem d_about_46 : decode c_M_about 46 = .ok (.aload_n 0, 1) := by decide +kernel
theorem d_about_47 : decode c_M_about 47 = .ok (.getfield 41, 3) := by decide +kernel
theorem d_about_50 : decode c_M_about 50 = .ok (.iconst 1, 1) := by decide +kernel
theorem d_about_51 : decode c_M_about 51 = .ok (.iaload, 1) := by decide +kernel
theorem d_about_52 : decode c_M_about 52 = .ok (.goto 23, 3) := by decide +kernel
theorem d_about_55 : decode c_M_about 55 = .ok (.iload_n 1, 1) := by decide +kernel
theorem d_about_56 : decode c_M_about 56 = .ok (.iconst 1, 1) := by decide +kernel
theorem d_about_57 : decode c_M_about 57 = .ok (.if_icmp .ne 12, 3) := by decide +kernel
theorem d_about_60 : decode c_M_about 60 = .ok (.aload_n 0, 1) := by decide +kernel
theorem d_about_61 : decode c_M_about 61 = .ok (.getfield 44, 3) := by decide +kernel
theorem d_about_64 : decode c_M_about 64 = .ok (.iconst 1, 1) := by decide +kernel
theorem d_about_65 : decode c_M_about 65 = .ok (.iaload, 1) := by decide +kernel
theorem d_about_66 : decode c_M_about 66 = .ok (.goto 9, 3) := by decide +kernel
theorem d_about_69 : decode c_M_about 69 = .ok (.aload_n 0, 1) := by decide +kernel
theorem d_about_70 : decode c_M_about 70 = .ok (.getfield 47, 3) := by decide +kernel
theorem d_about_73 : decode c_M_about 73 = .ok (.iconst 1, 1) := by decide +kernel
theorem d_about_74 : decode c_M_about 74 = .ok (.iaload, 1) := by decide +kernel
theorem d_about_75 : decode c_M_about 75 = .ok (.ireturn, 1) := by decide +kernel
theorem d_layerSample_0 : decode c_M_layerSample 0 = .ok (.iload_n 1, 1) := by decide +kernel
theorem d_layerSample_1 : decode c_M_layerSample 1 = .ok (.aload_n 0, 1) := by decide +kernel
theorem d_layerSample_2 : decode c_M_layerSample 2 = .ok (.getfield 50, 3) := by decide +kernel
theorem d_layerSample_5 : decode c_M_layerSample 5 = .ok (.iconst 3, 1) := by decide +kernel
theorem d_layerSample_6 : decode c_M_layerSample 6 = .ok (.iload_n 3, 1) := by decide +kernel
theorem d_layerSample_7 : decode c_M_layerSample 7 = .ok (.iadd, 1) := by decide +kernel
theorem d_layerSample_8 : decode c_M_layerSample 8 = .ok (.iaload, 1) := by decide +kernel
theorem d_layerSample_9 : decode c_M_layerSample 9 = .ok (.imul, 1) := by decide +kernel
theorem d_layerSample_10 : decode c_M_layerSample 10 = .ok (.aload_n 0, 1) := by decide +kernel
theorem d_layerSample_11 : decode c_M_layerSample 11 = .ok (.iconst 1, 1) := by decide +kernel
theorem d_layerSample_12 : decode c_M_layerSample 12 = .ok (.iconst 1, 1) := by decide +kernel
theorem d_layerSample_13 : decode c_M_layerSample 13 = .ok (.invokevirtual 173, 3) := by decide +kernel
theorem d_layerSample_16 : decode c_M_layerSample 16 = .ok (.idiv, 1) := by decide +kernel
theorem d_layerSample_17 : decode c_M_layerSample 17 = .ok (.istore 4, 2) := by decide +kernel
theorem d_layerSample_19 : decode c_M_layerSample 19 = .ok (.iload_n 2, 1) := by decide +kernel
theorem d_layerSample_20 : decode c_M_layerSample 20 = .ok (.aload_n 0, 1) := by decide +kernel
theorem d_layerSample_21 : decode c_M_layerSample 21 = .ok (.getfield 53, 3) := by decide +kernel
theorem d_layerSample_24 : decode c_M_layerSample 24 = .ok (.iconst 3, 1) := by decide +kernel
theorem d_layerSample_25 : decode c_M_layerSample 25 = .ok (.iload_n 3, 1) := by decide +kernel
theorem d_layerSample_26 : decode c_M_layerSample 26 = .ok (.iadd, 1) := by decide +kernel
theorem d_layerSample_27 : decode c_M_layerSample 27 = .ok (.iaload, 1) := by decide +kernel
theorem d_layerSample_28 : decode c_M_layerSample 28 = .ok (.imul, 1) := by decide +kernel
theorem d_layerSample_29 : decode c_M_layerSample 29 = .ok (.aload_n 0, 1) := by decide +kernel
theorem d_layerSample_30 : decode c_M_layerSample 30 = .ok (.iconst 1, 1) := by decide +kernel
theorem d_layerSample_31 : decode c_M_layerSample 31 = .ok (.iconst 0, 1) := by decide +kernel
theorem d_layerSample_32 : decode c_M_layerSample 32 = .ok (.invokevirtual 173, 3) := by decide +kernel
theorem d_layerSample_35 : decode c_M_layerSample 35 = .ok (.idiv, 1) := by decide +kernel
theorem d_layerSample_36 : decode c_M_layerSample 36 = .ok (.istore 5, 2) := by decide +kernel
theorem d_layerSample_38 : decode c_M_layerSample 38 = .ok (.aload_n 0, 1) := by decide +kernel
theorem d_layerSample_39 : decode c_M_layerSample 39 = .ok (.getfield 66, 3) := by decide +kernel
theorem d_layerSample_42 : decode c_M_layerSample 42 = .ok (.bipush 64, 2) := by decide +kernel
theorem d_layerSample_44 : decode c_M_layerSample 44 = .ok (.bipush 64, 2) := by decide +kernel
theorem d_layerSample_46 : decode c_M_layerSample 46 = .ok (.iload_n 3, 1) := by decide +kernel
theorem d_layerSample_47 : decode c_M_layerSample 47 = .ok (.imul, 1) := by decide +kernel
theorem d_layerSample_48 : decode c_M_layerSample 48 = .ok (.iload 5, 2) := by decide +kernel
theorem d_layerSample_50 : decode c_M_layerSample 50 = .ok (.iadd, 1) := by decide +kernel
theorem d_layerSample_51 : decode c_M_layerSample 51 = .ok (.imul, 1) := by decide +kernel
theorem d_layerSample_52 : decode c_M_layerSample 52 = .ok (.iload 4, 2) := by decide +kernel
theorem d_layerSample_54 : decode c_M_layerSample 54 = .ok (.iadd, 1) := by decide +kernel
theorem d_layerSample_55 : decode c_M_layerSample 55 = .ok (.iaload, 1) := by decide +kernel
theorem d_layerSample_56 : decode c_M_layerSample 56 = .ok (.ireturn, 1) := by decide +kernel
theorem d_sampleAt_0 : decode c_M_sampleAt 0 = .ok (.aload_n 0, 1) := by decide +kernel
theorem d_sampleAt_1 : decode c_M_sampleAt 1 = .ok (.iload_n 1, 1) := by decide +kernel
theorem d_sampleAt_2 : decode c_M_sampleAt 2 = .ok (.iload_n 2, 1) := by decide +kernel
theorem d_sampleAt_3 : decode c_M_sampleAt 3 = .ok (.iconst 0, 1) := by decide +kernel
theorem d_sampleAt_4 : decode c_M_sampleAt 4 = .ok (.invokevirtual 377, 3) := by decide +kernel
theorem d_sampleAt_7 : decode c_M_sampleAt 7 = .ok (.istore 4, 2) := by decide +kernel
theorem d_sampleAt_9 : decode c_M_sampleAt 9 = .ok (.aload_n 0, 1) := by decide +kernel
theorem d_sampleAt_10 : decode c_M_sampleAt 10 = .ok (.getfield 47, 3) := by decide +kernel
theorem d_sampleAt_13 : decode c_M_sampleAt 13 = .ok (.iconst 1, 1) := by decide +kernel
theorem d_sampleAt_14 : decode c_M_sampleAt 14 = .ok (.iaload, 1) := by decide +kernel
theorem d_sampleAt_15 : decode c_M_sampleAt 15 = .ok (.iconst 1, 1) := by decide +kernel
theorem d_sampleAt_16 : decode c_M_sampleAt 16 = .ok (.if_icmp .ne 6, 3) := by decide +kernel
theorem d_sampleAt_19 : decode c_M_sampleAt 19 = .ok (.iload 4, 2) := by decide +kernel
theorem d_sampleAt_21 : decode c_M_sampleAt 21 = .ok (.ireturn, 1) := by decide +kernel
theorem d_sampleAt_22 : decode c_M_sampleAt 22 = .ok (.aload_n 0, 1) := by decide +kernel
theorem d_sampleAt_23 : decode c_M_sampleAt 23 = .ok (.iload_n 1, 1) := by decide +kernel
theorem d_sampleAt_24 : decode c_M_sampleAt 24 = .ok (.iload_n 2, 1) := by decide +kernel
theorem d_sampleAt_25 : decode c_M_sampleAt 25 = .ok (.iconst 1, 1) := by decide +kernel
theorem d_sampleAt_26 : decode c_M_sampleAt 26 = .ok (.invokevirtual 377, 3) := by decide +kernel
theorem d_sampleAt_29 : decode c_M_sampleAt 29 = .ok (.sipush 128, 3) := by decide +kernel
theorem d_sampleAt_32 : decode c_M_sampleAt 32 = .ok (.isub, 1) := by decide +kernel
theorem d_sampleAt_33 : decode c_M_sampleAt 33 = .ok (.istore 5, 2) := by decide +kernel
theorem d_sampleAt_35 : decode c_M_sampleAt 35 = .ok (.aload_n 0, 1) := by decide +kernel
theorem d_sampleAt_36 : decode c_M_sampleAt 36 = .ok (.iload_n 1, 1) := by decide +kernel
theorem d_sampleAt_37 : decode c_M_sampleAt 37 = .ok (.iload_n 2, 1) := by decide +kernel
theorem d_sampleAt_38 : decode c_M_sampleAt 38 = .ok (.iconst 2, 1) := by decide +kernel
theorem d_sampleAt_39 : decode c_M_sampleAt 39 = .ok (.invokevirtual 377, 3) := by decide +kernel
theorem d_sampleAt_42 : decode c_M_sampleAt 42 = .ok (.sipush 128, 3) := by decide +kernel
theorem d_sampleAt_45 : decode c_M_sampleAt 45 = .ok (.isub, 1) := by decide +kernel
theorem d_sampleAt_46 : decode c_M_sampleAt 46 = .ok (.istore 6, 2) := by decide +kernel
theorem d_sampleAt_48 : decode c_M_sampleAt 48 = .ok (.iload_n 3, 1) := by decide +kernel
theorem d_sampleAt_49 : decode c_M_sampleAt 49 = .ok (.ifCond .ne 21, 3) := by decide +kernel
theorem d_sampleAt_52 : decode c_M_sampleAt 52 = .ok (.iload 4, 2) := by decide +kernel
theorem d_sampleAt_54 : decode c_M_sampleAt 54 = .ok (.ldc_w 380, 3) := by decide +kernel
theorem d_sampleAt_57 : decode c_M_sampleAt 57 = .ok (.iload 6, 2) := by decide +kernel
theorem d_sampleAt_59 : decode c_M_sampleAt 59 = .ok (.imul, 1) := by decide +kernel
theorem d_sampleAt_60 : decode c_M_sampleAt 60 = .ok (.ldc 26, 2) := by decide +kernel
theorem d_sampleAt_62 : decode c_M_sampleAt 62 = .ok (.iadd, 1) := by decide +kernel
theorem d_sampleAt_63 : decode c_M_sampleAt 63 = .ok (.bipush 16, 2) := by decide +kernel
theorem d_sampleAt_65 : decode c_M_sampleAt 65 = .ok (.ishr, 1) := by decide +kernel
theorem d_sampleAt_66 : decode c_M_sampleAt 66 = .ok (.iadd, 1) := by decide +kernel
theorem d_sampleAt_67 : decode c_M_sampleAt 67 = .ok (.goto 48, 3) := by decide +kernel
theorem d_sampleAt_70 : decode c_M_sampleAt 70 = .ok (.iload_n 3, 1) := by decide +kernel
theorem d_sampleAt_71 : decode c_M_sampleAt 71 = .ok (.iconst 1, 1) := by decide +kernel
theorem d_sampleAt_72 : decode c_M_sampleAt 72 = .ok (.if_icmp .ne 28, 3) := by decide +kernel
theorem d_sampleAt_75 : decode c_M_sampleAt 75 = .ok (.iload 4, 2) := by decide +kernel
theorem d_sampleAt_77 : decode c_M_sampleAt 77 = .ok (.sipush 22554, 3) := by decide +kernel
theorem d_sampleAt_80 : decode c_M_sampleAt 80 = .ok (.iload 5, 2) := by decide +kernel
theorem d_sampleAt_82 : decode c_M_sampleAt 82 = .ok (.imul, 1) := by decide +kernel
theorem d_sampleAt_83 : decode c_M_sampleAt 83 = .ok (.ldc_w 381, 3) := by decide +kernel
theorem d_sampleAt_86 : decode c_M_sampleAt 86 = .ok (.iload 6, 2) := by decide +kernel
theorem d_sampleAt_88 : decode c_M_sampleAt 88 = .ok (.imul, 1) := by decide +kernel
theorem d_sampleAt_89 : decode c_M_sampleAt 89 = .ok (.iadd, 1) := by decide +kernel
theorem d_sampleAt_90 : decode c_M_sampleAt 90 = .ok (.ldc 26, 2) := by decide +kernel
theorem d_sampleAt_92 : decode c_M_sampleAt 92 = .ok (.iadd, 1) := by decide +kernel
theorem d_sampleAt_93 : decode c_M_sampleAt 93 = .ok (.bipush 16, 2) := by decide +kernel
theorem d_sampleAt_95 : decode c_M_sampleAt 95 = .ok (.ishr, 1) := by decide +kernel
theorem d_sampleAt_96 : decode c_M_sampleAt 96 = .ok (.isub, 1) := by decide +kernel
theorem d_sampleAt_97 : decode c_M_sampleAt 97 = .ok (.goto 18, 3) := by decide +kernel
theorem d_sampleAt_100 : decode c_M_sampleAt 100 = .ok (.iload 4, 2) := by decide +kernel
theorem d_sampleAt_102 : decode c_M_sampleAt 102 = .ok (.ldc_w 382, 3) := by decide +kernel
theorem d_sampleAt_105 : decode c_M_sampleAt 105 = .ok (.iload 5, 2) := by decide +kernel
theorem d_sampleAt_107 : decode c_M_sampleAt 107 = .ok (.imul, 1) := by decide +kernel
theorem d_sampleAt_108 : decode c_M_sampleAt 108 = .ok (.ldc 26, 2) := by decide +kernel
theorem d_sampleAt_110 : decode c_M_sampleAt 110 = .ok (.iadd, 1) := by decide +kernel
theorem d_sampleAt_111 : decode c_M_sampleAt 111 = .ok (.bipush 16, 2) := by decide +kernel
theorem d_sampleAt_113 : decode c_M_sampleAt 113 = .ok (.ishr, 1) := by decide +kernel
theorem d_sampleAt_114 : decode c_M_sampleAt 114 = .ok (.iadd, 1) := by decide +kernel
theorem d_sampleAt_115 : decode c_M_sampleAt 115 = .ok (.istore 7, 2) := by decide +kernel
theorem d_sampleAt_117 : decode c_M_sampleAt 117 = .ok (.iload 7, 2) := by decide +kernel
theorem d_sampleAt_119 : decode c_M_sampleAt 119 = .ok (.ifCond .ge 7, 3) := by decide +kernel
theorem d_sampleAt_122 : decode c_M_sampleAt 122 = .ok (.iconst 0, 1) := by decide +kernel
theorem d_sampleAt_123 : decode c_M_sampleAt 123 = .ok (.goto 19, 3) := by decide +kernel
theorem d_sampleAt_126 : decode c_M_sampleAt 126 = .ok (.iload 7, 2) := by decide +kernel
theorem d_sampleAt_128 : decode c_M_sampleAt 128 = .ok (.sipush 255, 3) := by decide +kernel
theorem d_sampleAt_131 : decode c_M_sampleAt 131 = .ok (.if_icmp .le 9, 3) := by decide +kernel
theorem d_sampleAt_134 : decode c_M_sampleAt 134 = .ok (.sipush 255, 3) := by decide +kernel
theorem d_sampleAt_137 : decode c_M_sampleAt 137 = .ok (.goto 5, 3) := by decide +kernel
theorem d_sampleAt_140 : decode c_M_sampleAt 140 = .ok (.iload 7, 2) := by decide +kernel
theorem d_sampleAt_142 : decode c_M_sampleAt 142 = .ok (.ireturn, 1) := by decide +kernel
theorem d_sample_0 : decode c_M_sample 0 = .ok (.aload_n 0, 1) := by decide +kernel
theorem d_sample_1 : decode c_M_sample 1 = .ok (.getfield 37, 3) := by decide +kernel
theorem d_sample_4 : decode c_M_sample 4 = .ok (.iconst 1, 1) := by decide +kernel
theorem d_sample_5 : decode c_M_sample 5 = .ok (.baload, 1) := by decide +kernel
theorem d_sample_6 : decode c_M_sample 6 = .ok (.istore 4, 2) := by decide +kernel
theorem d_sample_8 : decode c_M_sample 8 = .ok (.aload_n 0, 1) := by decide +kernel
theorem d_sample_9 : decode c_M_sample 9 = .ok (.iload 4, 2) := by decide +kernel
theorem d_sample_11 : decode c_M_sample 11 = .ok (.ifCond .ne 7, 3) := by decide +kernel
theorem d_sample_14 : decode c_M_sample 14 = .ok (.iconst 1, 1) := by decide +kernel
theorem d_sample_15 : decode c_M_sample 15 = .ok (.goto 50, 3) := by decide +kernel
theorem d_sample_18 : decode c_M_sample 18 = .ok (.iload_n 1, 1) := by decide +kernel
theorem d_sample_19 : decode c_M_sample 19 = .ok (.ifCond .lt 41, 3) := by decide +kernel
theorem d_sample_22 : decode c_M_sample 22 = .ok (.iload_n 1, 1) := by decide +kernel
theorem d_sample_23 : decode c_M_sample 23 = .ok (.aload_n 0, 1) := by decide +kernel
theorem d_sample_24 : decode c_M_sample 24 = .ok (.getfield 41, 3) := by decide +kernel
theorem d_sample_27 : decode c_M_sample 27 = .ok (.iconst 1, 1) := by decide +kernel
theorem d_sample_28 : decode c_M_sample 28 = .ok (.iaload, 1) := by decide +kernel
theorem d_sample_29 : decode c_M_sample 29 = .ok (.if_icmp .ge 31, 3) := by decide +kernel
theorem d_sample_32 : decode c_M_sample 32 = .ok (.iload_n 2, 1) := by decide +kernel
theorem d_sample_33 : decode c_M_sample 33 = .ok (.ifCond .lt 27, 3) := by decide +kernel
theorem d_sample_36 : decode c_M_sample 36 = .ok (.iload_n 2, 1) := by decide +kernel
theorem d_sample_37 : decode c_M_sample 37 = .ok (.aload_n 0, 1) := by decide +kernel
theorem d_sample_38 : decode c_M_sample 38 = .ok (.getfield 44, 3) := by decide +kernel
theorem d_sample_41 : decode c_M_sample 41 = .ok (.iconst 1, 1) := by decide +kernel
theorem d_sample_42 : decode c_M_sample 42 = .ok (.iaload, 1) := by decide +kernel
theorem d_sample_43 : decode c_M_sample 43 = .ok (.if_icmp .ge 17, 3) := by decide +kernel
theorem d_sample_46 : decode c_M_sample 46 = .ok (.iload_n 3, 1) := by decide +kernel
theorem d_sample_47 : decode c_M_sample 47 = .ok (.ifCond .lt 13, 3) := by decide +kernel
theorem d_sample_50 : decode c_M_sample 50 = .ok (.iload_n 3, 1) := by decide +kernel
theorem d_sample_51 : decode c_M_sample 51 = .ok (.aload_n 0, 1) := by decide +kernel
theorem d_sample_52 : decode c_M_sample 52 = .ok (.getfield 47, 3) := by decide +kernel
theorem d_sample_55 : decode c_M_sample 55 = .ok (.iconst 1, 1) := by decide +kernel
theorem d_sample_56 : decode c_M_sample 56 = .ok (.iaload, 1) := by decide +kernel
theorem d_sample_57 : decode c_M_sample 57 = .ok (.if_icmp .lt 7, 3) := by decide +kernel
theorem d_sample_60 : decode c_M_sample 60 = .ok (.iconst 2, 1) := by decide +kernel
theorem d_sample_61 : decode c_M_sample 61 = .ok (.goto 4, 3) := by decide +kernel
theorem d_sample_64 : decode c_M_sample 64 = .ok (.iconst 0, 1) := by decide +kernel
theorem d_sample_65 : decode c_M_sample 65 = .ok (.putfield 146, 3) := by decide +kernel
theorem d_sample_68 : decode c_M_sample 68 = .ok (.aload_n 0, 1) := by decide +kernel
theorem d_sample_69 : decode c_M_sample 69 = .ok (.getfield 146, 3) := by decide +kernel
theorem d_sample_72 : decode c_M_sample 72 = .ok (.ifCond .le 7, 3) := by decide +kernel
theorem d_sample_75 : decode c_M_sample 75 = .ok (.iconst 0, 1) := by decide +kernel
theorem d_sample_76 : decode c_M_sample 76 = .ok (.goto 10, 3) := by decide +kernel
theorem d_sample_79 : decode c_M_sample 79 = .ok (.aload_n 0, 1) := by decide +kernel
theorem d_sample_80 : decode c_M_sample 80 = .ok (.iload_n 1, 1) := by decide +kernel
theorem d_sample_81 : decode c_M_sample 81 = .ok (.iload_n 2, 1) := by decide +kernel
theorem d_sample_82 : decode c_M_sample 82 = .ok (.iload_n 3, 1) := by decide +kernel
theorem d_sample_83 : decode c_M_sample 83 = .ok (.invokevirtual 383, 3) := by decide +kernel
theorem d_sample_86 : decode c_M_sample 86 = .ok (.ireturn, 1) := by decide +kernel
theorem d_level_0 : decode c_M_level 0 = .ok (.iload_n 1, 1) := by decide +kernel
theorem d_level_1 : decode c_M_level 1 = .ok (.ifCond .lt 17, 3) := by decide +kernel
theorem d_level_4 : decode c_M_level 4 = .ok (.iload_n 1, 1) := by decide +kernel
theorem d_level_5 : decode c_M_level 5 = .ok (.iconst 1, 1) := by decide +kernel
theorem d_level_6 : decode c_M_level 6 = .ok (.if_icmp .gt 12, 3) := by decide +kernel
theorem d_level_9 : decode c_M_level 9 = .ok (.aload_n 0, 1) := by decide +kernel
theorem d_level_10 : decode c_M_level 10 = .ok (.getfield 37, 3) := by decide +kernel
theorem d_level_13 : decode c_M_level 13 = .ok (.iload_n 1, 1) := by decide +kernel
theorem d_level_14 : decode c_M_level 14 = .ok (.baload, 1) := by decide +kernel
theorem d_level_15 : decode c_M_level 15 = .ok (.ifCond .ne 23, 3) := by decide +kernel
theorem d_level_18 : decode c_M_level 18 = .ok (.aload_n 0, 1) := by decide +kernel
theorem d_level_19 : decode c_M_level 19 = .ok (.iload_n 1, 1) := by decide +kernel
theorem d_level_20 : decode c_M_level 20 = .ok (.ifCond .lt 8, 3) := by decide +kernel
theorem d_level_23 : decode c_M_level 23 = .ok (.iload_n 1, 1) := by decide +kernel
theorem d_level_24 : decode c_M_level 24 = .ok (.iconst 1, 1) := by decide +kernel
theorem d_level_25 : decode c_M_level 25 = .ok (.if_icmp .le 7, 3) := by decide +kernel
theorem d_level_28 : decode c_M_level 28 = .ok (.iconst 1, 1) := by decide +kernel
theorem d_level_29 : decode c_M_level 29 = .ok (.goto 4, 3) := by decide +kernel
theorem d_level_32 : decode c_M_level 32 = .ok (.iconst 2, 1) := by decide +kernel
theorem d_level_33 : decode c_M_level 33 = .ok (.putfield 146, 3) := by decide +kernel
theorem d_level_36 : decode c_M_level 36 = .ok (.iconst 0, 1) := by decide +kernel
theorem d_level_37 : decode c_M_level 37 = .ok (.ireturn, 1) := by decide +kernel
theorem d_level_38 : decode c_M_level 38 = .ok (.iload_n 2, 1) := by decide +kernel
theorem d_level_39 : decode c_M_level 39 = .ok (.ifCond .lt 33, 3) := by decide +kernel
theorem d_level_42 : decode c_M_level 42 = .ok (.iload_n 2, 1) := by decide +kernel
theorem d_level_43 : decode c_M_level 43 = .ok (.aload_n 0, 1) := by decide +kernel
theorem d_level_44 : decode c_M_level 44 = .ok (.getfield 47, 3) := by decide +kernel
theorem d_level_47 : decode c_M_level 47 = .ok (.iload_n 1, 1) := by decide +kernel
theorem d_level_48 : decode c_M_level 48 = .ok (.iaload, 1) := by decide +kernel
theorem d_level_49 : decode c_M_level 49 = .ok (.if_icmp .ge 23, 3) := by decide +kernel
theorem d_level_52 : decode c_M_level 52 = .ok (.iload 4, 2) := by decide +kernel
theorem d_level_54 : decode c_M_level 54 = .ok (.ifCond .lt 18, 3) := by decide +kernel
theorem d_level_57 : decode c_M_level 57 = .ok (.iload 4, 2) := by decide +kernel
theorem d_level_59 : decode c_M_level 59 = .ok (.bipush 64, 2) := by decide +kernel
theorem d_level_61 : decode c_M_level 61 = .ok (.if_icmp .ge 11, 3) := by decide +kernel
theorem d_level_64 : decode c_M_level 64 = .ok (.iload_n 3, 1) := by decide +kernel
theorem d_level_65 : decode c_M_level 65 = .ok (.ifCond .lt 7, 3) := by decide +kernel
theorem d_level_68 : decode c_M_level 68 = .ok (.iconst 1, 1) := by decide +kernel
theorem d_level_69 : decode c_M_level 69 = .ok (.goto 4, 3) := by decide +kernel
theorem d_level_72 : decode c_M_level 72 = .ok (.iconst 0, 1) := by decide +kernel
theorem d_level_73 : decode c_M_level 73 = .ok (.istore 5, 2) := by decide +kernel
theorem d_level_75 : decode c_M_level 75 = .ok (.iload 5, 2) := by decide +kernel
theorem d_level_77 : decode c_M_level 77 = .ok (.ifCond .eq 32, 3) := by decide +kernel
theorem d_level_80 : decode c_M_level 80 = .ok (.iload_n 3, 1) := by decide +kernel
theorem d_level_81 : decode c_M_level 81 = .ok (.aload_n 0, 1) := by decide +kernel
theorem d_level_82 : decode c_M_level 82 = .ok (.getfield 56, 3) := by decide +kernel
theorem d_level_85 : decode c_M_level 85 = .ok (.iconst 3, 1) := by decide +kernel
theorem d_level_86 : decode c_M_level 86 = .ok (.iload_n 1, 1) := by decide +kernel
theorem d_level_87 : decode c_M_level 87 = .ok (.imul, 1) := by decide +kernel
theorem d_level_88 : decode c_M_level 88 = .ok (.iload_n 2, 1) := by decide +kernel
theorem d_level_89 : decode c_M_level 89 = .ok (.iadd, 1) := by decide +kernel
theorem d_level_90 : decode c_M_level 90 = .ok (.iaload, 1) := by decide +kernel
theorem d_level_91 : decode c_M_level 91 = .ok (.aload_n 0, 1) := by decide +kernel
theorem d_level_92 : decode c_M_level 92 = .ok (.getfield 59, 3) := by decide +kernel
theorem d_level_95 : decode c_M_level 95 = .ok (.iconst 3, 1) := by decide +kernel
theorem d_level_96 : decode c_M_level 96 = .ok (.iload_n 1, 1) := by decide +kernel
theorem d_level_97 : decode c_M_level 97 = .ok (.imul, 1) := by decide +kernel
theorem d_level_98 : decode c_M_level 98 = .ok (.iload_n 2, 1) := by decide +kernel
theorem d_level_99 : decode c_M_level 99 = .ok (.iadd, 1) := by decide +kernel
theorem d_level_100 : decode c_M_level 100 = .ok (.iaload, 1) := by decide +kernel
theorem d_level_101 : decode c_M_level 101 = .ok (.imul, 1) := by decide +kernel
theorem d_level_102 : decode c_M_level 102 = .ok (.if_icmp .ge 7, 3) := by decide +kernel
theorem d_level_105 : decode c_M_level 105 = .ok (.iconst 1, 1) := by decide +kernel
theorem d_level_106 : decode c_M_level 106 = .ok (.goto 4, 3) := by decide +kernel
theorem d_level_109 : decode c_M_level 109 = .ok (.iconst 0, 1) := by decide +kernel
theorem d_level_110 : decode c_M_level 110 = .ok (.istore 5, 2) := by decide +kernel
theorem d_level_112 : decode c_M_level 112 = .ok (.aload_n 0, 1) := by decide +kernel
theorem d_level_113 : decode c_M_level 113 = .ok (.iload 5, 2) := by decide +kernel
theorem d_level_115 : decode c_M_level 115 = .ok (.ifCond .eq 7, 3) := by decide +kernel
theorem d_level_118 : decode c_M_level 118 = .ok (.iconst 0, 1) := by decide +kernel
theorem d_level_119 : decode c_M_level 119 = .ok (.goto 4, 3) := by decide +kernel
theorem d_level_122 : decode c_M_level 122 = .ok (.iconst 3, 1) := by decide +kernel
theorem d_level_123 : decode c_M_level 123 = .ok (.putfield 146, 3) := by decide +kernel
theorem d_level_126 : decode c_M_level 126 = .ok (.iload 5, 2) := by decide +kernel
theorem d_level_128 : decode c_M_level 128 = .ok (.ifCond .eq 19, 3) := by decide +kernel
theorem d_level_131 : decode c_M_level 131 = .ok (.aload_n 0, 1) := by decide +kernel
theorem d_level_132 : decode c_M_level 132 = .ok (.getfield 63, 3) := by decide +kernel
theorem d_level_135 : decode c_M_level 135 = .ok (.iload_n 1, 1) := by decide +kernel
theorem d_level_136 : decode c_M_level 136 = .ok (.iload_n 2, 1) := by decide +kernel
theorem d_level_137 : decode c_M_level 137 = .ok (.iload_n 3, 1) := by decide +kernel
theorem d_level_138 : decode c_M_level 138 = .ok (.iload 4, 2) := by decide +kernel
theorem d_level_140 : decode c_M_level 140 = .ok (.invokestatic 193, 3) := by decide +kernel
theorem d_level_143 : decode c_M_level 143 = .ok (.iaload, 1) := by decide +kernel
theorem d_level_144 : decode c_M_level 144 = .ok (.goto 4, 3) := by decide +kernel
theorem d_level_147 : decode c_M_level 147 = .ok (.iconst 0, 1) := by decide +kernel
theorem d_level_148 : decode c_M_level 148 = .ok (.ireturn, 1) := by decide +kernel
theorem d_take_0 : decode c_M_take 0 = .ok (.aload_n 0, 1) := by decide +kernel
theorem d_take_1 : decode c_M_take 1 = .ok (.aload_n 0, 1) := by decide +kernel
theorem d_take_2 : decode c_M_take 2 = .ok (.getfield 37, 3) := by decide +kernel
theorem d_take_5 : decode c_M_take 5 = .ok (.iconst 1, 1) := by decide +kernel
theorem d_take_6 : decode c_M_take 6 = .ok (.baload, 1) := by decide +kernel
theorem d_take_7 : decode c_M_take 7 = .ok (.ifCond .eq 7, 3) := by decide +kernel
theorem d_take_10 : decode c_M_take 10 = .ok (.iconst 0, 1) := by decide +kernel
theorem d_take_11 : decode c_M_take 11 = .ok (.goto 4, 3) := by decide +kernel
theorem d_take_14 : decode c_M_take 14 = .ok (.iconst 1, 1) := by decide +kernel
theorem d_take_15 : decode c_M_take 15 = .ok (.putfield 146, 3) := by decide +kernel
theorem d_take_18 : decode c_M_take 18 = .ok (.aload_n 0, 1) := by decide +kernel
theorem d_take_19 : decode c_M_take 19 = .ok (.getfield 146, 3) := by decide +kernel
theorem d_take_22 : decode c_M_take 22 = .ok (.ifCond .le 4, 3) := by decide +kernel
theorem d_take_25 : decode c_M_take 25 = .ok (.return_, 1) := by decide +kernel
theorem d_take_26 : decode c_M_take 26 = .ok (.aload_n 0, 1) := by decide +kernel
theorem d_take_27 : decode c_M_take 27 = .ok (.aload_n 0, 1) := by decide +kernel
theorem d_take_28 : decode c_M_take 28 = .ok (.getfield 41, 3) := by decide +kernel
theorem d_take_31 : decode c_M_take 31 = .ok (.iconst 1, 1) := by decide +kernel
theorem d_take_32 : decode c_M_take 32 = .ok (.iaload, 1) := by decide +kernel
theorem d_take_33 : decode c_M_take 33 = .ok (.aload_n 0, 1) := by decide +kernel
theorem d_take_34 : decode c_M_take 34 = .ok (.getfield 44, 3) := by decide +kernel
theorem d_take_37 : decode c_M_take 37 = .ok (.iconst 1, 1) := by decide +kernel
theorem d_take_38 : decode c_M_take 38 = .ok (.iaload, 1) := by decide +kernel
theorem d_take_39 : decode c_M_take 39 = .ok (.aload_n 0, 1) := by decide +kernel
theorem d_take_40 : decode c_M_take 40 = .ok (.getfield 47, 3) := by decide +kernel
theorem d_take_43 : decode c_M_take 43 = .ok (.iconst 1, 1) := by decide +kernel
theorem d_take_44 : decode c_M_take 44 = .ok (.iaload, 1) := by decide +kernel
theorem d_take_45 : decode c_M_take 45 = .ok (.invokevirtual 386, 3) := by decide +kernel
theorem d_take_48 : decode c_M_take 48 = .ok (.iconst 0, 1) := by decide +kernel
theorem d_take_49 : decode c_M_take 49 = .ok (.istore_n 1, 1) := by decide +kernel
theorem d_take_50 : decode c_M_take 50 = .ok (.iload_n 1, 1) := by decide +kernel
theorem d_take_51 : decode c_M_take 51 = .ok (.aload_n 0, 1) := by decide +kernel
theorem d_take_52 : decode c_M_take 52 = .ok (.getfield 13, 3) := by decide +kernel
theorem d_take_55 : decode c_M_take 55 = .ok (.if_icmp .ge 59, 3) := by decide +kernel
theorem d_take_58 : decode c_M_take 58 = .ok (.iconst 0, 1) := by decide +kernel
theorem d_take_59 : decode c_M_take 59 = .ok (.istore_n 2, 1) := by decide +kernel
theorem d_take_60 : decode c_M_take 60 = .ok (.iload_n 2, 1) := by decide +kernel
theorem d_take_61 : decode c_M_take 61 = .ok (.aload_n 0, 1) := by decide +kernel
theorem d_take_62 : decode c_M_take 62 = .ok (.getfield 7, 3) := by decide +kernel
theorem d_take_65 : decode c_M_take 65 = .ok (.if_icmp .ge 43, 3) := by decide +kernel
theorem d_take_68 : decode c_M_take 68 = .ok (.iconst 0, 1) := by decide +kernel
theorem d_take_69 : decode c_M_take 69 = .ok (.istore_n 3, 1) := by decide +kernel
theorem d_take_70 : decode c_M_take 70 = .ok (.iload_n 3, 1) := by decide +kernel
theorem d_take_71 : decode c_M_take 71 = .ok (.aload_n 0, 1) := by decide +kernel
theorem d_take_72 : decode c_M_take 72 = .ok (.getfield 16, 3) := by decide +kernel
theorem d_take_75 : decode c_M_take 75 = .ok (.if_icmp .ge 27, 3) := by decide +kernel
theorem d_take_78 : decode c_M_take 78 = .ok (.aload_n 0, 1) := by decide +kernel
theorem d_take_79 : decode c_M_take 79 = .ok (.getfield 19, 3) := by decide +kernel
theorem d_take_82 : decode c_M_take 82 = .ok (.iload_n 2, 1) := by decide +kernel
theorem d_take_83 : decode c_M_take 83 = .ok (.iload_n 1, 1) := by decide +kernel
theorem d_take_84 : decode c_M_take 84 = .ok (.iload_n 3, 1) := by decide +kernel
theorem d_take_85 : decode c_M_take 85 = .ok (.invokestatic 161, 3) := by decide +kernel
theorem d_take_88 : decode c_M_take 88 = .ok (.aload_n 0, 1) := by decide +kernel
theorem d_take_89 : decode c_M_take 89 = .ok (.iload_n 2, 1) := by decide +kernel
theorem d_take_90 : decode c_M_take 90 = .ok (.iload_n 1, 1) := by decide +kernel
theorem d_take_91 : decode c_M_take 91 = .ok (.iload_n 3, 1) := by decide +kernel
theorem d_take_92 : decode c_M_take 92 = .ok (.invokevirtual 383, 3) := by decide +kernel
theorem d_take_95 : decode c_M_take 95 = .ok (.iastore, 1) := by decide +kernel
theorem d_take_96 : decode c_M_take 96 = .ok (.iinc 3 1, 3) := by decide +kernel
theorem d_take_99 : decode c_M_take 99 = .ok (.goto (-29), 3) := by decide +kernel
theorem d_take_102 : decode c_M_take 102 = .ok (.iinc 2 1, 3) := by decide +kernel
theorem d_take_105 : decode c_M_take 105 = .ok (.goto (-45), 3) := by decide +kernel
theorem d_take_108 : decode c_M_take 108 = .ok (.iinc 1 1, 3) := by decide +kernel
theorem d_take_111 : decode c_M_take 111 = .ok (.goto (-61), 3) := by decide +kernel
theorem d_take_114 : decode c_M_take 114 = .ok (.return_, 1) := by decide +kernel
