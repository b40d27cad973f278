theorem dc_Un_readScanLayer_0 : decode c_C_Un_readScanLayer 0 = .ok (.aload_n 0, 1) := by decide +kernel
theorem dc_Un_readScanLayer_1 : decode c_C_Un_readScanLayer 1 = .ok (.getfield 12, 3) := by decide +kernel
theorem dc_Un_readScanLayer_4 : decode c_C_Un_readScanLayer 4 = .ok (.invokevirtual 138, 3) := by decide +kernel
theorem dc_Un_readScanLayer_7 : decode c_C_Un_readScanLayer 7 = .ok (.istore_n 2, 1) := by decide +kernel
theorem dc_Un_readScanLayer_8 : decode c_C_Un_readScanLayer 8 = .ok (.iconst (-1), 1) := by decide +kernel
theorem dc_Un_readScanLayer_9 : decode c_C_Un_readScanLayer 9 = .ok (.istore_n 3, 1) := by decide +kernel
theorem dc_Un_readScanLayer_10 : decode c_C_Un_readScanLayer 10 = .ok (.iload_n 1, 1) := by decide +kernel
theorem dc_Un_readScanLayer_11 : decode c_C_Un_readScanLayer 11 = .ok (.istore 4, 2) := by decide +kernel
theorem dc_Un_readScanLayer_13 : decode c_C_Un_readScanLayer 13 = .ok (.iload 4, 2) := by decide +kernel
theorem dc_Un_readScanLayer_15 : decode c_C_Un_readScanLayer 15 = .ok (.aload_n 0, 1) := by decide +kernel
theorem dc_Un_readScanLayer_16 : decode c_C_Un_readScanLayer 16 = .ok (.getfield 21, 3) := by decide +kernel
theorem dc_Un_readScanLayer_19 : decode c_C_Un_readScanLayer 19 = .ok (.getfield 110, 3) := by decide +kernel
theorem dc_Un_readScanLayer_22 : decode c_C_Un_readScanLayer 22 = .ok (.if_icmp .ge 23, 3) := by decide +kernel
theorem dc_Un_readScanLayer_25 : decode c_C_Un_readScanLayer 25 = .ok (.aload_n 0, 1) := by decide +kernel
theorem dc_Un_readScanLayer_26 : decode c_C_Un_readScanLayer 26 = .ok (.getfield 47, 3) := by decide +kernel
theorem dc_Un_readScanLayer_29 : decode c_C_Un_readScanLayer 29 = .ok (.iload 4, 2) := by decide +kernel
theorem dc_Un_readScanLayer_31 : decode c_C_Un_readScanLayer 31 = .ok (.iaload, 1) := by decide +kernel
theorem dc_Un_readScanLayer_32 : decode c_C_Un_readScanLayer 32 = .ok (.iload_n 2, 1) := by decide +kernel
theorem dc_Un_readScanLayer_33 : decode c_C_Un_readScanLayer 33 = .ok (.if_icmp .ne 6, 3) := by decide +kernel
theorem dc_Un_readScanLayer_36 : decode c_C_Un_readScanLayer 36 = .ok (.iload 4, 2) := by decide +kernel
theorem dc_Un_readScanLayer_38 : decode c_C_Un_readScanLayer 38 = .ok (.istore_n 3, 1) := by decide +kernel
theorem dc_Un_readScanLayer_39 : decode c_C_Un_readScanLayer 39 = .ok (.iinc 4 1, 3) := by decide +kernel
theorem dc_Un_readScanLayer_42 : decode c_C_Un_readScanLayer 42 = .ok (.goto (-29), 3) := by decide +kernel
theorem dc_Un_readScanLayer_45 : decode c_C_Un_readScanLayer 45 = .ok (.iload_n 3, 1) := by decide +kernel
theorem dc_Un_readScanLayer_46 : decode c_C_Un_readScanLayer 46 = .ok (.iconst (-1), 1) := by decide +kernel
theorem dc_Un_readScanLayer_47 : decode c_C_Un_readScanLayer 47 = .ok (.if_icmp .eq 12, 3) := by decide +kernel
theorem dc_Un_readScanLayer_50 : decode c_C_Un_readScanLayer 50 = .ok (.aload_n 0, 1) := by decide +kernel
theorem dc_Un_readScanLayer_51 : decode c_C_Un_readScanLayer 51 = .ok (.getfield 53, 3) := by decide +kernel
theorem dc_Un_readScanLayer_54 : decode c_C_Un_readScanLayer 54 = .ok (.iload_n 3, 1) := by decide +kernel
theorem dc_Un_readScanLayer_55 : decode c_C_Un_readScanLayer 55 = .ok (.baload, 1) := by decide +kernel
theorem dc_Un_readScanLayer_56 : decode c_C_Un_readScanLayer 56 = .ok (.ifCond .eq 22, 3) := by decide +kernel
theorem dc_Un_readScanLayer_59 : decode c_C_Un_readScanLayer 59 = .ok (.aload_n 0, 1) := by decide +kernel
theorem dc_Un_readScanLayer_60 : decode c_C_Un_readScanLayer 60 = .ok (.getfield 12, 3) := by decide +kernel
theorem dc_Un_readScanLayer_63 : decode c_C_Un_readScanLayer 63 = .ok (.iconst 5, 1) := by decide +kernel
theorem dc_Un_readScanLayer_64 : decode c_C_Un_readScanLayer 64 = .ok (.aload_n 0, 1) := by decide +kernel
theorem dc_Un_readScanLayer_65 : decode c_C_Un_readScanLayer 65 = .ok (.getfield 12, 3) := by decide +kernel
theorem dc_Un_readScanLayer_68 : decode c_C_Un_readScanLayer 68 = .ok (.getfield 70, 3) := by decide +kernel
theorem dc_Un_readScanLayer_71 : decode c_C_Un_readScanLayer 71 = .ok (.iconst 1, 1) := by decide +kernel
theorem dc_Un_readScanLayer_72 : decode c_C_Un_readScanLayer 72 = .ok (.isub, 1) := by decide +kernel
theorem dc_Un_readScanLayer_73 : decode c_C_Un_readScanLayer 73 = .ok (.invokevirtual 74, 3) := by decide +kernel
theorem dc_Un_readScanLayer_76 : decode c_C_Un_readScanLayer 76 = .ok (.iload_n 1, 1) := by decide +kernel
theorem dc_Un_readScanLayer_77 : decode c_C_Un_readScanLayer 77 = .ok (.ireturn, 1) := by decide +kernel
theorem dc_Un_readScanLayer_78 : decode c_C_Un_readScanLayer 78 = .ok (.aload_n 0, 1) := by decide +kernel
theorem dc_Un_readScanLayer_79 : decode c_C_Un_readScanLayer 79 = .ok (.getfield 50, 3) := by decide +kernel
theorem dc_Un_readScanLayer_82 : decode c_C_Un_readScanLayer 82 = .ok (.iload_n 3, 1) := by decide +kernel
theorem dc_Un_readScanLayer_83 : decode c_C_Un_readScanLayer 83 = .ok (.iaload, 1) := by decide +kernel
theorem dc_Un_readScanLayer_84 : decode c_C_Un_readScanLayer 84 = .ok (.istore 4, 2) := by decide +kernel
theorem dc_Un_readScanLayer_86 : decode c_C_Un_readScanLayer 86 = .ok (.aload_n 0, 1) := by decide +kernel
theorem dc_Un_readScanLayer_87 : decode c_C_Un_readScanLayer 87 = .ok (.getfield 36, 3) := by decide +kernel
theorem dc_Un_readScanLayer_90 : decode c_C_Un_readScanLayer 90 = .ok (.iload 4, 2) := by decide +kernel
theorem dc_Un_readScanLayer_92 : decode c_C_Un_readScanLayer 92 = .ok (.baload, 1) := by decide +kernel
theorem dc_Un_readScanLayer_93 : decode c_C_Un_readScanLayer 93 = .ok (.ifCond .ne 21, 3) := by decide +kernel
theorem dc_Un_readScanLayer_96 : decode c_C_Un_readScanLayer 96 = .ok (.aload_n 0, 1) := by decide +kernel
theorem dc_Un_readScanLayer_97 : decode c_C_Un_readScanLayer 97 = .ok (.getfield 12, 3) := by decide +kernel
theorem dc_Un_readScanLayer_100 : decode c_C_Un_readScanLayer 100 = .ok (.bipush 6, 2) := by decide +kernel
theorem dc_Un_readScanLayer_102 : decode c_C_Un_readScanLayer 102 = .ok (.aload_n 0, 1) := by decide +kernel
theorem dc_Un_readScanLayer_103 : decode c_C_Un_readScanLayer 103 = .ok (.getfield 12, 3) := by decide +kernel
theorem dc_Un_readScanLayer_106 : decode c_C_Un_readScanLayer 106 = .ok (.getfield 70, 3) := by decide +kernel
theorem dc_Un_readScanLayer_109 : decode c_C_Un_readScanLayer 109 = .ok (.iconst 1, 1) := by decide +kernel
theorem dc_Un_readScanLayer_110 : decode c_C_Un_readScanLayer 110 = .ok (.isub, 1) := by decide +kernel
theorem dc_Un_readScanLayer_111 : decode c_C_Un_readScanLayer 111 = .ok (.invokevirtual 74, 3) := by decide +kernel
theorem dc_Un_readScanLayer_114 : decode c_C_Un_readScanLayer 114 = .ok (.aload_n 0, 1) := by decide +kernel
theorem dc_Un_readScanLayer_115 : decode c_C_Un_readScanLayer 115 = .ok (.getfield 32, 3) := by decide +kernel
theorem dc_Un_readScanLayer_118 : decode c_C_Un_readScanLayer 118 = .ok (.bipush 64, 2) := by decide +kernel
theorem dc_Un_readScanLayer_120 : decode c_C_Un_readScanLayer 120 = .ok (.iload 4, 2) := by decide +kernel
theorem dc_Un_readScanLayer_122 : decode c_C_Un_readScanLayer 122 = .ok (.imul, 1) := by decide +kernel
theorem dc_Un_readScanLayer_123 : decode c_C_Un_readScanLayer 123 = .ok (.aload_n 0, 1) := by decide +kernel
theorem dc_Un_readScanLayer_124 : decode c_C_Un_readScanLayer 124 = .ok (.getfield 21, 3) := by decide +kernel
theorem dc_Un_readScanLayer_127 : decode c_C_Un_readScanLayer 127 = .ok (.getfield 201, 3) := by decide +kernel
theorem dc_Un_readScanLayer_130 : decode c_C_Un_readScanLayer 130 = .ok (.bipush 64, 2) := by decide +kernel
theorem dc_Un_readScanLayer_132 : decode c_C_Un_readScanLayer 132 = .ok (.iload_n 3, 1) := by decide +kernel
theorem dc_Un_readScanLayer_133 : decode c_C_Un_readScanLayer 133 = .ok (.imul, 1) := by decide +kernel
theorem dc_Un_readScanLayer_134 : decode c_C_Un_readScanLayer 134 = .ok (.bipush 64, 2) := by decide +kernel
theorem dc_Un_readScanLayer_136 : decode c_C_Un_readScanLayer 136 = .ok (.invokestatic 204, 3) := by decide +kernel
theorem dc_Un_readScanLayer_139 : decode c_C_Un_readScanLayer 139 = .ok (.aload_n 0, 1) := by decide +kernel
theorem dc_Un_readScanLayer_140 : decode c_C_Un_readScanLayer 140 = .ok (.iconst 0, 1) := by decide +kernel
theorem dc_Un_readScanLayer_141 : decode c_C_Un_readScanLayer 141 = .ok (.bipush 17, 2) := by decide +kernel
theorem dc_Un_readScanLayer_143 : decode c_C_Un_readScanLayer 143 = .ok (.invokevirtual 151, 3) := by decide +kernel
theorem dc_Un_readScanLayer_146 : decode c_C_Un_readScanLayer 146 = .ok (.istore 5, 2) := by decide +kernel
theorem dc_Un_readScanLayer_148 : decode c_C_Un_readScanLayer 148 = .ok (.iload 5, 2) := by decide +kernel
theorem dc_Un_readScanLayer_150 : decode c_C_Un_readScanLayer 150 = .ok (.bipush 16, 2) := by decide +kernel
theorem dc_Un_readScanLayer_152 : decode c_C_Un_readScanLayer 152 = .ok (.irem, 1) := by decide +kernel
theorem dc_Un_readScanLayer_153 : decode c_C_Un_readScanLayer 153 = .ok (.iconst 1, 1) := by decide +kernel
theorem dc_Un_readScanLayer_154 : decode c_C_Un_readScanLayer 154 = .ok (.if_icmp .le 20, 3) := by decide +kernel
theorem dc_Un_readScanLayer_157 : decode c_C_Un_readScanLayer 157 = .ok (.aload_n 0, 1) := by decide +kernel
theorem dc_Un_readScanLayer_158 : decode c_C_Un_readScanLayer 158 = .ok (.getfield 12, 3) := by decide +kernel
theorem dc_Un_readScanLayer_161 : decode c_C_Un_readScanLayer 161 = .ok (.iconst 5, 1) := by decide +kernel
theorem dc_Un_readScanLayer_162 : decode c_C_Un_readScanLayer 162 = .ok (.aload_n 0, 1) := by decide +kernel
theorem dc_Un_readScanLayer_163 : decode c_C_Un_readScanLayer 163 = .ok (.getfield 12, 3) := by decide +kernel
theorem dc_Un_readScanLayer_166 : decode c_C_Un_readScanLayer 166 = .ok (.getfield 70, 3) := by decide +kernel
theorem dc_Un_readScanLayer_169 : decode c_C_Un_readScanLayer 169 = .ok (.iconst 1, 1) := by decide +kernel
theorem dc_Un_readScanLayer_170 : decode c_C_Un_readScanLayer 170 = .ok (.isub, 1) := by decide +kernel
theorem dc_Un_readScanLayer_171 : decode c_C_Un_readScanLayer 171 = .ok (.invokevirtual 74, 3) := by decide +kernel
theorem dc_Un_readScanLayer_174 : decode c_C_Un_readScanLayer 174 = .ok (.aload_n 0, 1) := by decide +kernel
theorem dc_Un_readScanLayer_175 : decode c_C_Un_readScanLayer 175 = .ok (.getfield 43, 3) := by decide +kernel
theorem dc_Un_readScanLayer_178 : decode c_C_Un_readScanLayer 178 = .ok (.iload 5, 2) := by decide +kernel
theorem dc_Un_readScanLayer_180 : decode c_C_Un_readScanLayer 180 = .ok (.bipush 16, 2) := by decide +kernel
theorem dc_Un_readScanLayer_182 : decode c_C_Un_readScanLayer 182 = .ok (.idiv, 1) := by decide +kernel
theorem dc_Un_readScanLayer_183 : decode c_C_Un_readScanLayer 183 = .ok (.aaload, 1) := by decide +kernel
theorem dc_Un_readScanLayer_184 : decode c_C_Un_readScanLayer 184 = .ok (.getfield 105, 3) := by decide +kernel
theorem dc_Un_readScanLayer_187 : decode c_C_Un_readScanLayer 187 = .ok (.ifCond .eq 21, 3) := by decide +kernel
theorem dc_Un_readScanLayer_190 : decode c_C_Un_readScanLayer 190 = .ok (.aload_n 0, 1) := by decide +kernel
theorem dc_Un_readScanLayer_191 : decode c_C_Un_readScanLayer 191 = .ok (.getfield 43, 3) := by decide +kernel
theorem dc_Un_readScanLayer_194 : decode c_C_Un_readScanLayer 194 = .ok (.iconst 2, 1) := by decide +kernel
theorem dc_Un_readScanLayer_195 : decode c_C_Un_readScanLayer 195 = .ok (.iload 5, 2) := by decide +kernel
theorem dc_Un_readScanLayer_197 : decode c_C_Un_readScanLayer 197 = .ok (.bipush 16, 2) := by decide +kernel
theorem dc_Un_readScanLayer_199 : decode c_C_Un_readScanLayer 199 = .ok (.irem, 1) := by decide +kernel
theorem dc_Un_readScanLayer_200 : decode c_C_Un_readScanLayer 200 = .ok (.iadd, 1) := by decide +kernel
theorem dc_Un_readScanLayer_201 : decode c_C_Un_readScanLayer 201 = .ok (.aaload, 1) := by decide +kernel
theorem dc_Un_readScanLayer_202 : decode c_C_Un_readScanLayer 202 = .ok (.getfield 105, 3) := by decide +kernel
theorem dc_Un_readScanLayer_205 : decode c_C_Un_readScanLayer 205 = .ok (.ifCond .ne 21, 3) := by decide +kernel
theorem dc_Un_readScanLayer_208 : decode c_C_Un_readScanLayer 208 = .ok (.aload_n 0, 1) := by decide +kernel
theorem dc_Un_readScanLayer_209 : decode c_C_Un_readScanLayer 209 = .ok (.getfield 12, 3) := by decide +kernel
theorem dc_Un_readScanLayer_212 : decode c_C_Un_readScanLayer 212 = .ok (.bipush 6, 2) := by decide +kernel
theorem dc_Un_readScanLayer_214 : decode c_C_Un_readScanLayer 214 = .ok (.aload_n 0, 1) := by decide +kernel
theorem dc_Un_readScanLayer_215 : decode c_C_Un_readScanLayer 215 = .ok (.getfield 12, 3) := by decide +kernel
theorem dc_Un_readScanLayer_218 : decode c_C_Un_readScanLayer 218 = .ok (.getfield 70, 3) := by decide +kernel
theorem dc_Un_readScanLayer_221 : decode c_C_Un_readScanLayer 221 = .ok (.iconst 1, 1) := by decide +kernel
theorem dc_Un_readScanLayer_222 : decode c_C_Un_readScanLayer 222 = .ok (.isub, 1) := by decide +kernel
theorem dc_Un_readScanLayer_223 : decode c_C_Un_readScanLayer 223 = .ok (.invokevirtual 74, 3) := by decide +kernel
theorem dc_Un_readScanLayer_226 : decode c_C_Un_readScanLayer 226 = .ok (.aload_n 0, 1) := by decide +kernel
theorem dc_Un_readScanLayer_227 : decode c_C_Un_readScanLayer 227 = .ok (.getfield 28, 3) := by decide +kernel
theorem dc_Un_readScanLayer_230 : decode c_C_Un_readScanLayer 230 = .ok (.iload_n 3, 1) := by decide +kernel
theorem dc_Un_readScanLayer_231 : decode c_C_Un_readScanLayer 231 = .ok (.iload 5, 2) := by decide +kernel
theorem dc_Un_readScanLayer_233 : decode c_C_Un_readScanLayer 233 = .ok (.bipush 16, 2) := by decide +kernel
theorem dc_Un_readScanLayer_235 : decode c_C_Un_readScanLayer 235 = .ok (.idiv, 1) := by decide +kernel
theorem dc_Un_readScanLayer_236 : decode c_C_Un_readScanLayer 236 = .ok (.iconst 2, 1) := by decide +kernel
theorem dc_Un_readScanLayer_237 : decode c_C_Un_readScanLayer 237 = .ok (.iload 5, 2) := by decide +kernel
theorem dc_Un_readScanLayer_239 : decode c_C_Un_readScanLayer 239 = .ok (.bipush 16, 2) := by decide +kernel
theorem dc_Un_readScanLayer_241 : decode c_C_Un_readScanLayer 241 = .ok (.irem, 1) := by decide +kernel
theorem dc_Un_readScanLayer_242 : decode c_C_Un_readScanLayer 242 = .ok (.iadd, 1) := by decide +kernel
theorem dc_Un_readScanLayer_243 : decode c_C_Un_readScanLayer 243 = .ok (.invokevirtual 210, 3) := by decide +kernel
theorem dc_Un_readScanLayer_246 : decode c_C_Un_readScanLayer 246 = .ok (.aload_n 0, 1) := by decide +kernel
theorem dc_Un_readScanLayer_247 : decode c_C_Un_readScanLayer 247 = .ok (.getfield 53, 3) := by decide +kernel
theorem dc_Un_readScanLayer_250 : decode c_C_Un_readScanLayer 250 = .ok (.iload_n 3, 1) := by decide +kernel
theorem dc_Un_readScanLayer_251 : decode c_C_Un_readScanLayer 251 = .ok (.iconst 1, 1) := by decide +kernel
theorem dc_Un_readScanLayer_252 : decode c_C_Un_readScanLayer 252 = .ok (.bastore, 1) := by decide +kernel
theorem dc_Un_readScanLayer_253 : decode c_C_Un_readScanLayer 253 = .ok (.iload_n 3, 1) := by decide +kernel
theorem dc_Un_readScanLayer_254 : decode c_C_Un_readScanLayer 254 = .ok (.ireturn, 1) := by decide +kernel
theorem dc_Un_readScan_0 : decode c_C_Un_readScan 0 = .ok (.aload_n 0, 1) := by decide +kernel
theorem dc_Un_readScan_1 : decode c_C_Un_readScan 1 = .ok (.getfield 12, 3) := by decide +kernel
theorem dc_Un_readScan_4 : decode c_C_Un_readScan 4 = .ok (.getfield 70, 3) := by decide +kernel
theorem dc_Un_readScan_7 : decode c_C_Un_readScan 7 = .ok (.istore_n 1, 1) := by decide +kernel
theorem dc_Un_readScan_8 : decode c_C_Un_readScan 8 = .ok (.aload_n 0, 1) := by decide +kernel
theorem dc_Un_readScan_9 : decode c_C_Un_readScan 9 = .ok (.iconst 1, 1) := by decide +kernel
theorem dc_Un_readScan_10 : decode c_C_Un_readScan 10 = .ok (.aload_n 0, 1) := by decide +kernel
theorem dc_Un_readScan_11 : decode c_C_Un_readScan 11 = .ok (.getfield 21, 3) := by decide +kernel
theorem dc_Un_readScan_14 : decode c_C_Un_readScan 14 = .ok (.getfield 110, 3) := by decide +kernel
theorem dc_Un_readScan_17 : decode c_C_Un_readScan 17 = .ok (.invokevirtual 151, 3) := by decide +kernel
theorem dc_Un_readScan_20 : decode c_C_Un_readScan 20 = .ok (.istore_n 2, 1) := by decide +kernel
theorem dc_Un_readScan_21 : decode c_C_Un_readScan 21 = .ok (.aload_n 0, 1) := by decide +kernel
theorem dc_Un_readScan_22 : decode c_C_Un_readScan 22 = .ok (.aload_n 0, 1) := by decide +kernel
theorem dc_Un_readScan_23 : decode c_C_Un_readScan 23 = .ok (.getfield 119, 3) := by decide +kernel
theorem dc_Un_readScan_26 : decode c_C_Un_readScan 26 = .ok (.bipush 6, 2) := by decide +kernel
theorem dc_Un_readScan_28 : decode c_C_Un_readScan 28 = .ok (.iconst 2, 1) := by decide +kernel
theorem dc_Un_readScan_29 : decode c_C_Un_readScan 29 = .ok (.iload_n 2, 1) := by decide +kernel
theorem dc_Un_readScan_30 : decode c_C_Un_readScan 30 = .ok (.imul, 1) := by decide +kernel
theorem dc_Un_readScan_31 : decode c_C_Un_readScan 31 = .ok (.iadd, 1) := by decide +kernel
theorem dc_Un_readScan_32 : decode c_C_Un_readScan 32 = .ok (.if_icmp .ne 7, 3) := by decide +kernel
theorem dc_Un_readScan_35 : decode c_C_Un_readScan 35 = .ok (.iconst 1, 1) := by decide +kernel
theorem dc_Un_readScan_36 : decode c_C_Un_readScan 36 = .ok (.goto 4, 3) := by decide +kernel
theorem dc_Un_readScan_39 : decode c_C_Un_readScan 39 = .ok (.iconst 0, 1) := by decide +kernel
theorem dc_Un_readScan_40 : decode c_C_Un_readScan 40 = .ok (.invokevirtual 128, 3) := by decide +kernel
theorem dc_Un_readScan_43 : decode c_C_Un_readScan 43 = .ok (.aload_n 0, 1) := by decide +kernel
theorem dc_Un_readScan_44 : decode c_C_Un_readScan 44 = .ok (.getfield 28, 3) := by decide +kernel
theorem dc_Un_readScan_47 : decode c_C_Un_readScan 47 = .ok (.iconst 0, 1) := by decide +kernel
theorem dc_Un_readScan_48 : decode c_C_Un_readScan 48 = .ok (.putfield 188, 3) := by decide +kernel
theorem dc_Un_readScan_51 : decode c_C_Un_readScan 51 = .ok (.iconst 0, 1) := by decide +kernel
theorem dc_Un_readScan_52 : decode c_C_Un_readScan 52 = .ok (.istore_n 3, 1) := by decide +kernel
theorem dc_Un_readScan_53 : decode c_C_Un_readScan 53 = .ok (.iconst 0, 1) := by decide +kernel
theorem dc_Un_readScan_54 : decode c_C_Un_readScan 54 = .ok (.istore 4, 2) := by decide +kernel
theorem dc_Un_readScan_56 : decode c_C_Un_readScan 56 = .ok (.iload 4, 2) := by decide +kernel
theorem dc_Un_readScan_58 : decode c_C_Un_readScan 58 = .ok (.iload_n 2, 1) := by decide +kernel
theorem dc_Un_readScan_59 : decode c_C_Un_readScan 59 = .ok (.if_icmp .ge 17, 3) := by decide +kernel
theorem dc_Un_readScan_62 : decode c_C_Un_readScan 62 = .ok (.aload_n 0, 1) := by decide +kernel
theorem dc_Un_readScan_63 : decode c_C_Un_readScan 63 = .ok (.iload_n 3, 1) := by decide +kernel
theorem dc_Un_readScan_64 : decode c_C_Un_readScan 64 = .ok (.invokevirtual 189, 3) := by decide +kernel
theorem dc_Un_readScan_67 : decode c_C_Un_readScan 67 = .ok (.iconst 1, 1) := by decide +kernel
theorem dc_Un_readScan_68 : decode c_C_Un_readScan 68 = .ok (.iadd, 1) := by decide +kernel
theorem dc_Un_readScan_69 : decode c_C_Un_readScan 69 = .ok (.istore_n 3, 1) := by decide +kernel
theorem dc_Un_readScan_70 : decode c_C_Un_readScan 70 = .ok (.iinc 4 1, 3) := by decide +kernel
theorem dc_Un_readScan_73 : decode c_C_Un_readScan 73 = .ok (.goto (-17), 3) := by decide +kernel
theorem dc_Un_readScan_76 : decode c_C_Un_readScan 76 = .ok (.aload_n 0, 1) := by decide +kernel
theorem dc_Un_readScan_77 : decode c_C_Un_readScan 77 = .ok (.iconst 0, 1) := by decide +kernel
theorem dc_Un_readScan_78 : decode c_C_Un_readScan 78 = .ok (.iconst 0, 1) := by decide +kernel
theorem dc_Un_readScan_79 : decode c_C_Un_readScan 79 = .ok (.invokevirtual 151, 3) := by decide +kernel
theorem dc_Un_readScan_82 : decode c_C_Un_readScan 82 = .ok (.pop, 1) := by decide +kernel
theorem dc_Un_readScan_83 : decode c_C_Un_readScan 83 = .ok (.aload_n 0, 1) := by decide +kernel
theorem dc_Un_readScan_84 : decode c_C_Un_readScan 84 = .ok (.bipush 63, 2) := by decide +kernel
theorem dc_Un_readScan_86 : decode c_C_Un_readScan 86 = .ok (.bipush 63, 2) := by decide +kernel
theorem dc_Un_readScan_88 : decode c_C_Un_readScan 88 = .ok (.invokevirtual 151, 3) := by decide +kernel
theorem dc_Un_readScan_91 : decode c_C_Un_readScan 91 = .ok (.pop, 1) := by decide +kernel
theorem dc_Un_readScan_92 : decode c_C_Un_readScan 92 = .ok (.aload_n 0, 1) := by decide +kernel
theorem dc_Un_readScan_93 : decode c_C_Un_readScan 93 = .ok (.iconst 0, 1) := by decide +kernel
theorem dc_Un_readScan_94 : decode c_C_Un_readScan 94 = .ok (.iconst 0, 1) := by decide +kernel
theorem dc_Un_readScan_95 : decode c_C_Un_readScan 95 = .ok (.invokevirtual 151, 3) := by decide +kernel
theorem dc_Un_readScan_98 : decode c_C_Un_readScan 98 = .ok (.pop, 1) := by decide +kernel
theorem dc_Un_readScan_99 : decode c_C_Un_readScan 99 = .ok (.iload_n 2, 1) := by decide +kernel
theorem dc_Un_readScan_100 : decode c_C_Un_readScan 100 = .ok (.iconst 1, 1) := by decide +kernel
theorem dc_Un_readScan_101 : decode c_C_Un_readScan 101 = .ok (.if_icmp .le 29, 3) := by decide +kernel
theorem dc_Un_readScan_104 : decode c_C_Un_readScan 104 = .ok (.aload_n 0, 1) := by decide +kernel
theorem dc_Un_readScan_105 : decode c_C_Un_readScan 105 = .ok (.getfield 28, 3) := by decide +kernel
theorem dc_Un_readScan_108 : decode c_C_Un_readScan 108 = .ok (.aload_n 0, 1) := by decide +kernel
theorem dc_Un_readScan_109 : decode c_C_Un_readScan 109 = .ok (.getfield 21, 3) := by decide +kernel
theorem dc_Un_readScan_112 : decode c_C_Un_readScan 112 = .ok (.invokevirtual 193, 3) := by decide +kernel
theorem dc_Un_readScan_115 : decode c_C_Un_readScan 115 = .ok (.bipush 10, 2) := by decide +kernel
theorem dc_Un_readScan_117 : decode c_C_Un_readScan 117 = .ok (.if_icmp .le 13, 3) := by decide +kernel
theorem dc_Un_readScan_120 : decode c_C_Un_readScan 120 = .ok (.aload_n 0, 1) := by decide +kernel
theorem dc_Un_readScan_121 : decode c_C_Un_readScan 121 = .ok (.getfield 12, 3) := by decide +kernel
theorem dc_Un_readScan_124 : decode c_C_Un_readScan 124 = .ok (.bipush 6, 2) := by decide +kernel
theorem dc_Un_readScan_126 : decode c_C_Un_readScan 126 = .ok (.iload_n 1, 1) := by decide +kernel
theorem dc_Un_readScan_127 : decode c_C_Un_readScan 127 = .ok (.invokevirtual 74, 3) := by decide +kernel
theorem dc_Un_readScan_130 : decode c_C_Un_readScan 130 = .ok (.aload_n 0, 1) := by decide +kernel
theorem dc_Un_readScan_131 : decode c_C_Un_readScan 131 = .ok (.getfield 28, 3) := by decide +kernel
theorem dc_Un_readScan_134 : decode c_C_Un_readScan 134 = .ok (.aload_n 0, 1) := by decide +kernel
theorem dc_Un_readScan_135 : decode c_C_Un_readScan 135 = .ok (.getfield 21, 3) := by decide +kernel
theorem dc_Un_readScan_138 : decode c_C_Un_readScan 138 = .ok (.invokevirtual 197, 3) := by decide +kernel
theorem dc_Un_readScan_141 : decode c_C_Un_readScan 141 = .ok (.return_, 1) := by decide +kernel
theorem dc_Un_wantMore_0 : decode c_C_Un_wantMore 0 = .ok (.aload_n 0, 1) := by decide +kernel
theorem dc_Un_wantMore_1 : decode c_C_Un_wantMore 1 = .ok (.getfield 12, 3) := by decide +kernel
theorem dc_Un_wantMore_4 : decode c_C_Un_wantMore 4 = .ok (.getfield 70, 3) := by decide +kernel
theorem dc_Un_wantMore_7 : decode c_C_Un_wantMore 7 = .ok (.aload_n 0, 1) := by decide +kernel
theorem dc_Un_wantMore_8 : decode c_C_Un_wantMore 8 = .ok (.getfield 113, 3) := by decide +kernel
theorem dc_Un_wantMore_11 : decode c_C_Un_wantMore 11 = .ok (.aload_n 0, 1) := by decide +kernel
theorem dc_Un_wantMore_12 : decode c_C_Un_wantMore 12 = .ok (.getfield 119, 3) := by decide +kernel
theorem dc_Un_wantMore_15 : decode c_C_Un_wantMore 15 = .ok (.iadd, 1) := by decide +kernel
theorem dc_Un_wantMore_16 : decode c_C_Un_wantMore 16 = .ok (.if_icmp .lt 15, 3) := by decide +kernel
theorem dc_Un_wantMore_19 : decode c_C_Un_wantMore 19 = .ok (.aload_n 0, 1) := by decide +kernel
theorem dc_Un_wantMore_20 : decode c_C_Un_wantMore 20 = .ok (.getfield 12, 3) := by decide +kernel
theorem dc_Un_wantMore_23 : decode c_C_Un_wantMore 23 = .ok (.iconst 4, 1) := by decide +kernel
theorem dc_Un_wantMore_24 : decode c_C_Un_wantMore 24 = .ok (.aload_n 0, 1) := by decide +kernel
theorem dc_Un_wantMore_25 : decode c_C_Un_wantMore 25 = .ok (.getfield 113, 3) := by decide +kernel
theorem dc_Un_wantMore_28 : decode c_C_Un_wantMore 28 = .ok (.invokevirtual 74, 3) := by decide +kernel
theorem dc_Un_wantMore_31 : decode c_C_Un_wantMore 31 = .ok (.return_, 1) := by decide +kernel
theorem dc_Un_readTable_0 : decode c_C_Un_readTable 0 = .ok (.aload_n 0, 1) := by decide +kernel
theorem dc_Un_readTable_1 : decode c_C_Un_readTable 1 = .ok (.iconst 0, 1) := by decide +kernel
theorem dc_Un_readTable_2 : decode c_C_Un_readTable 2 = .ok (.iconst 3, 1) := by decide +kernel
theorem dc_Un_readTable_3 : decode c_C_Un_readTable 3 = .ok (.invokevirtual 151, 3) := by decide +kernel
theorem dc_Un_readTable_6 : decode c_C_Un_readTable 6 = .ok (.istore_n 1, 1) := by decide +kernel
theorem dc_Un_readTable_7 : decode c_C_Un_readTable 7 = .ok (.iconst 0, 1) := by decide +kernel
theorem dc_Un_readTable_8 : decode c_C_Un_readTable 8 = .ok (.istore_n 2, 1) := by decide +kernel
theorem dc_Un_readTable_9 : decode c_C_Un_readTable 9 = .ok (.iload_n 2, 1) := by decide +kernel
theorem dc_Un_readTable_10 : decode c_C_Un_readTable 10 = .ok (.bipush 64, 2) := by decide +kernel
theorem dc_Un_readTable_12 : decode c_C_Un_readTable 12 = .ok (.if_icmp .ge 32, 3) := by decide +kernel
theorem dc_Un_readTable_15 : decode c_C_Un_readTable 15 = .ok (.aload_n 0, 1) := by decide +kernel
theorem dc_Un_readTable_16 : decode c_C_Un_readTable 16 = .ok (.invokevirtual 155, 3) := by decide +kernel
theorem dc_Un_readTable_19 : decode c_C_Un_readTable 19 = .ok (.aload_n 0, 1) := by decide +kernel
theorem dc_Un_readTable_20 : decode c_C_Un_readTable 20 = .ok (.getfield 32, 3) := by decide +kernel
theorem dc_Un_readTable_23 : decode c_C_Un_readTable 23 = .ok (.bipush 64, 2) := by decide +kernel
theorem dc_Un_readTable_25 : decode c_C_Un_readTable 25 = .ok (.iload_n 1, 1) := by decide +kernel
theorem dc_Un_readTable_26 : decode c_C_Un_readTable 26 = .ok (.imul, 1) := by decide +kernel
theorem dc_Un_readTable_27 : decode c_C_Un_readTable 27 = .ok (.iload_n 2, 1) := by decide +kernel
theorem dc_Un_readTable_28 : decode c_C_Un_readTable 28 = .ok (.iadd, 1) := by decide +kernel
theorem dc_Un_readTable_29 : decode c_C_Un_readTable 29 = .ok (.aload_n 0, 1) := by decide +kernel
theorem dc_Un_readTable_30 : decode c_C_Un_readTable 30 = .ok (.iconst 1, 1) := by decide +kernel
theorem dc_Un_readTable_31 : decode c_C_Un_readTable 31 = .ok (.sipush 255, 3) := by decide +kernel
theorem dc_Un_readTable_34 : decode c_C_Un_readTable 34 = .ok (.invokevirtual 151, 3) := by decide +kernel
theorem dc_Un_readTable_37 : decode c_C_Un_readTable 37 = .ok (.iastore, 1) := by decide +kernel
theorem dc_Un_readTable_38 : decode c_C_Un_readTable 38 = .ok (.iinc 2 1, 3) := by decide +kernel
theorem dc_Un_readTable_41 : decode c_C_Un_readTable 41 = .ok (.goto (-32), 3) := by decide +kernel
theorem dc_Un_readTable_44 : decode c_C_Un_readTable 44 = .ok (.aload_n 0, 1) := by decide +kernel
theorem dc_Un_readTable_45 : decode c_C_Un_readTable 45 = .ok (.getfield 36, 3) := by decide +kernel
theorem dc_Un_readTable_48 : decode c_C_Un_readTable 48 = .ok (.iload_n 1, 1) := by decide +kernel
theorem dc_Un_readTable_49 : decode c_C_Un_readTable 49 = .ok (.iconst 1, 1) := by decide +kernel
theorem dc_Un_readTable_50 : decode c_C_Un_readTable 50 = .ok (.bastore, 1) := by decide +kernel
theorem dc_Un_readTable_51 : decode c_C_Un_readTable 51 = .ok (.return_, 1) := by decide +kernel
theorem dc_Co_giveOut_0 : decode c_C_Co_giveOut 0 = .ok (.iconst 0, 1) := by decide +kernel
theorem dc_Co_giveOut_1 : decode c_C_Co_giveOut 1 = .ok (.istore_n 1, 1) := by decide +kernel
theorem dc_Co_giveOut_2 : decode c_C_Co_giveOut 2 = .ok (.iconst 1, 1) := by decide +kernel
theorem dc_Co_giveOut_3 : decode c_C_Co_giveOut 3 = .ok (.istore_n 2, 1) := by decide +kernel
theorem dc_Co_giveOut_4 : decode c_C_Co_giveOut 4 = .ok (.aload_n 0, 1) := by decide +kernel
theorem dc_Co_giveOut_5 : decode c_C_Co_giveOut 5 = .ok (.iconst 0, 1) := by decide +kernel
theorem dc_Co_giveOut_6 : decode c_C_Co_giveOut 6 = .ok (.putfield 24, 3) := by decide +kernel
theorem dc_Co_giveOut_9 : decode c_C_Co_giveOut 9 = .ok (.iconst 1, 1) := by decide +kernel
theorem dc_Co_giveOut_10 : decode c_C_Co_giveOut 10 = .ok (.istore_n 3, 1) := by decide +kernel
theorem dc_Co_giveOut_11 : decode c_C_Co_giveOut 11 = .ok (.iload_n 3, 1) := by decide +kernel
theorem dc_Co_giveOut_12 : decode c_C_Co_giveOut 12 = .ok (.bipush 16, 2) := by decide +kernel
theorem dc_Co_giveOut_14 : decode c_C_Co_giveOut 14 = .ok (.if_icmp .gt 83, 3) := by decide +kernel
theorem dc_Co_giveOut_17 : decode c_C_Co_giveOut 17 = .ok (.iload_n 2, 1) := by decide +kernel
theorem dc_Co_giveOut_18 : decode c_C_Co_giveOut 18 = .ok (.ifCond .eq 79, 3) := by decide +kernel
theorem dc_Co_giveOut_21 : decode c_C_Co_giveOut 21 = .ok (.aload_n 0, 1) := by decide +kernel
theorem dc_Co_giveOut_22 : decode c_C_Co_giveOut 22 = .ok (.getfield 15, 3) := by decide +kernel
theorem dc_Co_giveOut_25 : decode c_C_Co_giveOut 25 = .ok (.iload_n 3, 1) := by decide +kernel
theorem dc_Co_giveOut_26 : decode c_C_Co_giveOut 26 = .ok (.iload_n 1, 1) := by decide +kernel
theorem dc_Co_giveOut_27 : decode c_C_Co_giveOut 27 = .ok (.iastore, 1) := by decide +kernel
theorem dc_Co_giveOut_28 : decode c_C_Co_giveOut 28 = .ok (.aload_n 0, 1) := by decide +kernel
theorem dc_Co_giveOut_29 : decode c_C_Co_giveOut 29 = .ok (.getfield 18, 3) := by decide +kernel
theorem dc_Co_giveOut_32 : decode c_C_Co_giveOut 32 = .ok (.iload_n 3, 1) := by decide +kernel
theorem dc_Co_giveOut_33 : decode c_C_Co_giveOut 33 = .ok (.aload_n 0, 1) := by decide +kernel
theorem dc_Co_giveOut_34 : decode c_C_Co_giveOut 34 = .ok (.getfield 24, 3) := by decide +kernel
theorem dc_Co_giveOut_37 : decode c_C_Co_giveOut 37 = .ok (.iastore, 1) := by decide +kernel
theorem dc_Co_giveOut_38 : decode c_C_Co_giveOut 38 = .ok (.iload_n 1, 1) := by decide +kernel
theorem dc_Co_giveOut_39 : decode c_C_Co_giveOut 39 = .ok (.aload_n 0, 1) := by decide +kernel
theorem dc_Co_giveOut_40 : decode c_C_Co_giveOut 40 = .ok (.getfield 9, 3) := by decide +kernel
theorem dc_Co_giveOut_43 : decode c_C_Co_giveOut 43 = .ok (.iload_n 3, 1) := by decide +kernel
theorem dc_Co_giveOut_44 : decode c_C_Co_giveOut 44 = .ok (.iaload, 1) := by decide +kernel
theorem dc_Co_giveOut_45 : decode c_C_Co_giveOut 45 = .ok (.iadd, 1) := by decide +kernel
theorem dc_Co_giveOut_46 : decode c_C_Co_giveOut 46 = .ok (.istore_n 1, 1) := by decide +kernel
theorem dc_Co_giveOut_47 : decode c_C_Co_giveOut 47 = .ok (.aload_n 0, 1) := by decide +kernel
theorem dc_Co_giveOut_48 : decode c_C_Co_giveOut 48 = .ok (.dup, 1) := by decide +kernel
theorem dc_Co_giveOut_49 : decode c_C_Co_giveOut 49 = .ok (.getfield 24, 3) := by decide +kernel
theorem dc_Co_giveOut_52 : decode c_C_Co_giveOut 52 = .ok (.aload_n 0, 1) := by decide +kernel
theorem dc_Co_giveOut_53 : decode c_C_Co_giveOut 53 = .ok (.getfield 9, 3) := by decide +kernel
theorem dc_Co_giveOut_56 : decode c_C_Co_giveOut 56 = .ok (.iload_n 3, 1) := by decide +kernel
theorem dc_Co_giveOut_57 : decode c_C_Co_giveOut 57 = .ok (.iaload, 1) := by decide +kernel
theorem dc_Co_giveOut_58 : decode c_C_Co_giveOut 58 = .ok (.iadd, 1) := by decide +kernel
theorem dc_Co_giveOut_59 : decode c_C_Co_giveOut 59 = .ok (.putfield 24, 3) := by decide +kernel
theorem dc_Co_giveOut_62 : decode c_C_Co_giveOut 62 = .ok (.aload_n 0, 1) := by decide +kernel
theorem dc_Co_giveOut_63 : decode c_C_Co_giveOut 63 = .ok (.getfield 24, 3) := by decide +kernel
theorem dc_Co_giveOut_66 : decode c_C_Co_giveOut 66 = .ok (.aload_n 0, 1) := by decide +kernel
theorem dc_Co_giveOut_67 : decode c_C_Co_giveOut 67 = .ok (.getfield 21, 3) := by decide +kernel
theorem dc_Co_giveOut_70 : decode c_C_Co_giveOut 70 = .ok (.arraylength, 1) := by decide +kernel
theorem dc_Co_giveOut_71 : decode c_C_Co_giveOut 71 = .ok (.if_icmp .gt 14, 3) := by decide +kernel
theorem dc_Co_giveOut_74 : decode c_C_Co_giveOut 74 = .ok (.iload_n 1, 1) := by decide +kernel
theorem dc_Co_giveOut_75 : decode c_C_Co_giveOut 75 = .ok (.iconst 1, 1) := by decide +kernel
theorem dc_Co_giveOut_76 : decode c_C_Co_giveOut 76 = .ok (.iload_n 3, 1) := by decide +kernel
theorem dc_Co_giveOut_77 : decode c_C_Co_giveOut 77 = .ok (.ishl, 1) := by decide +kernel
theorem dc_Co_giveOut_78 : decode c_C_Co_giveOut 78 = .ok (.if_icmp .ge 7, 3) := by decide +kernel
theorem dc_Co_giveOut_81 : decode c_C_Co_giveOut 81 = .ok (.iconst 1, 1) := by decide +kernel
theorem dc_Co_giveOut_82 : decode c_C_Co_giveOut 82 = .ok (.goto 4, 3) := by decide +kernel
theorem dc_Co_giveOut_85 : decode c_C_Co_giveOut 85 = .ok (.iconst 0, 1) := by decide +kernel
theorem dc_Co_giveOut_86 : decode c_C_Co_giveOut 86 = .ok (.istore_n 2, 1) := by decide +kernel
theorem dc_Co_giveOut_87 : decode c_C_Co_giveOut 87 = .ok (.iload_n 1, 1) := by decide +kernel
theorem dc_Co_giveOut_88 : decode c_C_Co_giveOut 88 = .ok (.iconst 2, 1) := by decide +kernel
theorem dc_Co_giveOut_89 : decode c_C_Co_giveOut 89 = .ok (.imul, 1) := by decide +kernel
theorem dc_Co_giveOut_90 : decode c_C_Co_giveOut 90 = .ok (.istore_n 1, 1) := by decide +kernel
theorem dc_Co_giveOut_91 : decode c_C_Co_giveOut 91 = .ok (.iinc 3 1, 3) := by decide +kernel
theorem dc_Co_giveOut_94 : decode c_C_Co_giveOut 94 = .ok (.goto (-83), 3) := by decide +kernel
theorem dc_Co_giveOut_97 : decode c_C_Co_giveOut 97 = .ok (.iload_n 2, 1) := by decide +kernel
theorem dc_Co_giveOut_98 : decode c_C_Co_giveOut 98 = .ok (.ireturn, 1) := by decide +kernel
theorem dc_Un_isForRests_0 : decode c_C_Un_isForRests 0 = .ok (.iload_n 0, 1) := by decide +kernel
theorem dc_Un_isForRests_1 : decode c_C_Un_isForRests 1 = .ok (.ifCond .eq 23, 3) := by decide +kernel
theorem dc_Un_isForRests_4 : decode c_C_Un_isForRests 4 = .ok (.iload_n 0, 1) := by decide +kernel
theorem dc_Un_isForRests_5 : decode c_C_Un_isForRests 5 = .ok (.sipush 240, 3) := by decide +kernel
theorem dc_Un_isForRests_8 : decode c_C_Un_isForRests 8 = .ok (.if_icmp .eq 16, 3) := by decide +kernel
theorem dc_Un_isForRests_11 : decode c_C_Un_isForRests 11 = .ok (.iload_n 0, 1) := by decide +kernel
theorem dc_Un_isForRests_12 : decode c_C_Un_isForRests 12 = .ok (.bipush 16, 2) := by decide +kernel
theorem dc_Un_isForRests_14 : decode c_C_Un_isForRests 14 = .ok (.irem, 1) := by decide +kernel
theorem dc_Un_isForRests_15 : decode c_C_Un_isForRests 15 = .ok (.iconst 1, 1) := by decide +kernel
theorem dc_Un_isForRests_16 : decode c_C_Un_isForRests 16 = .ok (.bipush 10, 2) := by decide +kernel
theorem dc_Un_isForRests_18 : decode c_C_Un_isForRests 18 = .ok (.invokestatic 141, 3) := by decide +kernel
theorem dc_Un_isForRests_21 : decode c_C_Un_isForRests 21 = .ok (.ifCond .eq 7, 3) := by decide +kernel
theorem dc_Un_isForRests_24 : decode c_C_Un_isForRests 24 = .ok (.iconst 1, 1) := by decide +kernel
theorem dc_Un_isForRests_25 : decode c_C_Un_isForRests 25 = .ok (.goto 4, 3) := by decide +kernel
theorem dc_Un_isForRests_28 : decode c_C_Un_isForRests 28 = .ok (.iconst 0, 1) := by decide +kernel
theorem dc_Un_isForRests_29 : decode c_C_Un_isForRests 29 = .ok (.ireturn, 1) := by decide +kernel
theorem dc_Un_readCodes_0 : decode c_C_Un_readCodes 0 = .ok (.aload_n 0, 1) := by decide +kernel
theorem dc_Un_readCodes_1 : decode c_C_Un_readCodes 1 = .ok (.iconst 0, 1) := by decide +kernel
theorem dc_Un_readCodes_2 : decode c_C_Un_readCodes 2 = .ok (.bipush 17, 2) := by decide +kernel
theorem dc_Un_readCodes_4 : decode c_C_Un_readCodes 4 = .ok (.invokevirtual 151, 3) := by decide +kernel
theorem dc_Un_readCodes_7 : decode c_C_Un_readCodes 7 = .ok (.istore_n 1, 1) := by decide +kernel
theorem dc_Un_readCodes_8 : decode c_C_Un_readCodes 8 = .ok (.iload_n 1, 1) := by decide +kernel
theorem dc_Un_readCodes_9 : decode c_C_Un_readCodes 9 = .ok (.bipush 16, 2) := by decide +kernel
theorem dc_Un_readCodes_11 : decode c_C_Un_readCodes 11 = .ok (.irem, 1) := by decide +kernel
theorem dc_Un_readCodes_12 : decode c_C_Un_readCodes 12 = .ok (.iconst 1, 1) := by decide +kernel
theorem dc_Un_readCodes_13 : decode c_C_Un_readCodes 13 = .ok (.if_icmp .le 20, 3) := by decide +kernel
theorem dc_Un_readCodes_16 : decode c_C_Un_readCodes 16 = .ok (.aload_n 0, 1) := by decide +kernel
theorem dc_Un_readCodes_17 : decode c_C_Un_readCodes 17 = .ok (.getfield 12, 3) := by decide +kernel
theorem dc_Un_readCodes_20 : decode c_C_Un_readCodes 20 = .ok (.iconst 5, 1) := by decide +kernel
theorem dc_Un_readCodes_21 : decode c_C_Un_readCodes 21 = .ok (.aload_n 0, 1) := by decide +kernel
theorem dc_Un_readCodes_22 : decode c_C_Un_readCodes 22 = .ok (.getfield 12, 3) := by decide +kernel
theorem dc_Un_readCodes_25 : decode c_C_Un_readCodes 25 = .ok (.getfield 70, 3) := by decide +kernel
theorem dc_Un_readCodes_28 : decode c_C_Un_readCodes 28 = .ok (.iconst 1, 1) := by decide +kernel
theorem dc_Un_readCodes_29 : decode c_C_Un_readCodes 29 = .ok (.isub, 1) := by decide +kernel
theorem dc_Un_readCodes_30 : decode c_C_Un_readCodes 30 = .ok (.invokevirtual 74, 3) := by decide +kernel
theorem dc_Un_readCodes_33 : decode c_C_Un_readCodes 33 = .ok (.aload_n 0, 1) := by decide +kernel
theorem dc_Un_readCodes_34 : decode c_C_Un_readCodes 34 = .ok (.getfield 43, 3) := by decide +kernel
theorem dc_Un_readCodes_37 : decode c_C_Un_readCodes 37 = .ok (.iload_n 1, 1) := by decide +kernel
theorem dc_Un_readCodes_38 : decode c_C_Un_readCodes 38 = .ok (.bipush 16, 2) := by decide +kernel
theorem dc_Un_readCodes_40 : decode c_C_Un_readCodes 40 = .ok (.idiv, 1) := by decide +kernel
theorem dc_Un_readCodes_41 : decode c_C_Un_readCodes 41 = .ok (.iconst 2, 1) := by decide +kernel
theorem dc_Un_readCodes_42 : decode c_C_Un_readCodes 42 = .ok (.imul, 1) := by decide +kernel
theorem dc_Un_readCodes_43 : decode c_C_Un_readCodes 43 = .ok (.iload_n 1, 1) := by decide +kernel
theorem dc_Un_readCodes_44 : decode c_C_Un_readCodes 44 = .ok (.bipush 16, 2) := by decide +kernel
theorem dc_Un_readCodes_46 : decode c_C_Un_readCodes 46 = .ok (.irem, 1) := by decide +kernel
theorem dc_Un_readCodes_47 : decode c_C_Un_readCodes 47 = .ok (.iadd, 1) := by decide +kernel
theorem dc_Un_readCodes_48 : decode c_C_Un_readCodes 48 = .ok (.aaload, 1) := by decide +kernel
theorem dc_Un_readCodes_49 : decode c_C_Un_readCodes 49 = .ok (.astore_n 2, 1) := by decide +kernel
theorem dc_Un_readCodes_50 : decode c_C_Un_readCodes 50 = .ok (.aload_n 0, 1) := by decide +kernel
theorem dc_Un_readCodes_51 : decode c_C_Un_readCodes 51 = .ok (.getfield 12, 3) := by decide +kernel
theorem dc_Un_readCodes_54 : decode c_C_Un_readCodes 54 = .ok (.getfield 70, 3) := by decide +kernel
theorem dc_Un_readCodes_57 : decode c_C_Un_readCodes 57 = .ok (.istore_n 3, 1) := by decide +kernel
theorem dc_Un_readCodes_58 : decode c_C_Un_readCodes 58 = .ok (.iconst 1, 1) := by decide +kernel
theorem dc_Un_readCodes_59 : decode c_C_Un_readCodes 59 = .ok (.istore 4, 2) := by decide +kernel
theorem dc_Un_readCodes_61 : decode c_C_Un_readCodes 61 = .ok (.iload 4, 2) := by decide +kernel
theorem dc_Un_readCodes_63 : decode c_C_Un_readCodes 63 = .ok (.bipush 16, 2) := by decide +kernel
theorem dc_Un_readCodes_65 : decode c_C_Un_readCodes 65 = .ok (.if_icmp .gt 27, 3) := by decide +kernel
theorem dc_Un_readCodes_68 : decode c_C_Un_readCodes 68 = .ok (.aload_n 0, 1) := by decide +kernel
theorem dc_Un_readCodes_69 : decode c_C_Un_readCodes 69 = .ok (.invokevirtual 155, 3) := by decide +kernel
theorem dc_Un_readCodes_72 : decode c_C_Un_readCodes 72 = .ok (.aload_n 2, 1) := by decide +kernel
theorem dc_Un_readCodes_73 : decode c_C_Un_readCodes 73 = .ok (.getfield 158, 3) := by decide +kernel
theorem dc_Un_readCodes_76 : decode c_C_Un_readCodes 76 = .ok (.iload 4, 2) := by decide +kernel
theorem dc_Un_readCodes_78 : decode c_C_Un_readCodes 78 = .ok (.aload_n 0, 1) := by decide +kernel
theorem dc_Un_readCodes_79 : decode c_C_Un_readCodes 79 = .ok (.getfield 12, 3) := by decide +kernel
theorem dc_Un_readCodes_82 : decode c_C_Un_readCodes 82 = .ok (.invokevirtual 138, 3) := by decide +kernel
theorem dc_Un_readCodes_85 : decode c_C_Un_readCodes 85 = .ok (.iastore, 1) := by decide +kernel
theorem dc_Un_readCodes_86 : decode c_C_Un_readCodes 86 = .ok (.iinc 4 1, 3) := by decide +kernel
theorem dc_Un_readCodes_89 : decode c_C_Un_readCodes 89 = .ok (.goto (-28), 3) := by decide +kernel
theorem dc_Un_readCodes_92 : decode c_C_Un_readCodes 92 = .ok (.aload_n 2, 1) := by decide +kernel
theorem dc_Un_readCodes_93 : decode c_C_Un_readCodes 93 = .ok (.invokevirtual 161, 3) := by decide +kernel
theorem dc_Un_readCodes_96 : decode c_C_Un_readCodes 96 = .ok (.ifCond .ne 12, 3) := by decide +kernel
theorem dc_Un_readCodes_99 : decode c_C_Un_readCodes 99 = .ok (.aload_n 0, 1) := by decide +kernel
theorem dc_Un_readCodes_100 : decode c_C_Un_readCodes 100 = .ok (.getfield 12, 3) := by decide +kernel
theorem dc_Un_readCodes_103 : decode c_C_Un_readCodes 103 = .ok (.iconst 5, 1) := by decide +kernel
theorem dc_Un_readCodes_104 : decode c_C_Un_readCodes 104 = .ok (.iload_n 3, 1) := by decide +kernel
theorem dc_Un_readCodes_105 : decode c_C_Un_readCodes 105 = .ok (.invokevirtual 74, 3) := by decide +kernel
theorem dc_Un_readCodes_108 : decode c_C_Un_readCodes 108 = .ok (.iconst 0, 1) := by decide +kernel
theorem dc_Un_readCodes_109 : decode c_C_Un_readCodes 109 = .ok (.istore 4, 2) := by decide +kernel
theorem dc_Un_readCodes_111 : decode c_C_Un_readCodes 111 = .ok (.iload 4, 2) := by decide +kernel
theorem dc_Un_readCodes_113 : decode c_C_Un_readCodes 113 = .ok (.aload_n 2, 1) := by decide +kernel
theorem dc_Un_readCodes_114 : decode c_C_Un_readCodes 114 = .ok (.getfield 164, 3) := by decide +kernel
theorem dc_Un_readCodes_117 : decode c_C_Un_readCodes 117 = .ok (.if_icmp .ge 72, 3) := by decide +kernel
theorem dc_Un_readCodes_120 : decode c_C_Un_readCodes 120 = .ok (.aload_n 0, 1) := by decide +kernel
theorem dc_Un_readCodes_121 : decode c_C_Un_readCodes 121 = .ok (.invokevirtual 155, 3) := by decide +kernel
theorem dc_Un_readCodes_124 : decode c_C_Un_readCodes 124 = .ok (.aload_n 0, 1) := by decide +kernel
theorem dc_Un_readCodes_125 : decode c_C_Un_readCodes 125 = .ok (.getfield 12, 3) := by decide +kernel
theorem dc_Un_readCodes_128 : decode c_C_Un_readCodes 128 = .ok (.invokevirtual 138, 3) := by decide +kernel
theorem dc_Un_readCodes_131 : decode c_C_Un_readCodes 131 = .ok (.istore 5, 2) := by decide +kernel
theorem dc_Un_readCodes_133 : decode c_C_Un_readCodes 133 = .ok (.iload_n 1, 1) := by decide +kernel
theorem dc_Un_readCodes_134 : decode c_C_Un_readCodes 134 = .ok (.bipush 16, 2) := by decide +kernel
theorem dc_Un_readCodes_136 : decode c_C_Un_readCodes 136 = .ok (.if_icmp .ge 13, 3) := by decide +kernel
theorem dc_Un_readCodes_139 : decode c_C_Un_readCodes 139 = .ok (.iload 5, 2) := by decide +kernel
theorem dc_Un_readCodes_141 : decode c_C_Un_readCodes 141 = .ok (.bipush 11, 2) := by decide +kernel
theorem dc_Un_readCodes_143 : decode c_C_Un_readCodes 143 = .ok (.if_icmp .le 31, 3) := by decide +kernel
theorem dc_Un_readCodes_146 : decode c_C_Un_readCodes 146 = .ok (.goto 11, 3) := by decide +kernel
theorem dc_Un_readCodes_149 : decode c_C_Un_readCodes 149 = .ok (.iload 5, 2) := by decide +kernel
theorem dc_Un_readCodes_151 : decode c_C_Un_readCodes 151 = .ok (.invokestatic 167, 3) := by decide +kernel
theorem dc_Un_readCodes_154 : decode c_C_Un_readCodes 154 = .ok (.ifCond .ne 20, 3) := by decide +kernel
theorem dc_Un_readCodes_157 : decode c_C_Un_readCodes 157 = .ok (.aload_n 0, 1) := by decide +kernel
theorem dc_Un_readCodes_158 : decode c_C_Un_readCodes 158 = .ok (.getfield 12, 3) := by decide +kernel
theorem dc_Un_readCodes_161 : decode c_C_Un_readCodes 161 = .ok (.iconst 5, 1) := by decide +kernel
theorem dc_Un_readCodes_162 : decode c_C_Un_readCodes 162 = .ok (.aload_n 0, 1) := by decide +kernel
theorem dc_Un_readCodes_163 : decode c_C_Un_readCodes 163 = .ok (.getfield 12, 3) := by decide +kernel
theorem dc_Un_readCodes_166 : decode c_C_Un_readCodes 166 = .ok (.getfield 70, 3) := by decide +kernel
theorem dc_Un_readCodes_169 : decode c_C_Un_readCodes 169 = .ok (.iconst 1, 1) := by decide +kernel
theorem dc_Un_readCodes_170 : decode c_C_Un_readCodes 170 = .ok (.isub, 1) := by decide +kernel
theorem dc_Un_readCodes_171 : decode c_C_Un_readCodes 171 = .ok (.invokevirtual 74, 3) := by decide +kernel
theorem dc_Un_readCodes_174 : decode c_C_Un_readCodes 174 = .ok (.aload_n 2, 1) := by decide +kernel
theorem dc_Un_readCodes_175 : decode c_C_Un_readCodes 175 = .ok (.getfield 170, 3) := by decide +kernel
theorem dc_Un_readCodes_178 : decode c_C_Un_readCodes 178 = .ok (.iload 4, 2) := by decide +kernel
theorem dc_Un_readCodes_180 : decode c_C_Un_readCodes 180 = .ok (.iload 5, 2) := by decide +kernel
theorem dc_Un_readCodes_182 : decode c_C_Un_readCodes 182 = .ok (.iastore, 1) := by decide +kernel
theorem dc_Un_readCodes_183 : decode c_C_Un_readCodes 183 = .ok (.iinc 4 1, 3) := by decide +kernel
theorem dc_Un_readCodes_186 : decode c_C_Un_readCodes 186 = .ok (.goto (-75), 3) := by decide +kernel
theorem dc_Un_readCodes_189 : decode c_C_Un_readCodes 189 = .ok (.aload_n 2, 1) := by decide +kernel
theorem dc_Un_readCodes_190 : decode c_C_Un_readCodes 190 = .ok (.iconst 1, 1) := by decide +kernel
theorem dc_Un_readCodes_191 : decode c_C_Un_readCodes 191 = .ok (.putfield 105, 3) := by decide +kernel
theorem dc_Un_readCodes_194 : decode c_C_Un_readCodes 194 = .ok (.return_, 1) := by decide +kernel
theorem dc_Un_readParts_0 : decode c_C_Un_readParts 0 = .ok (.iconst 0, 1) := by decide +kernel
theorem dc_Un_readParts_1 : decode c_C_Un_readParts 1 = .ok (.istore_n 2, 1) := by decide +kernel
theorem dc_Un_readParts_2 : decode c_C_Un_readParts 2 = .ok (.aload_n 0, 1) := by decide +kernel
theorem dc_Un_readParts_3 : decode c_C_Un_readParts 3 = .ok (.getfield 12, 3) := by decide +kernel
theorem dc_Un_readParts_6 : decode c_C_Un_readParts 6 = .ok (.getfield 70, 3) := by decide +kernel
theorem dc_Un_readParts_9 : decode c_C_Un_readParts 9 = .ok (.aload_n 0, 1) := by decide +kernel
theorem dc_Un_readParts_10 : decode c_C_Un_readParts 10 = .ok (.getfield 113, 3) := by decide +kernel
theorem dc_Un_readParts_13 : decode c_C_Un_readParts 13 = .ok (.aload_n 0, 1) := by decide +kernel
theorem dc_Un_readParts_14 : decode c_C_Un_readParts 14 = .ok (.getfield 119, 3) := by decide +kernel
theorem dc_Un_readParts_17 : decode c_C_Un_readParts 17 = .ok (.iadd, 1) := by decide +kernel
theorem dc_Un_readParts_18 : decode c_C_Un_readParts 18 = .ok (.if_icmp .ge 33, 3) := by decide +kernel
theorem dc_Un_readParts_21 : decode c_C_Un_readParts 21 = .ok (.iload_n 2, 1) := by decide +kernel
theorem dc_Un_readParts_22 : decode c_C_Un_readParts 22 = .ok (.ldc 78, 2) := by decide +kernel
theorem dc_Un_readParts_24 : decode c_C_Un_readParts 24 = .ok (.if_icmp .ge 27, 3) := by decide +kernel
theorem dc_Un_readParts_27 : decode c_C_Un_readParts 27 = .ok (.iload_n 1, 1) := by decide +kernel
theorem dc_Un_readParts_28 : decode c_C_Un_readParts 28 = .ok (.sipush 219, 3) := by decide +kernel
theorem dc_Un_readParts_31 : decode c_C_Un_readParts 31 = .ok (.if_icmp .ne 10, 3) := by decide +kernel
theorem dc_Un_readParts_34 : decode c_C_Un_readParts 34 = .ok (.aload_n 0, 1) := by decide +kernel
theorem dc_Un_readParts_35 : decode c_C_Un_readParts 35 = .ok (.invokevirtual 145, 3) := by decide +kernel
theorem dc_Un_readParts_38 : decode c_C_Un_readParts 38 = .ok (.goto 7, 3) := by decide +kernel
theorem dc_Un_readParts_41 : decode c_C_Un_readParts 41 = .ok (.aload_n 0, 1) := by decide +kernel
theorem dc_Un_readParts_42 : decode c_C_Un_readParts 42 = .ok (.invokevirtual 148, 3) := by decide +kernel
theorem dc_Un_readParts_45 : decode c_C_Un_readParts 45 = .ok (.iinc 2 1, 3) := by decide +kernel
theorem dc_Un_readParts_48 : decode c_C_Un_readParts 48 = .ok (.goto (-46), 3) := by decide +kernel
theorem dc_Un_readParts_51 : decode c_C_Un_readParts 51 = .ok (.return_, 1) := by decide +kernel
theorem dc_Re_skip_0 : decode c_C_Re_skip 0 = .ok (.aload_n 0, 1) := by decide +kernel
theorem dc_Re_skip_1 : decode c_C_Re_skip 1 = .ok (.dup, 1) := by decide +kernel
theorem dc_Re_skip_2 : decode c_C_Re_skip 2 = .ok (.getfield 35, 3) := by decide +kernel
theorem dc_Re_skip_5 : decode c_C_Re_skip 5 = .ok (.iload_n 1, 1) := by decide +kernel
theorem dc_Re_skip_6 : decode c_C_Re_skip 6 = .ok (.iadd, 1) := by decide +kernel
theorem dc_Re_skip_7 : decode c_C_Re_skip 7 = .ok (.putfield 35, 3) := by decide +kernel
theorem dc_Re_skip_10 : decode c_C_Re_skip 10 = .ok (.return_, 1) := by decide +kernel
theorem dc_Un_readSection_0 : decode c_C_Un_readSection 0 = .ok (.aload_n 0, 1) := by decide +kernel
theorem dc_Un_readSection_1 : decode c_C_Un_readSection 1 = .ok (.aload_n 0, 1) := by decide +kernel
theorem dc_Un_readSection_2 : decode c_C_Un_readSection 2 = .ok (.getfield 12, 3) := by decide +kernel
theorem dc_Un_readSection_5 : decode c_C_Un_readSection 5 = .ok (.getfield 70, 3) := by decide +kernel
theorem dc_Un_readSection_8 : decode c_C_Un_readSection 8 = .ok (.putfield 113, 3) := by decide +kernel
theorem dc_Un_readSection_11 : decode c_C_Un_readSection 11 = .ok (.aload_n 0, 1) := by decide +kernel
theorem dc_Un_readSection_12 : decode c_C_Un_readSection 12 = .ok (.aload_n 0, 1) := by decide +kernel
theorem dc_Un_readSection_13 : decode c_C_Un_readSection 13 = .ok (.getfield 12, 3) := by decide +kernel
theorem dc_Un_readSection_16 : decode c_C_Un_readSection 16 = .ok (.invokevirtual 116, 3) := by decide +kernel
theorem dc_Un_readSection_19 : decode c_C_Un_readSection 19 = .ok (.putfield 119, 3) := by decide +kernel
theorem dc_Un_readSection_22 : decode c_C_Un_readSection 22 = .ok (.iload_n 1, 1) := by decide +kernel
theorem dc_Un_readSection_23 : decode c_C_Un_readSection 23 = .ok (.sipush 192, 3) := by decide +kernel
theorem dc_Un_readSection_26 : decode c_C_Un_readSection 26 = .ok (.if_icmp .ne 10, 3) := by decide +kernel
theorem dc_Un_readSection_29 : decode c_C_Un_readSection 29 = .ok (.aload_n 0, 1) := by decide +kernel
theorem dc_Un_readSection_30 : decode c_C_Un_readSection 30 = .ok (.invokevirtual 122, 3) := by decide +kernel
theorem dc_Un_readSection_33 : decode c_C_Un_readSection 33 = .ok (.goto 124, 3) := by decide +kernel
theorem dc_Un_readSection_36 : decode c_C_Un_readSection 36 = .ok (.iload_n 1, 1) := by decide +kernel
theorem dc_Un_readSection_37 : decode c_C_Un_readSection 37 = .ok (.sipush 218, 3) := by decide +kernel
theorem dc_Un_readSection_40 : decode c_C_Un_readSection 40 = .ok (.if_icmp .ne 10, 3) := by decide +kernel
theorem dc_Un_readSection_43 : decode c_C_Un_readSection 43 = .ok (.aload_n 0, 1) := by decide +kernel
theorem dc_Un_readSection_44 : decode c_C_Un_readSection 44 = .ok (.invokevirtual 125, 3) := by decide +kernel
theorem dc_Un_readSection_47 : decode c_C_Un_readSection 47 = .ok (.goto 110, 3) := by decide +kernel
theorem dc_Un_readSection_50 : decode c_C_Un_readSection 50 = .ok (.iload_n 1, 1) := by decide +kernel
theorem dc_Un_readSection_51 : decode c_C_Un_readSection 51 = .ok (.sipush 221, 3) := by decide +kernel
theorem dc_Un_readSection_54 : decode c_C_Un_readSection 54 = .ok (.if_icmp .ne 34, 3) := by decide +kernel
theorem dc_Un_readSection_57 : decode c_C_Un_readSection 57 = .ok (.aload_n 0, 1) := by decide +kernel
theorem dc_Un_readSection_58 : decode c_C_Un_readSection 58 = .ok (.aload_n 0, 1) := by decide +kernel
theorem dc_Un_readSection_59 : decode c_C_Un_readSection 59 = .ok (.getfield 119, 3) := by decide +kernel
theorem dc_Un_readSection_62 : decode c_C_Un_readSection 62 = .ok (.iconst 4, 1) := by decide +kernel
theorem dc_Un_readSection_63 : decode c_C_Un_readSection 63 = .ok (.if_icmp .ne 7, 3) := by decide +kernel
theorem dc_Un_readSection_66 : decode c_C_Un_readSection 66 = .ok (.iconst 1, 1) := by decide +kernel
theorem dc_Un_readSection_67 : decode c_C_Un_readSection 67 = .ok (.goto 4, 3) := by decide +kernel
theorem dc_Un_readSection_70 : decode c_C_Un_readSection 70 = .ok (.iconst 0, 1) := by decide +kernel
theorem dc_Un_readSection_71 : decode c_C_Un_readSection 71 = .ok (.invokevirtual 128, 3) := by decide +kernel
theorem dc_Un_readSection_74 : decode c_C_Un_readSection 74 = .ok (.aload_n 0, 1) := by decide +kernel
theorem dc_Un_readSection_75 : decode c_C_Un_readSection 75 = .ok (.aload_n 0, 1) := by decide +kernel
theorem dc_Un_readSection_76 : decode c_C_Un_readSection 76 = .ok (.getfield 12, 3) := by decide +kernel
theorem dc_Un_readSection_79 : decode c_C_Un_readSection 79 = .ok (.invokevirtual 116, 3) := by decide +kernel
theorem dc_Un_readSection_82 : decode c_C_Un_readSection 82 = .ok (.putfield 102, 3) := by decide +kernel
theorem dc_Un_readSection_85 : decode c_C_Un_readSection 85 = .ok (.goto 72, 3) := by decide +kernel
theorem dc_Un_readSection_88 : decode c_C_Un_readSection 88 = .ok (.iload_n 1, 1) := by decide +kernel
theorem dc_Un_readSection_89 : decode c_C_Un_readSection 89 = .ok (.sipush 219, 3) := by decide +kernel
theorem dc_Un_readSection_92 : decode c_C_Un_readSection 92 = .ok (.if_icmp .eq 10, 3) := by decide +kernel
theorem dc_Un_readSection_95 : decode c_C_Un_readSection 95 = .ok (.iload_n 1, 1) := by decide +kernel
theorem dc_Un_readSection_96 : decode c_C_Un_readSection 96 = .ok (.sipush 196, 3) := by decide +kernel
theorem dc_Un_readSection_99 : decode c_C_Un_readSection 99 = .ok (.if_icmp .ne 28, 3) := by decide +kernel
theorem dc_Un_readSection_102 : decode c_C_Un_readSection 102 = .ok (.aload_n 0, 1) := by decide +kernel
theorem dc_Un_readSection_103 : decode c_C_Un_readSection 103 = .ok (.aload_n 0, 1) := by decide +kernel
theorem dc_Un_readSection_104 : decode c_C_Un_readSection 104 = .ok (.getfield 119, 3) := by decide +kernel
theorem dc_Un_readSection_107 : decode c_C_Un_readSection 107 = .ok (.iconst 2, 1) := by decide +kernel
theorem dc_Un_readSection_108 : decode c_C_Un_readSection 108 = .ok (.if_icmp .le 7, 3) := by decide +kernel
theorem dc_Un_readSection_111 : decode c_C_Un_readSection 111 = .ok (.iconst 1, 1) := by decide +kernel
theorem dc_Un_readSection_112 : decode c_C_Un_readSection 112 = .ok (.goto 4, 3) := by decide +kernel
theorem dc_Un_readSection_115 : decode c_C_Un_readSection 115 = .ok (.iconst 0, 1) := by decide +kernel
theorem dc_Un_readSection_116 : decode c_C_Un_readSection 116 = .ok (.invokevirtual 128, 3) := by decide +kernel
theorem dc_Un_readSection_119 : decode c_C_Un_readSection 119 = .ok (.aload_n 0, 1) := by decide +kernel
theorem dc_Un_readSection_120 : decode c_C_Un_readSection 120 = .ok (.iload_n 1, 1) := by decide +kernel
theorem dc_Un_readSection_121 : decode c_C_Un_readSection 121 = .ok (.invokevirtual 132, 3) := by decide +kernel
theorem dc_Un_readSection_124 : decode c_C_Un_readSection 124 = .ok (.goto 33, 3) := by decide +kernel
theorem dc_Un_readSection_127 : decode c_C_Un_readSection 127 = .ok (.aload_n 0, 1) := by decide +kernel
theorem dc_Un_readSection_128 : decode c_C_Un_readSection 128 = .ok (.aload_n 0, 1) := by decide +kernel
theorem dc_Un_readSection_129 : decode c_C_Un_readSection 129 = .ok (.getfield 119, 3) := by decide +kernel
theorem dc_Un_readSection_132 : decode c_C_Un_readSection 132 = .ok (.iconst 2, 1) := by decide +kernel
theorem dc_Un_readSection_133 : decode c_C_Un_readSection 133 = .ok (.if_icmp .lt 7, 3) := by decide +kernel
theorem dc_Un_readSection_136 : decode c_C_Un_readSection 136 = .ok (.iconst 1, 1) := by decide +kernel
theorem dc_Un_readSection_137 : decode c_C_Un_readSection 137 = .ok (.goto 4, 3) := by decide +kernel
theorem dc_Un_readSection_140 : decode c_C_Un_readSection 140 = .ok (.iconst 0, 1) := by decide +kernel
theorem dc_Un_readSection_141 : decode c_C_Un_readSection 141 = .ok (.invokevirtual 128, 3) := by decide +kernel
theorem dc_Un_readSection_144 : decode c_C_Un_readSection 144 = .ok (.aload_n 0, 1) := by decide +kernel
theorem dc_Un_readSection_145 : decode c_C_Un_readSection 145 = .ok (.getfield 12, 3) := by decide +kernel
theorem dc_Un_readSection_148 : decode c_C_Un_readSection 148 = .ok (.aload_n 0, 1) := by decide +kernel
theorem dc_Un_readSection_149 : decode c_C_Un_readSection 149 = .ok (.getfield 119, 3) := by decide +kernel
theorem dc_Un_readSection_152 : decode c_C_Un_readSection 152 = .ok (.iconst 2, 1) := by decide +kernel
theorem dc_Un_readSection_153 : decode c_C_Un_readSection 153 = .ok (.isub, 1) := by decide +kernel
theorem dc_Un_readSection_154 : decode c_C_Un_readSection 154 = .ok (.invokevirtual 135, 3) := by decide +kernel
theorem dc_Un_readSection_157 : decode c_C_Un_readSection 157 = .ok (.return_, 1) := by decide +kernel
theorem dc_Re_dropBits_0 : decode c_C_Re_dropBits 0 = .ok (.aload_n 0, 1) := by decide +kernel
theorem dc_Re_dropBits_1 : decode c_C_Re_dropBits 1 = .ok (.iconst 0, 1) := by decide +kernel
theorem dc_Re_dropBits_2 : decode c_C_Re_dropBits 2 = .ok (.putfield 55, 3) := by decide +kernel
theorem dc_Re_dropBits_5 : decode c_C_Re_dropBits 5 = .ok (.return_, 1) := by decide +kernel
theorem dc_Un_readAgain_0 : decode c_C_Un_readAgain 0 = .ok (.aload_n 0, 1) := by decide +kernel
theorem dc_Un_readAgain_1 : decode c_C_Un_readAgain 1 = .ok (.getfield 12, 3) := by decide +kernel
theorem dc_Un_readAgain_4 : decode c_C_Un_readAgain 4 = .ok (.invokevirtual 213, 3) := by decide +kernel
theorem dc_Un_readAgain_7 : decode c_C_Un_readAgain 7 = .ok (.aload_n 0, 1) := by decide +kernel
theorem dc_Un_readAgain_8 : decode c_C_Un_readAgain 8 = .ok (.getfield 12, 3) := by decide +kernel
theorem dc_Un_readAgain_11 : decode c_C_Un_readAgain 11 = .ok (.invokevirtual 66, 3) := by decide +kernel
theorem dc_Un_readAgain_14 : decode c_C_Un_readAgain 14 = .ok (.iload_n 1, 1) := by decide +kernel
theorem dc_Un_readAgain_15 : decode c_C_Un_readAgain 15 = .ok (.if_icmp .eq 20, 3) := by decide +kernel
theorem dc_Un_readAgain_18 : decode c_C_Un_readAgain 18 = .ok (.aload_n 0, 1) := by decide +kernel
theorem dc_Un_readAgain_19 : decode c_C_Un_readAgain 19 = .ok (.getfield 12, 3) := by decide +kernel
theorem dc_Un_readAgain_22 : decode c_C_Un_readAgain 22 = .ok (.iconst 3, 1) := by decide +kernel
theorem dc_Un_readAgain_23 : decode c_C_Un_readAgain 23 = .ok (.aload_n 0, 1) := by decide +kernel
theorem dc_Un_readAgain_24 : decode c_C_Un_readAgain 24 = .ok (.getfield 12, 3) := by decide +kernel
theorem dc_Un_readAgain_27 : decode c_C_Un_readAgain 27 = .ok (.getfield 70, 3) := by decide +kernel
theorem dc_Un_readAgain_30 : decode c_C_Un_readAgain 30 = .ok (.iconst 1, 1) := by decide +kernel
theorem dc_Un_readAgain_31 : decode c_C_Un_readAgain 31 = .ok (.isub, 1) := by decide +kernel
theorem dc_Un_readAgain_32 : decode c_C_Un_readAgain 32 = .ok (.invokevirtual 74, 3) := by decide +kernel
theorem dc_Un_readAgain_35 : decode c_C_Un_readAgain 35 = .ok (.aload_n 0, 1) := by decide +kernel
theorem dc_Un_readAgain_36 : decode c_C_Un_readAgain 36 = .ok (.getfield 56, 3) := by decide +kernel
theorem dc_Un_readAgain_39 : decode c_C_Un_readAgain 39 = .ok (.iconst 0, 1) := by decide +kernel
theorem dc_Un_readAgain_40 : decode c_C_Un_readAgain 40 = .ok (.invokestatic 216, 3) := by decide +kernel
theorem dc_Un_readAgain_43 : decode c_C_Un_readAgain 43 = .ok (.return_, 1) := by decide +kernel
