theorem d_readSymbol_0 : decode c_M_readSymbol 0 = .ok (.iconst 0, 1) := by decide +kernel
theorem d_readSymbol_1 : decode c_M_readSymbol 1 = .ok (.istore_n 2, 1) := by decide +kernel
theorem d_readSymbol_2 : decode c_M_readSymbol 2 = .ok (.iconst 0, 1) := by decide +kernel
theorem d_readSymbol_3 : decode c_M_readSymbol 3 = .ok (.istore_n 3, 1) := by decide +kernel
theorem d_readSymbol_4 : decode c_M_readSymbol 4 = .ok (.iconst 0, 1) := by decide +kernel
theorem d_readSymbol_5 : decode c_M_readSymbol 5 = .ok (.istore 4, 2) := by decide +kernel
theorem d_readSymbol_7 : decode c_M_readSymbol 7 = .ok (.iconst 0, 1) := by decide +kernel
theorem d_readSymbol_8 : decode c_M_readSymbol 8 = .ok (.istore 5, 2) := by decide +kernel
theorem d_readSymbol_10 : decode c_M_readSymbol 10 = .ok (.iload 5, 2) := by decide +kernel
theorem d_readSymbol_12 : decode c_M_readSymbol 12 = .ok (.bipush 16, 2) := by decide +kernel
theorem d_readSymbol_14 : decode c_M_readSymbol 14 = .ok (.if_icmp .ge 96, 3) := by decide +kernel
theorem d_readSymbol_17 : decode c_M_readSymbol 17 = .ok (.iconst 2, 1) := by decide +kernel
theorem d_readSymbol_18 : decode c_M_readSymbol 18 = .ok (.iload_n 2, 1) := by decide +kernel
theorem d_readSymbol_19 : decode c_M_readSymbol 19 = .ok (.imul, 1) := by decide +kernel
theorem d_readSymbol_20 : decode c_M_readSymbol 20 = .ok (.aload_n 0, 1) := by decide +kernel
theorem d_readSymbol_21 : decode c_M_readSymbol 21 = .ok (.invokevirtual 314, 3) := by decide +kernel
theorem d_readSymbol_24 : decode c_M_readSymbol 24 = .ok (.iadd, 1) := by decide +kernel
theorem d_readSymbol_25 : decode c_M_readSymbol 25 = .ok (.istore_n 2, 1) := by decide +kernel
theorem d_readSymbol_26 : decode c_M_readSymbol 26 = .ok (.iload 5, 2) := by decide +kernel
theorem d_readSymbol_28 : decode c_M_readSymbol 28 = .ok (.ifCond .ne 11, 3) := by decide +kernel
theorem d_readSymbol_31 : decode c_M_readSymbol 31 = .ok (.aload_n 0, 1) := by decide +kernel
theorem d_readSymbol_32 : decode c_M_readSymbol 32 = .ok (.aload_n 0, 1) := by decide +kernel
theorem d_readSymbol_33 : decode c_M_readSymbol 33 = .ok (.getfield 308, 3) := by decide +kernel
theorem d_readSymbol_36 : decode c_M_readSymbol 36 = .ok (.putfield 317, 3) := by decide +kernel
theorem d_readSymbol_39 : decode c_M_readSymbol 39 = .ok (.aload_n 0, 1) := by decide +kernel
theorem d_readSymbol_40 : decode c_M_readSymbol 40 = .ok (.getfield 265, 3) := by decide +kernel
theorem d_readSymbol_43 : decode c_M_readSymbol 43 = .ok (.ifCond .le 5, 3) := by decide +kernel
theorem d_readSymbol_46 : decode c_M_readSymbol 46 = .ok (.iconst 0, 1) := by decide +kernel
theorem d_readSymbol_47 : decode c_M_readSymbol 47 = .ok (.ireturn, 1) := by decide +kernel
theorem d_readSymbol_48 : decode c_M_readSymbol 48 = .ok (.iconst 2, 1) := by decide +kernel
theorem d_readSymbol_49 : decode c_M_readSymbol 49 = .ok (.iload_n 3, 1) := by decide +kernel
theorem d_readSymbol_50 : decode c_M_readSymbol 50 = .ok (.imul, 1) := by decide +kernel
theorem d_readSymbol_51 : decode c_M_readSymbol 51 = .ok (.istore_n 3, 1) := by decide +kernel
theorem d_readSymbol_52 : decode c_M_readSymbol 52 = .ok (.aload_n 0, 1) := by decide +kernel
theorem d_readSymbol_53 : decode c_M_readSymbol 53 = .ok (.getfield 109, 3) := by decide +kernel
theorem d_readSymbol_56 : decode c_M_readSymbol 56 = .ok (.bipush 16, 2) := by decide +kernel
theorem d_readSymbol_58 : decode c_M_readSymbol 58 = .ok (.iload_n 1, 1) := by decide +kernel
theorem d_readSymbol_59 : decode c_M_readSymbol 59 = .ok (.imul, 1) := by decide +kernel
theorem d_readSymbol_60 : decode c_M_readSymbol 60 = .ok (.iload 5, 2) := by decide +kernel
theorem d_readSymbol_62 : decode c_M_readSymbol 62 = .ok (.iadd, 1) := by decide +kernel
theorem d_readSymbol_63 : decode c_M_readSymbol 63 = .ok (.iaload, 1) := by decide +kernel
theorem d_readSymbol_64 : decode c_M_readSymbol 64 = .ok (.istore 6, 2) := by decide +kernel
theorem d_readSymbol_66 : decode c_M_readSymbol 66 = .ok (.iload_n 2, 1) := by decide +kernel
theorem d_readSymbol_67 : decode c_M_readSymbol 67 = .ok (.iload_n 3, 1) := by decide +kernel
theorem d_readSymbol_68 : decode c_M_readSymbol 68 = .ok (.iload 6, 2) := by decide +kernel
theorem d_readSymbol_70 : decode c_M_readSymbol 70 = .ok (.iadd, 1) := by decide +kernel
theorem d_readSymbol_71 : decode c_M_readSymbol 71 = .ok (.if_icmp .ge 21, 3) := by decide +kernel
theorem d_readSymbol_74 : decode c_M_readSymbol 74 = .ok (.aload_n 0, 1) := by decide +kernel
theorem d_readSymbol_75 : decode c_M_readSymbol 75 = .ok (.getfield 112, 3) := by decide +kernel
theorem d_readSymbol_78 : decode c_M_readSymbol 78 = .ok (.sipush 256, 3) := by decide +kernel
theorem d_readSymbol_81 : decode c_M_readSymbol 81 = .ok (.iload_n 1, 1) := by decide +kernel
theorem d_readSymbol_82 : decode c_M_readSymbol 82 = .ok (.imul, 1) := by decide +kernel
theorem d_readSymbol_83 : decode c_M_readSymbol 83 = .ok (.iload 4, 2) := by decide +kernel
theorem d_readSymbol_85 : decode c_M_readSymbol 85 = .ok (.iadd, 1) := by decide +kernel
theorem d_readSymbol_86 : decode c_M_readSymbol 86 = .ok (.iload_n 2, 1) := by decide +kernel
theorem d_readSymbol_87 : decode c_M_readSymbol 87 = .ok (.iadd, 1) := by decide +kernel
theorem d_readSymbol_88 : decode c_M_readSymbol 88 = .ok (.iload_n 3, 1) := by decide +kernel
theorem d_readSymbol_89 : decode c_M_readSymbol 89 = .ok (.isub, 1) := by decide +kernel
theorem d_readSymbol_90 : decode c_M_readSymbol 90 = .ok (.iaload, 1) := by decide +kernel
theorem d_readSymbol_91 : decode c_M_readSymbol 91 = .ok (.ireturn, 1) := by decide +kernel
theorem d_readSymbol_92 : decode c_M_readSymbol 92 = .ok (.iload_n 3, 1) := by decide +kernel
theorem d_readSymbol_93 : decode c_M_readSymbol 93 = .ok (.iload 6, 2) := by decide +kernel
theorem d_readSymbol_95 : decode c_M_readSymbol 95 = .ok (.iadd, 1) := by decide +kernel
theorem d_readSymbol_96 : decode c_M_readSymbol 96 = .ok (.istore_n 3, 1) := by decide +kernel
theorem d_readSymbol_97 : decode c_M_readSymbol 97 = .ok (.iload 4, 2) := by decide +kernel
theorem d_readSymbol_99 : decode c_M_readSymbol 99 = .ok (.iload 6, 2) := by decide +kernel
theorem d_readSymbol_101 : decode c_M_readSymbol 101 = .ok (.iadd, 1) := by decide +kernel
theorem d_readSymbol_102 : decode c_M_readSymbol 102 = .ok (.istore 4, 2) := by decide +kernel
theorem d_readSymbol_104 : decode c_M_readSymbol 104 = .ok (.iinc 5 1, 3) := by decide +kernel
theorem d_readSymbol_107 : decode c_M_readSymbol 107 = .ok (.goto (-97), 3) := by decide +kernel
theorem d_readSymbol_110 : decode c_M_readSymbol 110 = .ok (.aload_n 0, 1) := by decide +kernel
theorem d_readSymbol_111 : decode c_M_readSymbol 111 = .ok (.bipush 7, 2) := by decide +kernel
theorem d_readSymbol_113 : decode c_M_readSymbol 113 = .ok (.aload_n 0, 1) := by decide +kernel
theorem d_readSymbol_114 : decode c_M_readSymbol 114 = .ok (.getfield 317, 3) := by decide +kernel
theorem d_readSymbol_117 : decode c_M_readSymbol 117 = .ok (.invokevirtual 271, 3) := by decide +kernel
theorem d_readSymbol_120 : decode c_M_readSymbol 120 = .ok (.istore 5, 2) := by decide +kernel
theorem d_readSymbol_122 : decode c_M_readSymbol 122 = .ok (.iconst 0, 1) := by decide +kernel
theorem d_readSymbol_123 : decode c_M_readSymbol 123 = .ok (.ireturn, 1) := by decide +kernel
theorem d_readNumber_0 : decode c_M_readNumber 0 = .ok (.iconst 0, 1) := by decide +kernel
theorem d_readNumber_1 : decode c_M_readNumber 1 = .ok (.istore_n 2, 1) := by decide +kernel
theorem d_readNumber_2 : decode c_M_readNumber 2 = .ok (.iconst 0, 1) := by decide +kernel
theorem d_readNumber_3 : decode c_M_readNumber 3 = .ok (.istore_n 3, 1) := by decide +kernel
theorem d_readNumber_4 : decode c_M_readNumber 4 = .ok (.iload_n 3, 1) := by decide +kernel
theorem d_readNumber_5 : decode c_M_readNumber 5 = .ok (.iload_n 1, 1) := by decide +kernel
theorem d_readNumber_6 : decode c_M_readNumber 6 = .ok (.if_icmp .ge 18, 3) := by decide +kernel
theorem d_readNumber_9 : decode c_M_readNumber 9 = .ok (.iconst 2, 1) := by decide +kernel
theorem d_readNumber_10 : decode c_M_readNumber 10 = .ok (.iload_n 2, 1) := by decide +kernel
theorem d_readNumber_11 : decode c_M_readNumber 11 = .ok (.imul, 1) := by decide +kernel
theorem d_readNumber_12 : decode c_M_readNumber 12 = .ok (.aload_n 0, 1) := by decide +kernel
theorem d_readNumber_13 : decode c_M_readNumber 13 = .ok (.invokevirtual 314, 3) := by decide +kernel
theorem d_readNumber_16 : decode c_M_readNumber 16 = .ok (.iadd, 1) := by decide +kernel
theorem d_readNumber_17 : decode c_M_readNumber 17 = .ok (.istore_n 2, 1) := by decide +kernel
theorem d_readNumber_18 : decode c_M_readNumber 18 = .ok (.iinc 3 1, 3) := by decide +kernel
theorem d_readNumber_21 : decode c_M_readNumber 21 = .ok (.goto (-17), 3) := by decide +kernel
theorem d_readNumber_24 : decode c_M_readNumber 24 = .ok (.iload_n 1, 1) := by decide +kernel
theorem d_readNumber_25 : decode c_M_readNumber 25 = .ok (.ifCond .le 22, 3) := by decide +kernel
theorem d_readNumber_28 : decode c_M_readNumber 28 = .ok (.iload_n 2, 1) := by decide +kernel
theorem d_readNumber_29 : decode c_M_readNumber 29 = .ok (.iconst 1, 1) := by decide +kernel
theorem d_readNumber_30 : decode c_M_readNumber 30 = .ok (.iload_n 1, 1) := by decide +kernel
theorem d_readNumber_31 : decode c_M_readNumber 31 = .ok (.iconst 1, 1) := by decide +kernel
theorem d_readNumber_32 : decode c_M_readNumber 32 = .ok (.isub, 1) := by decide +kernel
theorem d_readNumber_33 : decode c_M_readNumber 33 = .ok (.ishl, 1) := by decide +kernel
theorem d_readNumber_34 : decode c_M_readNumber 34 = .ok (.if_icmp .ge 13, 3) := by decide +kernel
theorem d_readNumber_37 : decode c_M_readNumber 37 = .ok (.iload_n 2, 1) := by decide +kernel
theorem d_readNumber_38 : decode c_M_readNumber 38 = .ok (.iconst 1, 1) := by decide +kernel
theorem d_readNumber_39 : decode c_M_readNumber 39 = .ok (.iload_n 1, 1) := by decide +kernel
theorem d_readNumber_40 : decode c_M_readNumber 40 = .ok (.ishl, 1) := by decide +kernel
theorem d_readNumber_41 : decode c_M_readNumber 41 = .ok (.isub, 1) := by decide +kernel
theorem d_readNumber_42 : decode c_M_readNumber 42 = .ok (.iconst 1, 1) := by decide +kernel
theorem d_readNumber_43 : decode c_M_readNumber 43 = .ok (.iadd, 1) := by decide +kernel
theorem d_readNumber_44 : decode c_M_readNumber 44 = .ok (.goto 4, 3) := by decide +kernel
theorem d_readNumber_47 : decode c_M_readNumber 47 = .ok (.iload_n 2, 1) := by decide +kernel
theorem d_readNumber_48 : decode c_M_readNumber 48 = .ok (.ireturn, 1) := by decide +kernel
theorem d_readBlock_0 : decode c_M_readBlock 0 = .ok (.aload_n 0, 1) := by decide +kernel
theorem d_readBlock_1 : decode c_M_readBlock 1 = .ok (.aload_n 0, 1) := by decide +kernel
theorem d_readBlock_2 : decode c_M_readBlock 2 = .ok (.getfield 133, 3) := by decide +kernel
theorem d_readBlock_5 : decode c_M_readBlock 5 = .ok (.iload_n 1, 1) := by decide +kernel
theorem d_readBlock_6 : decode c_M_readBlock 6 = .ok (.iaload, 1) := by decide +kernel
theorem d_readBlock_7 : decode c_M_readBlock 7 = .ok (.invokevirtual 320, 3) := by decide +kernel
theorem d_readBlock_10 : decode c_M_readBlock 10 = .ok (.istore 4, 2) := by decide +kernel
theorem d_readBlock_12 : decode c_M_readBlock 12 = .ok (.aload_n 0, 1) := by decide +kernel
theorem d_readBlock_13 : decode c_M_readBlock 13 = .ok (.getfield 317, 3) := by decide +kernel
theorem d_readBlock_16 : decode c_M_readBlock 16 = .ok (.istore 5, 2) := by decide +kernel
theorem d_readBlock_18 : decode c_M_readBlock 18 = .ok (.aload_n 0, 1) := by decide +kernel
theorem d_readBlock_19 : decode c_M_readBlock 19 = .ok (.getfield 265, 3) := by decide +kernel
theorem d_readBlock_22 : decode c_M_readBlock 22 = .ok (.ifCond .ne 19, 3) := by decide +kernel
theorem d_readBlock_25 : decode c_M_readBlock 25 = .ok (.aload_n 0, 1) := by decide +kernel
theorem d_readBlock_26 : decode c_M_readBlock 26 = .ok (.getfield 139, 3) := by decide +kernel
theorem d_readBlock_29 : decode c_M_readBlock 29 = .ok (.iload_n 2, 1) := by decide +kernel
theorem d_readBlock_30 : decode c_M_readBlock 30 = .ok (.iaload, 1) := by decide +kernel
theorem d_readBlock_31 : decode c_M_readBlock 31 = .ok (.aload_n 0, 1) := by decide +kernel
theorem d_readBlock_32 : decode c_M_readBlock 32 = .ok (.iload 4, 2) := by decide +kernel
theorem d_readBlock_34 : decode c_M_readBlock 34 = .ok (.invokevirtual 323, 3) := by decide +kernel
theorem d_readBlock_37 : decode c_M_readBlock 37 = .ok (.iadd, 1) := by decide +kernel
theorem d_readBlock_38 : decode c_M_readBlock 38 = .ok (.goto 4, 3) := by decide +kernel
theorem d_readBlock_41 : decode c_M_readBlock 41 = .ok (.iconst 0, 1) := by decide +kernel
theorem d_readBlock_42 : decode c_M_readBlock 42 = .ok (.istore 6, 2) := by decide +kernel
theorem d_readBlock_44 : decode c_M_readBlock 44 = .ok (.aload_n 0, 1) := by decide +kernel
theorem d_readBlock_45 : decode c_M_readBlock 45 = .ok (.getfield 265, 3) := by decide +kernel
theorem d_readBlock_48 : decode c_M_readBlock 48 = .ok (.ifCond .ne 29, 3) := by decide +kernel
theorem d_readBlock_51 : decode c_M_readBlock 51 = .ok (.iload 6, 2) := by decide +kernel
theorem d_readBlock_53 : decode c_M_readBlock 53 = .ok (.sipush (-2047), 3) := by decide +kernel
theorem d_readBlock_56 : decode c_M_readBlock 56 = .ok (.if_icmp .lt 11, 3) := by decide +kernel
theorem d_readBlock_59 : decode c_M_readBlock 59 = .ok (.iload 6, 2) := by decide +kernel
theorem d_readBlock_61 : decode c_M_readBlock 61 = .ok (.sipush 2047, 3) := by decide +kernel
theorem d_readBlock_64 : decode c_M_readBlock 64 = .ok (.if_icmp .le 13, 3) := by decide +kernel
theorem d_readBlock_67 : decode c_M_readBlock 67 = .ok (.aload_n 0, 1) := by decide +kernel
theorem d_readBlock_68 : decode c_M_readBlock 68 = .ok (.bipush 7, 2) := by decide +kernel
theorem d_readBlock_70 : decode c_M_readBlock 70 = .ok (.iload 5, 2) := by decide +kernel
theorem d_readBlock_72 : decode c_M_readBlock 72 = .ok (.invokevirtual 271, 3) := by decide +kernel
theorem d_readBlock_75 : decode c_M_readBlock 75 = .ok (.istore 7, 2) := by decide +kernel
theorem d_readBlock_77 : decode c_M_readBlock 77 = .ok (.aload_n 0, 1) := by decide +kernel
theorem d_readBlock_78 : decode c_M_readBlock 78 = .ok (.getfield 139, 3) := by decide +kernel
theorem d_readBlock_81 : decode c_M_readBlock 81 = .ok (.iload_n 2, 1) := by decide +kernel
theorem d_readBlock_82 : decode c_M_readBlock 82 = .ok (.iload 6, 2) := by decide +kernel
theorem d_readBlock_84 : decode c_M_readBlock 84 = .ok (.iastore, 1) := by decide +kernel
theorem d_readBlock_85 : decode c_M_readBlock 85 = .ok (.aload_n 0, 1) := by decide +kernel
theorem d_readBlock_86 : decode c_M_readBlock 86 = .ok (.getfield 63, 3) := by decide +kernel
theorem d_readBlock_89 : decode c_M_readBlock 89 = .ok (.iconst 2, 1) := by decide +kernel
theorem d_readBlock_90 : decode c_M_readBlock 90 = .ok (.iload_n 2, 1) := by decide +kernel
theorem d_readBlock_91 : decode c_M_readBlock 91 = .ok (.iload_n 3, 1) := by decide +kernel
theorem d_readBlock_92 : decode c_M_readBlock 92 = .ok (.iconst 0, 1) := by decide +kernel
theorem d_readBlock_93 : decode c_M_readBlock 93 = .ok (.invokestatic 193, 3) := by decide +kernel
theorem d_readBlock_96 : decode c_M_readBlock 96 = .ok (.iload 6, 2) := by decide +kernel
theorem d_readBlock_98 : decode c_M_readBlock 98 = .ok (.iastore, 1) := by decide +kernel
theorem d_readBlock_99 : decode c_M_readBlock 99 = .ok (.iconst 1, 1) := by decide +kernel
theorem d_readBlock_100 : decode c_M_readBlock 100 = .ok (.istore 7, 2) := by decide +kernel
theorem d_readBlock_102 : decode c_M_readBlock 102 = .ok (.iload 7, 2) := by decide +kernel
theorem d_readBlock_104 : decode c_M_readBlock 104 = .ok (.bipush 64, 2) := by decide +kernel
theorem d_readBlock_106 : decode c_M_readBlock 106 = .ok (.if_icmp .ge 142, 3) := by decide +kernel
theorem d_readBlock_109 : decode c_M_readBlock 109 = .ok (.aload_n 0, 1) := by decide +kernel
theorem d_readBlock_110 : decode c_M_readBlock 110 = .ok (.getfield 265, 3) := by decide +kernel
theorem d_readBlock_113 : decode c_M_readBlock 113 = .ok (.ifCond .ne 135, 3) := by decide +kernel
theorem d_readBlock_116 : decode c_M_readBlock 116 = .ok (.aload_n 0, 1) := by decide +kernel
theorem d_readBlock_117 : decode c_M_readBlock 117 = .ok (.aload_n 0, 1) := by decide +kernel
theorem d_readBlock_118 : decode c_M_readBlock 118 = .ok (.getfield 136, 3) := by decide +kernel
theorem d_readBlock_121 : decode c_M_readBlock 121 = .ok (.iload_n 1, 1) := by decide +kernel
theorem d_readBlock_122 : decode c_M_readBlock 122 = .ok (.iaload, 1) := by decide +kernel
theorem d_readBlock_123 : decode c_M_readBlock 123 = .ok (.invokevirtual 320, 3) := by decide +kernel
theorem d_readBlock_126 : decode c_M_readBlock 126 = .ok (.istore 8, 2) := by decide +kernel
theorem d_readBlock_128 : decode c_M_readBlock 128 = .ok (.aload_n 0, 1) := by decide +kernel
theorem d_readBlock_129 : decode c_M_readBlock 129 = .ok (.getfield 317, 3) := by decide +kernel
theorem d_readBlock_132 : decode c_M_readBlock 132 = .ok (.istore 5, 2) := by decide +kernel
theorem d_readBlock_134 : decode c_M_readBlock 134 = .ok (.aload_n 0, 1) := by decide +kernel
theorem d_readBlock_135 : decode c_M_readBlock 135 = .ok (.getfield 265, 3) := by decide +kernel
theorem d_readBlock_138 : decode c_M_readBlock 138 = .ok (.ifCond .gt 8, 3) := by decide +kernel
theorem d_readBlock_141 : decode c_M_readBlock 141 = .ok (.iload 8, 2) := by decide +kernel
theorem d_readBlock_143 : decode c_M_readBlock 143 = .ok (.ifCond .ne 4, 3) := by decide +kernel
theorem d_readBlock_146 : decode c_M_readBlock 146 = .ok (.return_, 1) := by decide +kernel
theorem d_readBlock_147 : decode c_M_readBlock 147 = .ok (.iload 7, 2) := by decide +kernel
theorem d_readBlock_149 : decode c_M_readBlock 149 = .ok (.iload 8, 2) := by decide +kernel
theorem d_readBlock_151 : decode c_M_readBlock 151 = .ok (.iconst 4, 1) := by decide +kernel
theorem d_readBlock_152 : decode c_M_readBlock 152 = .ok (.ishr, 1) := by decide +kernel
theorem d_readBlock_153 : decode c_M_readBlock 153 = .ok (.iadd, 1) := by decide +kernel
theorem d_readBlock_154 : decode c_M_readBlock 154 = .ok (.iload 8, 2) := by decide +kernel
theorem d_readBlock_156 : decode c_M_readBlock 156 = .ok (.sipush 240, 3) := by decide +kernel
theorem d_readBlock_159 : decode c_M_readBlock 159 = .ok (.if_icmp .ne 7, 3) := by decide +kernel
theorem d_readBlock_162 : decode c_M_readBlock 162 = .ok (.iconst 1, 1) := by decide +kernel
theorem d_readBlock_163 : decode c_M_readBlock 163 = .ok (.goto 4, 3) := by decide +kernel
theorem d_readBlock_166 : decode c_M_readBlock 166 = .ok (.iconst 0, 1) := by decide +kernel
theorem d_readBlock_167 : decode c_M_readBlock 167 = .ok (.iadd, 1) := by decide +kernel
theorem d_readBlock_168 : decode c_M_readBlock 168 = .ok (.istore 7, 2) := by decide +kernel
theorem d_readBlock_170 : decode c_M_readBlock 170 = .ok (.iload 8, 2) := by decide +kernel
theorem d_readBlock_172 : decode c_M_readBlock 172 = .ok (.sipush 240, 3) := by decide +kernel
theorem d_readBlock_175 : decode c_M_readBlock 175 = .ok (.if_icmp .ne 13, 3) := by decide +kernel
theorem d_readBlock_178 : decode c_M_readBlock 178 = .ok (.iload 7, 2) := by decide +kernel
theorem d_readBlock_180 : decode c_M_readBlock 180 = .ok (.bipush 64, 2) := by decide +kernel
theorem d_readBlock_182 : decode c_M_readBlock 182 = .ok (.if_icmp .le 26, 3) := by decide +kernel
theorem d_readBlock_185 : decode c_M_readBlock 185 = .ok (.goto 10, 3) := by decide +kernel
theorem d_readBlock_188 : decode c_M_readBlock 188 = .ok (.iload 7, 2) := by decide +kernel
theorem d_readBlock_190 : decode c_M_readBlock 190 = .ok (.bipush 63, 2) := by decide +kernel
theorem d_readBlock_192 : decode c_M_readBlock 192 = .ok (.if_icmp .le 16, 3) := by decide +kernel
theorem d_readBlock_195 : decode c_M_readBlock 195 = .ok (.aload_n 0, 1) := by decide +kernel
theorem d_readBlock_196 : decode c_M_readBlock 196 = .ok (.bipush 7, 2) := by decide +kernel
theorem d_readBlock_198 : decode c_M_readBlock 198 = .ok (.iload 5, 2) := by decide +kernel
theorem d_readBlock_200 : decode c_M_readBlock 200 = .ok (.invokevirtual 271, 3) := by decide +kernel
theorem d_readBlock_203 : decode c_M_readBlock 203 = .ok (.istore 9, 2) := by decide +kernel
theorem d_readBlock_205 : decode c_M_readBlock 205 = .ok (.goto 40, 3) := by decide +kernel
theorem d_readBlock_208 : decode c_M_readBlock 208 = .ok (.iload 8, 2) := by decide +kernel
theorem d_readBlock_210 : decode c_M_readBlock 210 = .ok (.sipush 240, 3) := by decide +kernel
theorem d_readBlock_213 : decode c_M_readBlock 213 = .ok (.if_icmp .eq 32, 3) := by decide +kernel
theorem d_readBlock_216 : decode c_M_readBlock 216 = .ok (.aload_n 0, 1) := by decide +kernel
theorem d_readBlock_217 : decode c_M_readBlock 217 = .ok (.iload 8, 2) := by decide +kernel
theorem d_readBlock_219 : decode c_M_readBlock 219 = .ok (.bipush 15, 2) := by decide +kernel
theorem d_readBlock_221 : decode c_M_readBlock 221 = .ok (.iand, 1) := by decide +kernel
theorem d_readBlock_222 : decode c_M_readBlock 222 = .ok (.invokevirtual 323, 3) := by decide +kernel
theorem d_readBlock_225 : decode c_M_readBlock 225 = .ok (.istore 9, 2) := by decide +kernel
theorem d_readBlock_227 : decode c_M_readBlock 227 = .ok (.aload_n 0, 1) := by decide +kernel
theorem d_readBlock_228 : decode c_M_readBlock 228 = .ok (.getfield 63, 3) := by decide +kernel
theorem d_readBlock_231 : decode c_M_readBlock 231 = .ok (.iconst 2, 1) := by decide +kernel
theorem d_readBlock_232 : decode c_M_readBlock 232 = .ok (.iload_n 2, 1) := by decide +kernel
theorem d_readBlock_233 : decode c_M_readBlock 233 = .ok (.iload_n 3, 1) := by decide +kernel
theorem d_readBlock_234 : decode c_M_readBlock 234 = .ok (.iload 7, 2) := by decide +kernel
theorem d_readBlock_236 : decode c_M_readBlock 236 = .ok (.invokestatic 193, 3) := by decide +kernel
theorem d_readBlock_239 : decode c_M_readBlock 239 = .ok (.iload 9, 2) := by decide +kernel
theorem d_readBlock_241 : decode c_M_readBlock 241 = .ok (.iastore, 1) := by decide +kernel
theorem d_readBlock_242 : decode c_M_readBlock 242 = .ok (.iinc 7 1, 3) := by decide +kernel
theorem d_readBlock_245 : decode c_M_readBlock 245 = .ok (.goto (-143), 3) := by decide +kernel
theorem d_readBlock_248 : decode c_M_readBlock 248 = .ok (.return_, 1) := by decide +kernel
theorem d_readUnit_0 : decode c_M_readUnit 0 = .ok (.iload_n 1, 1) := by decide +kernel
theorem d_readUnit_1 : decode c_M_readUnit 1 = .ok (.iload_n 2, 1) := by decide +kernel
theorem d_readUnit_2 : decode c_M_readUnit 2 = .ok (.irem, 1) := by decide +kernel
theorem d_readUnit_3 : decode c_M_readUnit 3 = .ok (.istore_n 3, 1) := by decide +kernel
theorem d_readUnit_4 : decode c_M_readUnit 4 = .ok (.iload_n 1, 1) := by decide +kernel
theorem d_readUnit_5 : decode c_M_readUnit 5 = .ok (.iload_n 2, 1) := by decide +kernel
theorem d_readUnit_6 : decode c_M_readUnit 6 = .ok (.idiv, 1) := by decide +kernel
theorem d_readUnit_7 : decode c_M_readUnit 7 = .ok (.istore 4, 2) := by decide +kernel
theorem d_readUnit_9 : decode c_M_readUnit 9 = .ok (.iconst 0, 1) := by decide +kernel
theorem d_readUnit_10 : decode c_M_readUnit 10 = .ok (.istore 5, 2) := by decide +kernel
theorem d_readUnit_12 : decode c_M_readUnit 12 = .ok (.iload 5, 2) := by decide +kernel
theorem d_readUnit_14 : decode c_M_readUnit 14 = .ok (.aload_n 0, 1) := by decide +kernel
theorem d_readUnit_15 : decode c_M_readUnit 15 = .ok (.getfield 302, 3) := by decide +kernel
theorem d_readUnit_18 : decode c_M_readUnit 18 = .ok (.if_icmp .ge 148, 3) := by decide +kernel
theorem d_readUnit_21 : decode c_M_readUnit 21 = .ok (.aload_n 0, 1) := by decide +kernel
theorem d_readUnit_22 : decode c_M_readUnit 22 = .ok (.getfield 265, 3) := by decide +kernel
theorem d_readUnit_25 : decode c_M_readUnit 25 = .ok (.ifCond .ne 141, 3) := by decide +kernel
theorem d_readUnit_28 : decode c_M_readUnit 28 = .ok (.aload_n 0, 1) := by decide +kernel
theorem d_readUnit_29 : decode c_M_readUnit 29 = .ok (.getfield 130, 3) := by decide +kernel
theorem d_readUnit_32 : decode c_M_readUnit 32 = .ok (.iload 5, 2) := by decide +kernel
theorem d_readUnit_34 : decode c_M_readUnit 34 = .ok (.iaload, 1) := by decide +kernel
theorem d_readUnit_35 : decode c_M_readUnit 35 = .ok (.istore 6, 2) := by decide +kernel
theorem d_readUnit_37 : decode c_M_readUnit 37 = .ok (.aload_n 0, 1) := by decide +kernel
theorem d_readUnit_38 : decode c_M_readUnit 38 = .ok (.getfield 302, 3) := by decide +kernel
theorem d_readUnit_41 : decode c_M_readUnit 41 = .ok (.iconst 1, 1) := by decide +kernel
theorem d_readUnit_42 : decode c_M_readUnit 42 = .ok (.if_icmp .ne 7, 3) := by decide +kernel
theorem d_readUnit_45 : decode c_M_readUnit 45 = .ok (.iconst 1, 1) := by decide +kernel
theorem d_readUnit_46 : decode c_M_readUnit 46 = .ok (.goto 13, 3) := by decide +kernel
theorem d_readUnit_49 : decode c_M_readUnit 49 = .ok (.aload_n 0, 1) := by decide +kernel
theorem d_readUnit_50 : decode c_M_readUnit 50 = .ok (.getfield 50, 3) := by decide +kernel
theorem d_readUnit_53 : decode c_M_readUnit 53 = .ok (.bipush 6, 2) := by decide +kernel
theorem d_readUnit_55 : decode c_M_readUnit 55 = .ok (.iload 6, 2) := by decide +kernel
theorem d_readUnit_57 : decode c_M_readUnit 57 = .ok (.iadd, 1) := by decide +kernel
theorem d_readUnit_58 : decode c_M_readUnit 58 = .ok (.iaload, 1) := by decide +kernel
theorem d_readUnit_59 : decode c_M_readUnit 59 = .ok (.istore 7, 2) := by decide +kernel
theorem d_readUnit_61 : decode c_M_readUnit 61 = .ok (.aload_n 0, 1) := by decide +kernel
theorem d_readUnit_62 : decode c_M_readUnit 62 = .ok (.getfield 302, 3) := by decide +kernel
theorem d_readUnit_65 : decode c_M_readUnit 65 = .ok (.iconst 1, 1) := by decide +kernel
theorem d_readUnit_66 : decode c_M_readUnit 66 = .ok (.if_icmp .ne 7, 3) := by decide +kernel
theorem d_readUnit_69 : decode c_M_readUnit 69 = .ok (.iconst 1, 1) := by decide +kernel
theorem d_readUnit_70 : decode c_M_readUnit 70 = .ok (.goto 13, 3) := by decide +kernel
theorem d_readUnit_73 : decode c_M_readUnit 73 = .ok (.aload_n 0, 1) := by decide +kernel
theorem d_readUnit_74 : decode c_M_readUnit 74 = .ok (.getfield 53, 3) := by decide +kernel
theorem d_readUnit_77 : decode c_M_readUnit 77 = .ok (.bipush 6, 2) := by decide +kernel
theorem d_readUnit_79 : decode c_M_readUnit 79 = .ok (.iload 6, 2) := by decide +kernel
theorem d_readUnit_81 : decode c_M_readUnit 81 = .ok (.iadd, 1) := by decide +kernel
theorem d_readUnit_82 : decode c_M_readUnit 82 = .ok (.iaload, 1) := by decide +kernel
theorem d_readUnit_83 : decode c_M_readUnit 83 = .ok (.istore 8, 2) := by decide +kernel
theorem d_readUnit_85 : decode c_M_readUnit 85 = .ok (.iconst 0, 1) := by decide +kernel
theorem d_readUnit_86 : decode c_M_readUnit 86 = .ok (.istore 9, 2) := by decide +kernel
theorem d_readUnit_88 : decode c_M_readUnit 88 = .ok (.iload 9, 2) := by decide +kernel
theorem d_readUnit_90 : decode c_M_readUnit 90 = .ok (.iload 7, 2) := by decide +kernel
theorem d_readUnit_92 : decode c_M_readUnit 92 = .ok (.iload 8, 2) := by decide +kernel
theorem d_readUnit_94 : decode c_M_readUnit 94 = .ok (.imul, 1) := by decide +kernel
theorem d_readUnit_95 : decode c_M_readUnit 95 = .ok (.if_icmp .ge 65, 3) := by decide +kernel
theorem d_readUnit_98 : decode c_M_readUnit 98 = .ok (.aload_n 0, 1) := by decide +kernel
theorem d_readUnit_99 : decode c_M_readUnit 99 = .ok (.getfield 265, 3) := by decide +kernel
theorem d_readUnit_102 : decode c_M_readUnit 102 = .ok (.ifCond .ne 58, 3) := by decide +kernel
theorem d_readUnit_105 : decode c_M_readUnit 105 = .ok (.iload_n 3, 1) := by decide +kernel
theorem d_readUnit_106 : decode c_M_readUnit 106 = .ok (.iload 7, 2) := by decide +kernel
theorem d_readUnit_108 : decode c_M_readUnit 108 = .ok (.imul, 1) := by decide +kernel
theorem d_readUnit_109 : decode c_M_readUnit 109 = .ok (.iload 9, 2) := by decide +kernel
theorem d_readUnit_111 : decode c_M_readUnit 111 = .ok (.iload 7, 2) := by decide +kernel
theorem d_readUnit_113 : decode c_M_readUnit 113 = .ok (.irem, 1) := by decide +kernel
theorem d_readUnit_114 : decode c_M_readUnit 114 = .ok (.iadd, 1) := by decide +kernel
theorem d_readUnit_115 : decode c_M_readUnit 115 = .ok (.istore 10, 2) := by decide +kernel
theorem d_readUnit_117 : decode c_M_readUnit 117 = .ok (.iload 4, 2) := by decide +kernel
theorem d_readUnit_119 : decode c_M_readUnit 119 = .ok (.iload 8, 2) := by decide +kernel
theorem d_readUnit_121 : decode c_M_readUnit 121 = .ok (.imul, 1) := by decide +kernel
theorem d_readUnit_122 : decode c_M_readUnit 122 = .ok (.iload 9, 2) := by decide +kernel
theorem d_readUnit_124 : decode c_M_readUnit 124 = .ok (.iload 7, 2) := by decide +kernel
theorem d_readUnit_126 : decode c_M_readUnit 126 = .ok (.idiv, 1) := by decide +kernel
theorem d_readUnit_127 : decode c_M_readUnit 127 = .ok (.iadd, 1) := by decide +kernel
theorem d_readUnit_128 : decode c_M_readUnit 128 = .ok (.istore 11, 2) := by decide +kernel
theorem d_readUnit_130 : decode c_M_readUnit 130 = .ok (.aload_n 0, 1) := by decide +kernel
theorem d_readUnit_131 : decode c_M_readUnit 131 = .ok (.iload 5, 2) := by decide +kernel
theorem d_readUnit_133 : decode c_M_readUnit 133 = .ok (.iload 6, 2) := by decide +kernel
theorem d_readUnit_135 : decode c_M_readUnit 135 = .ok (.iload 11, 2) := by decide +kernel
theorem d_readUnit_137 : decode c_M_readUnit 137 = .ok (.aload_n 0, 1) := by decide +kernel
theorem d_readUnit_138 : decode c_M_readUnit 138 = .ok (.getfield 56, 3) := by decide +kernel
theorem d_readUnit_141 : decode c_M_readUnit 141 = .ok (.bipush 6, 2) := by decide +kernel
theorem d_readUnit_143 : decode c_M_readUnit 143 = .ok (.iload 6, 2) := by decide +kernel
theorem d_readUnit_145 : decode c_M_readUnit 145 = .ok (.iadd, 1) := by decide +kernel
theorem d_readUnit_146 : decode c_M_readUnit 146 = .ok (.iaload, 1) := by decide +kernel
theorem d_readUnit_147 : decode c_M_readUnit 147 = .ok (.imul, 1) := by decide +kernel
theorem d_readUnit_148 : decode c_M_readUnit 148 = .ok (.iload 10, 2) := by decide +kernel
theorem d_readUnit_150 : decode c_M_readUnit 150 = .ok (.iadd, 1) := by decide +kernel
theorem d_readUnit_151 : decode c_M_readUnit 151 = .ok (.invokevirtual 326, 3) := by decide +kernel
theorem d_readUnit_154 : decode c_M_readUnit 154 = .ok (.iinc 9 1, 3) := by decide +kernel
theorem d_readUnit_157 : decode c_M_readUnit 157 = .ok (.goto (-69), 3) := by decide +kernel
theorem d_readUnit_160 : decode c_M_readUnit 160 = .ok (.iinc 5 1, 3) := by decide +kernel
theorem d_readUnit_163 : decode c_M_readUnit 163 = .ok (.goto (-151), 3) := by decide +kernel
theorem d_readUnit_166 : decode c_M_readUnit 166 = .ok (.return_, 1) := by decide +kernel
theorem d_readData_0 : decode c_M_readData 0 = .ok (.aload_n 0, 1) := by decide +kernel
theorem d_readData_1 : decode c_M_readData 1 = .ok (.getfield 302, 3) := by decide +kernel
theorem d_readData_4 : decode c_M_readData 4 = .ok (.iconst 1, 1) := by decide +kernel
theorem d_readData_5 : decode c_M_readData 5 = .ok (.if_icmp .ne 7, 3) := by decide +kernel
theorem d_readData_8 : decode c_M_readData 8 = .ok (.iconst 1, 1) := by decide +kernel
theorem d_readData_9 : decode c_M_readData 9 = .ok (.goto 4, 3) := by decide +kernel
theorem d_readData_12 : decode c_M_readData 12 = .ok (.iconst 0, 1) := by decide +kernel
theorem d_readData_13 : decode c_M_readData 13 = .ok (.istore_n 1, 1) := by decide +kernel
theorem d_readData_14 : decode c_M_readData 14 = .ok (.iload_n 1, 1) := by decide +kernel
theorem d_readData_15 : decode c_M_readData 15 = .ok (.ifCond .eq 22, 3) := by decide +kernel
theorem d_readData_18 : decode c_M_readData 18 = .ok (.aload_n 0, 1) := by decide +kernel
theorem d_readData_19 : decode c_M_readData 19 = .ok (.iconst 2, 1) := by decide +kernel
theorem d_readData_20 : decode c_M_readData 20 = .ok (.aload_n 0, 1) := by decide +kernel
theorem d_readData_21 : decode c_M_readData 21 = .ok (.getfield 130, 3) := by decide +kernel
theorem d_readData_24 : decode c_M_readData 24 = .ok (.iconst 0, 1) := by decide +kernel
theorem d_readData_25 : decode c_M_readData 25 = .ok (.iaload, 1) := by decide +kernel
theorem d_readData_26 : decode c_M_readData 26 = .ok (.invokevirtual 184, 3) := by decide +kernel
theorem d_readData_29 : decode c_M_readData 29 = .ok (.bipush 8, 2) := by decide +kernel
theorem d_readData_31 : decode c_M_readData 31 = .ok (.invokestatic 177, 3) := by decide +kernel
theorem d_readData_34 : decode c_M_readData 34 = .ok (.goto 21, 3) := by decide +kernel
theorem d_readData_37 : decode c_M_readData 37 = .ok (.aload_n 0, 1) := by decide +kernel
theorem d_readData_38 : decode c_M_readData 38 = .ok (.getfield 41, 3) := by decide +kernel
theorem d_readData_41 : decode c_M_readData 41 = .ok (.iconst 2, 1) := by decide +kernel
theorem d_readData_42 : decode c_M_readData 42 = .ok (.iaload, 1) := by decide +kernel
theorem d_readData_43 : decode c_M_readData 43 = .ok (.bipush 8, 2) := by decide +kernel
theorem d_readData_45 : decode c_M_readData 45 = .ok (.aload_n 0, 1) := by decide +kernel
theorem d_readData_46 : decode c_M_readData 46 = .ok (.iconst 2, 1) := by decide +kernel
theorem d_readData_47 : decode c_M_readData 47 = .ok (.iconst 1, 1) := by decide +kernel
theorem d_readData_48 : decode c_M_readData 48 = .ok (.invokevirtual 173, 3) := by decide +kernel
theorem d_readData_51 : decode c_M_readData 51 = .ok (.imul, 1) := by decide +kernel
theorem d_readData_52 : decode c_M_readData 52 = .ok (.invokestatic 177, 3) := by decide +kernel
theorem d_readData_55 : decode c_M_readData 55 = .ok (.istore_n 2, 1) := by decide +kernel
theorem d_readData_56 : decode c_M_readData 56 = .ok (.iload_n 1, 1) := by decide +kernel
theorem d_readData_57 : decode c_M_readData 57 = .ok (.ifCond .eq 22, 3) := by decide +kernel
theorem d_readData_60 : decode c_M_readData 60 = .ok (.aload_n 0, 1) := by decide +kernel
theorem d_readData_61 : decode c_M_readData 61 = .ok (.iconst 2, 1) := by decide +kernel
theorem d_readData_62 : decode c_M_readData 62 = .ok (.aload_n 0, 1) := by decide +kernel
theorem d_readData_63 : decode c_M_readData 63 = .ok (.getfield 130, 3) := by decide +kernel
theorem d_readData_66 : decode c_M_readData 66 = .ok (.iconst 0, 1) := by decide +kernel
theorem d_readData_67 : decode c_M_readData 67 = .ok (.iaload, 1) := by decide +kernel
theorem d_readData_68 : decode c_M_readData 68 = .ok (.invokevirtual 181, 3) := by decide +kernel
theorem d_readData_71 : decode c_M_readData 71 = .ok (.bipush 8, 2) := by decide +kernel
theorem d_readData_73 : decode c_M_readData 73 = .ok (.invokestatic 177, 3) := by decide +kernel
theorem d_readData_76 : decode c_M_readData 76 = .ok (.goto 21, 3) := by decide +kernel
theorem d_readData_79 : decode c_M_readData 79 = .ok (.aload_n 0, 1) := by decide +kernel
theorem d_readData_80 : decode c_M_readData 80 = .ok (.getfield 44, 3) := by decide +kernel
theorem d_readData_83 : decode c_M_readData 83 = .ok (.iconst 2, 1) := by decide +kernel
theorem d_readData_84 : decode c_M_readData 84 = .ok (.iaload, 1) := by decide +kernel
theorem d_readData_85 : decode c_M_readData 85 = .ok (.bipush 8, 2) := by decide +kernel
theorem d_readData_87 : decode c_M_readData 87 = .ok (.aload_n 0, 1) := by decide +kernel
theorem d_readData_88 : decode c_M_readData 88 = .ok (.iconst 2, 1) := by decide +kernel
theorem d_readData_89 : decode c_M_readData 89 = .ok (.iconst 0, 1) := by decide +kernel
theorem d_readData_90 : decode c_M_readData 90 = .ok (.invokevirtual 173, 3) := by decide +kernel
theorem d_readData_93 : decode c_M_readData 93 = .ok (.imul, 1) := by decide +kernel
theorem d_readData_94 : decode c_M_readData 94 = .ok (.invokestatic 177, 3) := by decide +kernel
theorem d_readData_97 : decode c_M_readData 97 = .ok (.istore_n 3, 1) := by decide +kernel
theorem d_readData_98 : decode c_M_readData 98 = .ok (.aload_n 0, 1) := by decide +kernel
theorem d_readData_99 : decode c_M_readData 99 = .ok (.iconst 0, 1) := by decide +kernel
theorem d_readData_100 : decode c_M_readData 100 = .ok (.putfield 305, 3) := by decide +kernel
theorem d_readData_103 : decode c_M_readData 103 = .ok (.iconst 0, 1) := by decide +kernel
theorem d_readData_104 : decode c_M_readData 104 = .ok (.istore 4, 2) := by decide +kernel
theorem d_readData_106 : decode c_M_readData 106 = .ok (.iload 4, 2) := by decide +kernel
theorem d_readData_108 : decode c_M_readData 108 = .ok (.iload_n 2, 1) := by decide +kernel
theorem d_readData_109 : decode c_M_readData 109 = .ok (.iload_n 3, 1) := by decide +kernel
theorem d_readData_110 : decode c_M_readData 110 = .ok (.imul, 1) := by decide +kernel
theorem d_readData_111 : decode c_M_readData 111 = .ok (.if_icmp .ge 149, 3) := by decide +kernel
theorem d_readData_114 : decode c_M_readData 114 = .ok (.aload_n 0, 1) := by decide +kernel
theorem d_readData_115 : decode c_M_readData 115 = .ok (.getfield 265, 3) := by decide +kernel
theorem d_readData_118 : decode c_M_readData 118 = .ok (.ifCond .ne 142, 3) := by decide +kernel
theorem d_readData_121 : decode c_M_readData 121 = .ok (.aload_n 0, 1) := by decide +kernel
theorem d_readData_122 : decode c_M_readData 122 = .ok (.getfield 330, 3) := by decide +kernel
theorem d_readData_125 : decode c_M_readData 125 = .ok (.ifCond .le 22, 3) := by decide +kernel
theorem d_readData_128 : decode c_M_readData 128 = .ok (.iload 4, 2) := by decide +kernel
theorem d_readData_130 : decode c_M_readData 130 = .ok (.ifCond .le 17, 3) := by decide +kernel
theorem d_readData_133 : decode c_M_readData 133 = .ok (.iload 4, 2) := by decide +kernel
theorem d_readData_135 : decode c_M_readData 135 = .ok (.aload_n 0, 1) := by decide +kernel
theorem d_readData_136 : decode c_M_readData 136 = .ok (.getfield 330, 3) := by decide +kernel
theorem d_readData_139 : decode c_M_readData 139 = .ok (.irem, 1) := by decide +kernel
theorem d_readData_140 : decode c_M_readData 140 = .ok (.ifCond .ne 7, 3) := by decide +kernel
theorem d_readData_143 : decode c_M_readData 143 = .ok (.iconst 1, 1) := by decide +kernel
theorem d_readData_144 : decode c_M_readData 144 = .ok (.goto 4, 3) := by decide +kernel
theorem d_readData_147 : decode c_M_readData 147 = .ok (.iconst 0, 1) := by decide +kernel
theorem d_readData_148 : decode c_M_readData 148 = .ok (.istore 5, 2) := by decide +kernel
theorem d_readData_150 : decode c_M_readData 150 = .ok (.iload 5, 2) := by decide +kernel
theorem d_readData_152 : decode c_M_readData 152 = .ok (.ifCond .eq 55, 3) := by decide +kernel
theorem d_readData_155 : decode c_M_readData 155 = .ok (.aload_n 0, 1) := by decide +kernel
theorem d_readData_156 : decode c_M_readData 156 = .ok (.iconst 0, 1) := by decide +kernel
theorem d_readData_157 : decode c_M_readData 157 = .ok (.putfield 305, 3) := by decide +kernel
theorem d_readData_160 : decode c_M_readData 160 = .ok (.aload_n 0, 1) := by decide +kernel
theorem d_readData_161 : decode c_M_readData 161 = .ok (.invokevirtual 333, 3) := by decide +kernel
theorem d_readData_164 : decode c_M_readData 164 = .ok (.istore 6, 2) := by decide +kernel
theorem d_readData_166 : decode c_M_readData 166 = .ok (.aload_n 0, 1) := by decide +kernel
theorem d_readData_167 : decode c_M_readData 167 = .ok (.getfield 265, 3) := by decide +kernel
theorem d_readData_170 : decode c_M_readData 170 = .ok (.ifCond .ne 37, 3) := by decide +kernel
theorem d_readData_173 : decode c_M_readData 173 = .ok (.iload 6, 2) := by decide +kernel
theorem d_readData_175 : decode c_M_readData 175 = .ok (.sipush 208, 3) := by decide +kernel
theorem d_readData_178 : decode c_M_readData 178 = .ok (.iload 4, 2) := by decide +kernel
theorem d_readData_180 : decode c_M_readData 180 = .ok (.aload_n 0, 1) := by decide +kernel
theorem d_readData_181 : decode c_M_readData 181 = .ok (.getfield 330, 3) := by decide +kernel
theorem d_readData_184 : decode c_M_readData 184 = .ok (.idiv, 1) := by decide +kernel
theorem d_readData_185 : decode c_M_readData 185 = .ok (.iconst 1, 1) := by decide +kernel
theorem d_readData_186 : decode c_M_readData 186 = .ok (.isub, 1) := by decide +kernel
theorem d_readData_187 : decode c_M_readData 187 = .ok (.bipush 8, 2) := by decide +kernel
theorem d_readData_189 : decode c_M_readData 189 = .ok (.irem, 1) := by decide +kernel
theorem d_readData_190 : decode c_M_readData 190 = .ok (.iadd, 1) := by decide +kernel
theorem d_readData_191 : decode c_M_readData 191 = .ok (.if_icmp .eq 16, 3) := by decide +kernel
theorem d_readData_194 : decode c_M_readData 194 = .ok (.aload_n 0, 1) := by decide +kernel
theorem d_readData_195 : decode c_M_readData 195 = .ok (.iconst 3, 1) := by decide +kernel
theorem d_readData_196 : decode c_M_readData 196 = .ok (.aload_n 0, 1) := by decide +kernel
theorem d_readData_197 : decode c_M_readData 197 = .ok (.getfield 268, 3) := by decide +kernel
theorem d_readData_200 : decode c_M_readData 200 = .ok (.iconst 1, 1) := by decide +kernel
theorem d_readData_201 : decode c_M_readData 201 = .ok (.isub, 1) := by decide +kernel
theorem d_readData_202 : decode c_M_readData 202 = .ok (.invokevirtual 271, 3) := by decide +kernel
theorem d_readData_205 : decode c_M_readData 205 = .ok (.istore 7, 2) := by decide +kernel
theorem d_readData_207 : decode c_M_readData 207 = .ok (.iconst 0, 1) := by decide +kernel
theorem d_readData_208 : decode c_M_readData 208 = .ok (.istore 6, 2) := by decide +kernel
theorem d_readData_210 : decode c_M_readData 210 = .ok (.iload 6, 2) := by decide +kernel
theorem d_readData_212 : decode c_M_readData 212 = .ok (.iconst 3, 1) := by decide +kernel
theorem d_readData_213 : decode c_M_readData 213 = .ok (.if_icmp .ge 27, 3) := by decide +kernel
theorem d_readData_216 : decode c_M_readData 216 = .ok (.iload 4, 2) := by decide +kernel
theorem d_readData_218 : decode c_M_readData 218 = .ok (.ifCond .eq 8, 3) := by decide +kernel
theorem d_readData_221 : decode c_M_readData 221 = .ok (.iload 5, 2) := by decide +kernel
theorem d_readData_223 : decode c_M_readData 223 = .ok (.ifCond .eq 17, 3) := by decide +kernel
theorem d_readData_226 : decode c_M_readData 226 = .ok (.aload_n 0, 1) := by decide +kernel
theorem d_readData_227 : decode c_M_readData 227 = .ok (.getfield 139, 3) := by decide +kernel
theorem d_readData_230 : decode c_M_readData 230 = .ok (.iload 6, 2) := by decide +kernel
theorem d_readData_232 : decode c_M_readData 232 = .ok (.iconst 0, 1) := by decide +kernel
theorem d_readData_233 : decode c_M_readData 233 = .ok (.iastore, 1) := by decide +kernel
theorem d_readData_234 : decode c_M_readData 234 = .ok (.iinc 6 1, 3) := by decide +kernel
theorem d_readData_237 : decode c_M_readData 237 = .ok (.goto (-27), 3) := by decide +kernel
theorem d_readData_240 : decode c_M_readData 240 = .ok (.aload_n 0, 1) := by decide +kernel
theorem d_readData_241 : decode c_M_readData 241 = .ok (.getfield 265, 3) := by decide +kernel
theorem d_readData_244 : decode c_M_readData 244 = .ok (.ifCond .ne 10, 3) := by decide +kernel
theorem d_readData_247 : decode c_M_readData 247 = .ok (.aload_n 0, 1) := by decide +kernel
theorem d_readData_248 : decode c_M_readData 248 = .ok (.iload 4, 2) := by decide +kernel
theorem d_readData_250 : decode c_M_readData 250 = .ok (.iload_n 2, 1) := by decide +kernel
theorem d_readData_251 : decode c_M_readData 251 = .ok (.invokevirtual 336, 3) := by decide +kernel
theorem d_readData_254 : decode c_M_readData 254 = .ok (.iinc 4 1, 3) := by decide +kernel
theorem d_readData_257 : decode c_M_readData 257 = .ok (.goto (-151), 3) := by decide +kernel
theorem d_readData_260 : decode c_M_readData 260 = .ok (.return_, 1) := by decide +kernel
theorem d_readSection_0 : decode c_M_readSection 0 = .ok (.aload_n 0, 1) := by decide +kernel
theorem d_readSection_1 : decode c_M_readSection 1 = .ok (.invokevirtual 339, 3) := by decide +kernel
theorem d_readSection_4 : decode c_M_readSection 4 = .ok (.aload_n 0, 1) := by decide +kernel
theorem d_readSection_5 : decode c_M_readSection 5 = .ok (.getfield 265, 3) := by decide +kernel
theorem d_readSection_8 : decode c_M_readSection 8 = .ok (.ifCond .le 4, 3) := by decide +kernel
theorem d_readSection_11 : decode c_M_readSection 11 = .ok (.return_, 1) := by decide +kernel
theorem d_readSection_12 : decode c_M_readSection 12 = .ok (.iload_n 1, 1) := by decide +kernel
theorem d_readSection_13 : decode c_M_readSection 13 = .ok (.sipush 219, 3) := by decide +kernel
theorem d_readSection_16 : decode c_M_readSection 16 = .ok (.if_icmp .ne 10, 3) := by decide +kernel
theorem d_readSection_19 : decode c_M_readSection 19 = .ok (.aload_n 0, 1) := by decide +kernel
theorem d_readSection_20 : decode c_M_readSection 20 = .ok (.invokevirtual 342, 3) := by decide +kernel
theorem d_readSection_23 : decode c_M_readSection 23 = .ok (.goto 134, 3) := by decide +kernel
theorem d_readSection_26 : decode c_M_readSection 26 = .ok (.iload_n 1, 1) := by decide +kernel
theorem d_readSection_27 : decode c_M_readSection 27 = .ok (.sipush 196, 3) := by decide +kernel
theorem d_readSection_30 : decode c_M_readSection 30 = .ok (.if_icmp .ne 10, 3) := by decide +kernel
theorem d_readSection_33 : decode c_M_readSection 33 = .ok (.aload_n 0, 1) := by decide +kernel
theorem d_readSection_34 : decode c_M_readSection 34 = .ok (.invokevirtual 345, 3) := by decide +kernel
theorem d_readSection_37 : decode c_M_readSection 37 = .ok (.goto 120, 3) := by decide +kernel
theorem d_readSection_40 : decode c_M_readSection 40 = .ok (.iload_n 1, 1) := by decide +kernel
theorem d_readSection_41 : decode c_M_readSection 41 = .ok (.sipush 192, 3) := by decide +kernel
theorem d_readSection_44 : decode c_M_readSection 44 = .ok (.if_icmp .ne 10, 3) := by decide +kernel
theorem d_readSection_47 : decode c_M_readSection 47 = .ok (.aload_n 0, 1) := by decide +kernel
theorem d_readSection_48 : decode c_M_readSection 48 = .ok (.invokevirtual 348, 3) := by decide +kernel
theorem d_readSection_51 : decode c_M_readSection 51 = .ok (.goto 106, 3) := by decide +kernel
theorem d_readSection_54 : decode c_M_readSection 54 = .ok (.iload_n 1, 1) := by decide +kernel
theorem d_readSection_55 : decode c_M_readSection 55 = .ok (.sipush 221, 3) := by decide +kernel
theorem d_readSection_58 : decode c_M_readSection 58 = .ok (.if_icmp .ne 48, 3) := by decide +kernel
theorem d_readSection_61 : decode c_M_readSection 61 = .ok (.aload_n 0, 1) := by decide +kernel
theorem d_readSection_62 : decode c_M_readSection 62 = .ok (.getfield 275, 3) := by decide +kernel
theorem d_readSection_65 : decode c_M_readSection 65 = .ok (.aload_n 0, 1) := by decide +kernel
theorem d_readSection_66 : decode c_M_readSection 66 = .ok (.getfield 278, 3) := by decide +kernel
theorem d_readSection_69 : decode c_M_readSection 69 = .ok (.isub, 1) := by decide +kernel
theorem d_readSection_70 : decode c_M_readSection 70 = .ok (.iconst 4, 1) := by decide +kernel
theorem d_readSection_71 : decode c_M_readSection 71 = .ok (.if_icmp .eq 13, 3) := by decide +kernel
theorem d_readSection_74 : decode c_M_readSection 74 = .ok (.aload_n 0, 1) := by decide +kernel
theorem d_readSection_75 : decode c_M_readSection 75 = .ok (.iconst 4, 1) := by decide +kernel
theorem d_readSection_76 : decode c_M_readSection 76 = .ok (.aload_n 0, 1) := by decide +kernel
theorem d_readSection_77 : decode c_M_readSection 77 = .ok (.getfield 278, 3) := by decide +kernel
theorem d_readSection_80 : decode c_M_readSection 80 = .ok (.invokevirtual 271, 3) := by decide +kernel
theorem d_readSection_83 : decode c_M_readSection 83 = .ok (.istore_n 2, 1) := by decide +kernel
theorem d_readSection_84 : decode c_M_readSection 84 = .ok (.aload_n 0, 1) := by decide +kernel
theorem d_readSection_85 : decode c_M_readSection 85 = .ok (.aload_n 0, 1) := by decide +kernel
theorem d_readSection_86 : decode c_M_readSection 86 = .ok (.getfield 265, 3) := by decide +kernel
theorem d_readSection_89 : decode c_M_readSection 89 = .ok (.ifCond .ne 10, 3) := by decide +kernel
theorem d_readSection_92 : decode c_M_readSection 92 = .ok (.aload_n 0, 1) := by decide +kernel
theorem d_readSection_93 : decode c_M_readSection 93 = .ok (.invokevirtual 285, 3) := by decide +kernel
theorem d_readSection_96 : decode c_M_readSection 96 = .ok (.goto 4, 3) := by decide +kernel
theorem d_readSection_99 : decode c_M_readSection 99 = .ok (.iconst 0, 1) := by decide +kernel
theorem d_readSection_100 : decode c_M_readSection 100 = .ok (.putfield 330, 3) := by decide +kernel
theorem d_readSection_103 : decode c_M_readSection 103 = .ok (.goto 54, 3) := by decide +kernel
theorem d_readSection_106 : decode c_M_readSection 106 = .ok (.iload_n 1, 1) := by decide +kernel
theorem d_readSection_107 : decode c_M_readSection 107 = .ok (.sipush 218, 3) := by decide +kernel
theorem d_readSection_110 : decode c_M_readSection 110 = .ok (.if_icmp .ne 21, 3) := by decide +kernel
theorem d_readSection_113 : decode c_M_readSection 113 = .ok (.aload_n 0, 1) := by decide +kernel
theorem d_readSection_114 : decode c_M_readSection 114 = .ok (.invokevirtual 351, 3) := by decide +kernel
theorem d_readSection_117 : decode c_M_readSection 117 = .ok (.aload_n 0, 1) := by decide +kernel
theorem d_readSection_118 : decode c_M_readSection 118 = .ok (.getfield 265, 3) := by decide +kernel
theorem d_readSection_121 : decode c_M_readSection 121 = .ok (.ifCond .ne 36, 3) := by decide +kernel
theorem d_readSection_124 : decode c_M_readSection 124 = .ok (.aload_n 0, 1) := by decide +kernel
theorem d_readSection_125 : decode c_M_readSection 125 = .ok (.invokevirtual 354, 3) := by decide +kernel
theorem d_readSection_128 : decode c_M_readSection 128 = .ok (.goto 29, 3) := by decide +kernel
theorem d_readSection_131 : decode c_M_readSection 131 = .ok (.aload_n 0, 1) := by decide +kernel
theorem d_readSection_132 : decode c_M_readSection 132 = .ok (.getfield 268, 3) := by decide +kernel
theorem d_readSection_135 : decode c_M_readSection 135 = .ok (.aload_n 0, 1) := by decide +kernel
theorem d_readSection_136 : decode c_M_readSection 136 = .ok (.getfield 275, 3) := by decide +kernel
theorem d_readSection_139 : decode c_M_readSection 139 = .ok (.if_icmp .ge 18, 3) := by decide +kernel
theorem d_readSection_142 : decode c_M_readSection 142 = .ok (.aload_n 0, 1) := by decide +kernel
theorem d_readSection_143 : decode c_M_readSection 143 = .ok (.getfield 265, 3) := by decide +kernel
theorem d_readSection_146 : decode c_M_readSection 146 = .ok (.ifCond .ne 11, 3) := by decide +kernel
theorem d_readSection_149 : decode c_M_readSection 149 = .ok (.aload_n 0, 1) := by decide +kernel
theorem d_readSection_150 : decode c_M_readSection 150 = .ok (.invokevirtual 281, 3) := by decide +kernel
theorem d_readSection_153 : decode c_M_readSection 153 = .ok (.istore_n 2, 1) := by decide +kernel
theorem d_readSection_154 : decode c_M_readSection 154 = .ok (.goto (-23), 3) := by decide +kernel
theorem d_readSection_157 : decode c_M_readSection 157 = .ok (.return_, 1) := by decide +kernel
theorem d_isDone_0 : decode c_M_isDone 0 = .ok (.aload_n 0, 1) := by decide +kernel
theorem d_isDone_1 : decode c_M_isDone 1 = .ok (.getfield 295, 3) := by decide +kernel
theorem d_isDone_4 : decode c_M_isDone 4 = .ok (.istore_n 1, 1) := by decide +kernel
theorem d_isDone_5 : decode c_M_isDone 5 = .ok (.iconst 0, 1) := by decide +kernel
theorem d_isDone_6 : decode c_M_isDone 6 = .ok (.istore_n 2, 1) := by decide +kernel
theorem d_isDone_7 : decode c_M_isDone 7 = .ok (.iload_n 2, 1) := by decide +kernel
theorem d_isDone_8 : decode c_M_isDone 8 = .ok (.aload_n 0, 1) := by decide +kernel
theorem d_isDone_9 : decode c_M_isDone 9 = .ok (.getfield 47, 3) := by decide +kernel
theorem d_isDone_12 : decode c_M_isDone 12 = .ok (.iconst 2, 1) := by decide +kernel
theorem d_isDone_13 : decode c_M_isDone 13 = .ok (.iaload, 1) := by decide +kernel
theorem d_isDone_14 : decode c_M_isDone 14 = .ok (.if_icmp .ge 20, 3) := by decide +kernel
theorem d_isDone_17 : decode c_M_isDone 17 = .ok (.iload_n 1, 1) := by decide +kernel
theorem d_isDone_18 : decode c_M_isDone 18 = .ok (.ifCond .eq 16, 3) := by decide +kernel
theorem d_isDone_21 : decode c_M_isDone 21 = .ok (.aload_n 0, 1) := by decide +kernel
theorem d_isDone_22 : decode c_M_isDone 22 = .ok (.getfield 127, 3) := by decide +kernel
theorem d_isDone_25 : decode c_M_isDone 25 = .ok (.iload_n 2, 1) := by decide +kernel
theorem d_isDone_26 : decode c_M_isDone 26 = .ok (.baload, 1) := by decide +kernel
theorem d_isDone_27 : decode c_M_isDone 27 = .ok (.istore_n 1, 1) := by decide +kernel
theorem d_isDone_28 : decode c_M_isDone 28 = .ok (.iinc 2 1, 3) := by decide +kernel
theorem d_isDone_31 : decode c_M_isDone 31 = .ok (.goto (-24), 3) := by decide +kernel
theorem d_isDone_34 : decode c_M_isDone 34 = .ok (.iload_n 1, 1) := by decide +kernel
theorem d_isDone_35 : decode c_M_isDone 35 = .ok (.ireturn, 1) := by decide +kernel
theorem d_mayCome_0 : decode c_M_mayCome 0 = .ok (.iload_n 1, 1) := by decide +kernel
theorem d_mayCome_1 : decode c_M_mayCome 1 = .ok (.sipush 219, 3) := by decide +kernel
theorem d_mayCome_4 : decode c_M_mayCome 4 = .ok (.if_icmp .eq 38, 3) := by decide +kernel
theorem d_mayCome_7 : decode c_M_mayCome 7 = .ok (.iload_n 1, 1) := by decide +kernel
theorem d_mayCome_8 : decode c_M_mayCome 8 = .ok (.sipush 196, 3) := by decide +kernel
theorem d_mayCome_11 : decode c_M_mayCome 11 = .ok (.if_icmp .eq 31, 3) := by decide +kernel
theorem d_mayCome_14 : decode c_M_mayCome 14 = .ok (.iload_n 1, 1) := by decide +kernel
theorem d_mayCome_15 : decode c_M_mayCome 15 = .ok (.sipush 221, 3) := by decide +kernel
theorem d_mayCome_18 : decode c_M_mayCome 18 = .ok (.if_icmp .eq 24, 3) := by decide +kernel
theorem d_mayCome_21 : decode c_M_mayCome 21 = .ok (.iload_n 1, 1) := by decide +kernel
theorem d_mayCome_22 : decode c_M_mayCome 22 = .ok (.sipush 224, 3) := by decide +kernel
theorem d_mayCome_25 : decode c_M_mayCome 25 = .ok (.if_icmp .lt 10, 3) := by decide +kernel
theorem d_mayCome_28 : decode c_M_mayCome 28 = .ok (.iload_n 1, 1) := by decide +kernel
theorem d_mayCome_29 : decode c_M_mayCome 29 = .ok (.sipush 240, 3) := by decide +kernel
theorem d_mayCome_32 : decode c_M_mayCome 32 = .ok (.if_icmp .lt 10, 3) := by decide +kernel
theorem d_mayCome_35 : decode c_M_mayCome 35 = .ok (.iload_n 1, 1) := by decide +kernel
theorem d_mayCome_36 : decode c_M_mayCome 36 = .ok (.sipush 254, 3) := by decide +kernel
theorem d_mayCome_39 : decode c_M_mayCome 39 = .ok (.if_icmp .ne 7, 3) := by decide +kernel
theorem d_mayCome_42 : decode c_M_mayCome 42 = .ok (.iconst 1, 1) := by decide +kernel
theorem d_mayCome_43 : decode c_M_mayCome 43 = .ok (.goto 4, 3) := by decide +kernel
theorem d_mayCome_46 : decode c_M_mayCome 46 = .ok (.iconst 0, 1) := by decide +kernel
theorem d_mayCome_47 : decode c_M_mayCome 47 = .ok (.istore_n 2, 1) := by decide +kernel
theorem d_mayCome_48 : decode c_M_mayCome 48 = .ok (.iload_n 2, 1) := by decide +kernel
theorem d_mayCome_49 : decode c_M_mayCome 49 = .ok (.ifCond .ne 45, 3) := by decide +kernel
theorem d_mayCome_52 : decode c_M_mayCome 52 = .ok (.iload_n 1, 1) := by decide +kernel
theorem d_mayCome_53 : decode c_M_mayCome 53 = .ok (.sipush 192, 3) := by decide +kernel
theorem d_mayCome_56 : decode c_M_mayCome 56 = .ok (.if_icmp .ne 10, 3) := by decide +kernel
theorem d_mayCome_59 : decode c_M_mayCome 59 = .ok (.aload_n 0, 1) := by decide +kernel
theorem d_mayCome_60 : decode c_M_mayCome 60 = .ok (.getfield 295, 3) := by decide +kernel
theorem d_mayCome_63 : decode c_M_mayCome 63 = .ok (.ifCond .eq 31, 3) := by decide +kernel
theorem d_mayCome_66 : decode c_M_mayCome 66 = .ok (.iload_n 1, 1) := by decide +kernel
theorem d_mayCome_67 : decode c_M_mayCome 67 = .ok (.sipush 218, 3) := by decide +kernel
theorem d_mayCome_70 : decode c_M_mayCome 70 = .ok (.if_icmp .ne 10, 3) := by decide +kernel
theorem d_mayCome_73 : decode c_M_mayCome 73 = .ok (.aload_n 0, 1) := by decide +kernel
theorem d_mayCome_74 : decode c_M_mayCome 74 = .ok (.getfield 295, 3) := by decide +kernel
theorem d_mayCome_77 : decode c_M_mayCome 77 = .ok (.ifCond .ne 17, 3) := by decide +kernel
theorem d_mayCome_80 : decode c_M_mayCome 80 = .ok (.iload_n 1, 1) := by decide +kernel
theorem d_mayCome_81 : decode c_M_mayCome 81 = .ok (.sipush 217, 3) := by decide +kernel
theorem d_mayCome_84 : decode c_M_mayCome 84 = .ok (.if_icmp .ne 14, 3) := by decide +kernel
theorem d_mayCome_87 : decode c_M_mayCome 87 = .ok (.aload_n 0, 1) := by decide +kernel
theorem d_mayCome_88 : decode c_M_mayCome 88 = .ok (.invokevirtual 357, 3) := by decide +kernel
theorem d_mayCome_91 : decode c_M_mayCome 91 = .ok (.ifCond .eq 7, 3) := by decide +kernel
theorem d_mayCome_94 : decode c_M_mayCome 94 = .ok (.iconst 1, 1) := by decide +kernel
theorem d_mayCome_95 : decode c_M_mayCome 95 = .ok (.goto 4, 3) := by decide +kernel
theorem d_mayCome_98 : decode c_M_mayCome 98 = .ok (.iconst 0, 1) := by decide +kernel
theorem d_mayCome_99 : decode c_M_mayCome 99 = .ok (.ireturn, 1) := by decide +kernel
theorem d_begin_0 : decode c_M_begin 0 = .ok (.aload_n 0, 1) := by decide +kernel
theorem d_begin_1 : decode c_M_begin 1 = .ok (.iconst 0, 1) := by decide +kernel
theorem d_begin_2 : decode c_M_begin 2 = .ok (.putfield 268, 3) := by decide +kernel
theorem d_begin_5 : decode c_M_begin 5 = .ok (.aload_n 0, 1) := by decide +kernel
theorem d_begin_6 : decode c_M_begin 6 = .ok (.iconst 0, 1) := by decide +kernel
theorem d_begin_7 : decode c_M_begin 7 = .ok (.putfield 265, 3) := by decide +kernel
theorem d_begin_10 : decode c_M_begin 10 = .ok (.aload_n 0, 1) := by decide +kernel
theorem d_begin_11 : decode c_M_begin 11 = .ok (.iconst (-1), 1) := by decide +kernel
theorem d_begin_12 : decode c_M_begin 12 = .ok (.putfield 34, 3) := by decide +kernel
theorem d_begin_15 : decode c_M_begin 15 = .ok (.aload_n 0, 1) := by decide +kernel
theorem d_begin_16 : decode c_M_begin 16 = .ok (.iconst 0, 1) := by decide +kernel
theorem d_begin_17 : decode c_M_begin 17 = .ok (.putfield 295, 3) := by decide +kernel
theorem d_begin_20 : decode c_M_begin 20 = .ok (.aload_n 0, 1) := by decide +kernel
theorem d_begin_21 : decode c_M_begin 21 = .ok (.iconst 0, 1) := by decide +kernel
theorem d_begin_22 : decode c_M_begin 22 = .ok (.putfield 330, 3) := by decide +kernel
theorem d_begin_25 : decode c_M_begin 25 = .ok (.aload_n 0, 1) := by decide +kernel
theorem d_begin_26 : decode c_M_begin 26 = .ok (.getfield 47, 3) := by decide +kernel
theorem d_begin_29 : decode c_M_begin 29 = .ok (.iconst 2, 1) := by decide +kernel
theorem d_begin_30 : decode c_M_begin 30 = .ok (.iconst 0, 1) := by decide +kernel
theorem d_begin_31 : decode c_M_begin 31 = .ok (.iastore, 1) := by decide +kernel
theorem d_begin_32 : decode c_M_begin 32 = .ok (.iconst 0, 1) := by decide +kernel
theorem d_begin_33 : decode c_M_begin 33 = .ok (.istore_n 1, 1) := by decide +kernel
theorem d_begin_34 : decode c_M_begin 34 = .ok (.iload_n 1, 1) := by decide +kernel
theorem d_begin_35 : decode c_M_begin 35 = .ok (.iconst 4, 1) := by decide +kernel
theorem d_begin_36 : decode c_M_begin 36 = .ok (.if_icmp .ge 23, 3) := by decide +kernel
theorem d_begin_39 : decode c_M_begin 39 = .ok (.aload_n 0, 1) := by decide +kernel
theorem d_begin_40 : decode c_M_begin 40 = .ok (.getfield 106, 3) := by decide +kernel
theorem d_begin_43 : decode c_M_begin 43 = .ok (.iload_n 1, 1) := by decide +kernel
theorem d_begin_44 : decode c_M_begin 44 = .ok (.iconst 0, 1) := by decide +kernel
theorem d_begin_45 : decode c_M_begin 45 = .ok (.bastore, 1) := by decide +kernel
theorem d_begin_46 : decode c_M_begin 46 = .ok (.aload_n 0, 1) := by decide +kernel
theorem d_begin_47 : decode c_M_begin 47 = .ok (.getfield 115, 3) := by decide +kernel
theorem d_begin_50 : decode c_M_begin 50 = .ok (.iload_n 1, 1) := by decide +kernel
theorem d_begin_51 : decode c_M_begin 51 = .ok (.iconst 0, 1) := by decide +kernel
theorem d_begin_52 : decode c_M_begin 52 = .ok (.bastore, 1) := by decide +kernel
theorem d_begin_53 : decode c_M_begin 53 = .ok (.iinc 1 1, 3) := by decide +kernel
theorem d_begin_56 : decode c_M_begin 56 = .ok (.goto (-22), 3) := by decide +kernel
theorem d_begin_59 : decode c_M_begin 59 = .ok (.iconst 0, 1) := by decide +kernel
theorem d_begin_60 : decode c_M_begin 60 = .ok (.istore_n 1, 1) := by decide +kernel
theorem d_begin_61 : decode c_M_begin 61 = .ok (.iload_n 1, 1) := by decide +kernel
theorem d_begin_62 : decode c_M_begin 62 = .ok (.iconst 3, 1) := by decide +kernel
theorem d_begin_63 : decode c_M_begin 63 = .ok (.if_icmp .ge 16, 3) := by decide +kernel
theorem d_begin_66 : decode c_M_begin 66 = .ok (.aload_n 0, 1) := by decide +kernel
theorem d_begin_67 : decode c_M_begin 67 = .ok (.getfield 127, 3) := by decide +kernel
theorem d_begin_70 : decode c_M_begin 70 = .ok (.iload_n 1, 1) := by decide +kernel
theorem d_begin_71 : decode c_M_begin 71 = .ok (.iconst 0, 1) := by decide +kernel
theorem d_begin_72 : decode c_M_begin 72 = .ok (.bastore, 1) := by decide +kernel
theorem d_begin_73 : decode c_M_begin 73 = .ok (.iinc 1 1, 3) := by decide +kernel
theorem d_begin_76 : decode c_M_begin 76 = .ok (.goto (-15), 3) := by decide +kernel
theorem d_begin_79 : decode c_M_begin 79 = .ok (.return_, 1) := by decide +kernel
