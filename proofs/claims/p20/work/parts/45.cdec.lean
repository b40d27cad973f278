theorem dc_Pa_makeLevels_0 : decode c_C_Pa_makeLevels 0 = .ok (.aload_n 0, 1) := by decide +kernel
theorem dc_Pa_makeLevels_1 : decode c_C_Pa_makeLevels 1 = .ok (.aload_n 1, 1) := by decide +kernel
theorem dc_Pa_makeLevels_2 : decode c_C_Pa_makeLevels 2 = .ok (.getfield 63, 3) := by decide +kernel
theorem dc_Pa_makeLevels_5 : decode c_C_Pa_makeLevels 5 = .ok (.iconst 1, 1) := by decide +kernel
theorem dc_Pa_makeLevels_6 : decode c_C_Pa_makeLevels 6 = .ok (.if_icmp .ne 7, 3) := by decide +kernel
theorem dc_Pa_makeLevels_9 : decode c_C_Pa_makeLevels 9 = .ok (.iconst 1, 1) := by decide +kernel
theorem dc_Pa_makeLevels_10 : decode c_C_Pa_makeLevels 10 = .ok (.goto 4, 3) := by decide +kernel
theorem dc_Pa_makeLevels_13 : decode c_C_Pa_makeLevels 13 = .ok (.iconst 2, 1) := by decide +kernel
theorem dc_Pa_makeLevels_14 : decode c_C_Pa_makeLevels 14 = .ok (.putfield 69, 3) := by decide +kernel
theorem dc_Pa_makeLevels_17 : decode c_C_Pa_makeLevels 17 = .ok (.aload_n 0, 1) := by decide +kernel
theorem dc_Pa_makeLevels_18 : decode c_C_Pa_makeLevels 18 = .ok (.getfield 31, 3) := by decide +kernel
theorem dc_Pa_makeLevels_21 : decode c_C_Pa_makeLevels 21 = .ok (.aload_n 1, 1) := by decide +kernel
theorem dc_Pa_makeLevels_22 : decode c_C_Pa_makeLevels 22 = .ok (.getfield 72, 3) := by decide +kernel
theorem dc_Pa_makeLevels_25 : decode c_C_Pa_makeLevels 25 = .ok (.aload_n 1, 1) := by decide +kernel
theorem dc_Pa_makeLevels_26 : decode c_C_Pa_makeLevels 26 = .ok (.getfield 75, 3) := by decide +kernel
theorem dc_Pa_makeLevels_29 : decode c_C_Pa_makeLevels 29 = .ok (.aload_n 1, 1) := by decide +kernel
theorem dc_Pa_makeLevels_30 : decode c_C_Pa_makeLevels 30 = .ok (.getfield 63, 3) := by decide +kernel
theorem dc_Pa_makeLevels_33 : decode c_C_Pa_makeLevels 33 = .ok (.invokevirtual 78, 3) := by decide +kernel
theorem dc_Pa_makeLevels_36 : decode c_C_Pa_makeLevels 36 = .ok (.aload_n 0, 1) := by decide +kernel
theorem dc_Pa_makeLevels_37 : decode c_C_Pa_makeLevels 37 = .ok (.getfield 38, 3) := by decide +kernel
theorem dc_Pa_makeLevels_40 : decode c_C_Pa_makeLevels 40 = .ok (.iconst 0, 1) := by decide +kernel
theorem dc_Pa_makeLevels_41 : decode c_C_Pa_makeLevels 41 = .ok (.putfield 82, 3) := by decide +kernel
theorem dc_Pa_makeLevels_44 : decode c_C_Pa_makeLevels 44 = .ok (.iconst 0, 1) := by decide +kernel
theorem dc_Pa_makeLevels_45 : decode c_C_Pa_makeLevels 45 = .ok (.istore 5, 2) := by decide +kernel
theorem dc_Pa_makeLevels_47 : decode c_C_Pa_makeLevels 47 = .ok (.iload 5, 2) := by decide +kernel
theorem dc_Pa_makeLevels_49 : decode c_C_Pa_makeLevels 49 = .ok (.aload_n 0, 1) := by decide +kernel
theorem dc_Pa_makeLevels_50 : decode c_C_Pa_makeLevels 50 = .ok (.getfield 31, 3) := by decide +kernel
theorem dc_Pa_makeLevels_53 : decode c_C_Pa_makeLevels 53 = .ok (.getfield 85, 3) := by decide +kernel
theorem dc_Pa_makeLevels_56 : decode c_C_Pa_makeLevels 56 = .ok (.if_icmp .ge 59, 3) := by decide +kernel
theorem dc_Pa_makeLevels_59 : decode c_C_Pa_makeLevels 59 = .ok (.aload_n 0, 1) := by decide +kernel
theorem dc_Pa_makeLevels_60 : decode c_C_Pa_makeLevels 60 = .ok (.getfield 31, 3) := by decide +kernel
theorem dc_Pa_makeLevels_63 : decode c_C_Pa_makeLevels 63 = .ok (.iload 5, 2) := by decide +kernel
theorem dc_Pa_makeLevels_65 : decode c_C_Pa_makeLevels 65 = .ok (.iload 5, 2) := by decide +kernel
theorem dc_Pa_makeLevels_67 : decode c_C_Pa_makeLevels 67 = .ok (.ifCond .ne 7, 3) := by decide +kernel
theorem dc_Pa_makeLevels_70 : decode c_C_Pa_makeLevels 70 = .ok (.iload_n 3, 1) := by decide +kernel
theorem dc_Pa_makeLevels_71 : decode c_C_Pa_makeLevels 71 = .ok (.goto 4, 3) := by decide +kernel
theorem dc_Pa_makeLevels_74 : decode c_C_Pa_makeLevels 74 = .ok (.iconst 1, 1) := by decide +kernel
theorem dc_Pa_makeLevels_75 : decode c_C_Pa_makeLevels 75 = .ok (.iload 5, 2) := by decide +kernel
theorem dc_Pa_makeLevels_77 : decode c_C_Pa_makeLevels 77 = .ok (.ifCond .ne 8, 3) := by decide +kernel
theorem dc_Pa_makeLevels_80 : decode c_C_Pa_makeLevels 80 = .ok (.iload 4, 2) := by decide +kernel
theorem dc_Pa_makeLevels_82 : decode c_C_Pa_makeLevels 82 = .ok (.goto 4, 3) := by decide +kernel
theorem dc_Pa_makeLevels_85 : decode c_C_Pa_makeLevels 85 = .ok (.iconst 1, 1) := by decide +kernel
theorem dc_Pa_makeLevels_86 : decode c_C_Pa_makeLevels 86 = .ok (.invokevirtual 86, 3) := by decide +kernel
theorem dc_Pa_makeLevels_89 : decode c_C_Pa_makeLevels 89 = .ok (.iload 5, 2) := by decide +kernel
theorem dc_Pa_makeLevels_91 : decode c_C_Pa_makeLevels 91 = .ok (.invokestatic 89, 3) := by decide +kernel
theorem dc_Pa_makeLevels_94 : decode c_C_Pa_makeLevels 94 = .ok (.istore 6, 2) := by decide +kernel
theorem dc_Pa_makeLevels_96 : decode c_C_Pa_makeLevels 96 = .ok (.aload_n 0, 1) := by decide +kernel
theorem dc_Pa_makeLevels_97 : decode c_C_Pa_makeLevels 97 = .ok (.getfield 38, 3) := by decide +kernel
theorem dc_Pa_makeLevels_100 : decode c_C_Pa_makeLevels 100 = .ok (.iload 5, 2) := by decide +kernel
theorem dc_Pa_makeLevels_102 : decode c_C_Pa_makeLevels 102 = .ok (.iload 6, 2) := by decide +kernel
theorem dc_Pa_makeLevels_104 : decode c_C_Pa_makeLevels 104 = .ok (.iload 6, 2) := by decide +kernel
theorem dc_Pa_makeLevels_106 : decode c_C_Pa_makeLevels 106 = .ok (.invokevirtual 93, 3) := by decide +kernel
theorem dc_Pa_makeLevels_109 : decode c_C_Pa_makeLevels 109 = .ok (.iinc 5 1, 3) := by decide +kernel
theorem dc_Pa_makeLevels_112 : decode c_C_Pa_makeLevels 112 = .ok (.goto (-65), 3) := by decide +kernel
theorem dc_Pa_makeLevels_115 : decode c_C_Pa_makeLevels 115 = .ok (.aload_n 0, 1) := by decide +kernel
theorem dc_Pa_makeLevels_116 : decode c_C_Pa_makeLevels 116 = .ok (.getfield 31, 3) := by decide +kernel
theorem dc_Pa_makeLevels_119 : decode c_C_Pa_makeLevels 119 = .ok (.invokevirtual 96, 3) := by decide +kernel
theorem dc_Pa_makeLevels_122 : decode c_C_Pa_makeLevels 122 = .ok (.aload_n 0, 1) := by decide +kernel
theorem dc_Pa_makeLevels_123 : decode c_C_Pa_makeLevels 123 = .ok (.getfield 31, 3) := by decide +kernel
theorem dc_Pa_makeLevels_126 : decode c_C_Pa_makeLevels 126 = .ok (.iconst 1, 1) := by decide +kernel
theorem dc_Pa_makeLevels_127 : decode c_C_Pa_makeLevels 127 = .ok (.putfield 99, 3) := by decide +kernel
theorem dc_Pa_makeLevels_130 : decode c_C_Pa_makeLevels 130 = .ok (.aload_n 0, 1) := by decide +kernel
theorem dc_Pa_makeLevels_131 : decode c_C_Pa_makeLevels 131 = .ok (.getfield 38, 3) := by decide +kernel
theorem dc_Pa_makeLevels_134 : decode c_C_Pa_makeLevels 134 = .ok (.aload_n 0, 1) := by decide +kernel
theorem dc_Pa_makeLevels_135 : decode c_C_Pa_makeLevels 135 = .ok (.getfield 31, 3) := by decide +kernel
theorem dc_Pa_makeLevels_138 : decode c_C_Pa_makeLevels 138 = .ok (.invokevirtual 103, 3) := by decide +kernel
theorem dc_Pa_makeLevels_141 : decode c_C_Pa_makeLevels 141 = .ok (.iconst 0, 1) := by decide +kernel
theorem dc_Pa_makeLevels_142 : decode c_C_Pa_makeLevels 142 = .ok (.istore 5, 2) := by decide +kernel
theorem dc_Pa_makeLevels_144 : decode c_C_Pa_makeLevels 144 = .ok (.iload 5, 2) := by decide +kernel
theorem dc_Pa_makeLevels_146 : decode c_C_Pa_makeLevels 146 = .ok (.aload_n 0, 1) := by decide +kernel
theorem dc_Pa_makeLevels_147 : decode c_C_Pa_makeLevels 147 = .ok (.getfield 31, 3) := by decide +kernel
theorem dc_Pa_makeLevels_150 : decode c_C_Pa_makeLevels 150 = .ok (.getfield 85, 3) := by decide +kernel
theorem dc_Pa_makeLevels_153 : decode c_C_Pa_makeLevels 153 = .ok (.if_icmp .ge 16, 3) := by decide +kernel
theorem dc_Pa_makeLevels_156 : decode c_C_Pa_makeLevels 156 = .ok (.aload_n 0, 1) := by decide +kernel
theorem dc_Pa_makeLevels_157 : decode c_C_Pa_makeLevels 157 = .ok (.aload_n 1, 1) := by decide +kernel
theorem dc_Pa_makeLevels_158 : decode c_C_Pa_makeLevels 158 = .ok (.iload 5, 2) := by decide +kernel
theorem dc_Pa_makeLevels_160 : decode c_C_Pa_makeLevels 160 = .ok (.invokevirtual 107, 3) := by decide +kernel
theorem dc_Pa_makeLevels_163 : decode c_C_Pa_makeLevels 163 = .ok (.iinc 5 1, 3) := by decide +kernel
theorem dc_Pa_makeLevels_166 : decode c_C_Pa_makeLevels 166 = .ok (.goto (-22), 3) := by decide +kernel
theorem dc_Pa_makeLevels_169 : decode c_C_Pa_makeLevels 169 = .ok (.iconst 0, 1) := by decide +kernel
theorem dc_Pa_makeLevels_170 : decode c_C_Pa_makeLevels 170 = .ok (.istore 5, 2) := by decide +kernel
theorem dc_Pa_makeLevels_172 : decode c_C_Pa_makeLevels 172 = .ok (.iload 5, 2) := by decide +kernel
theorem dc_Pa_makeLevels_174 : decode c_C_Pa_makeLevels 174 = .ok (.aload_n 0, 1) := by decide +kernel
theorem dc_Pa_makeLevels_175 : decode c_C_Pa_makeLevels 175 = .ok (.getfield 38, 3) := by decide +kernel
theorem dc_Pa_makeLevels_178 : decode c_C_Pa_makeLevels 178 = .ok (.getfield 111, 3) := by decide +kernel
theorem dc_Pa_makeLevels_181 : decode c_C_Pa_makeLevels 181 = .ok (.if_icmp .ge 24, 3) := by decide +kernel
theorem dc_Pa_makeLevels_184 : decode c_C_Pa_makeLevels 184 = .ok (.aload_n 0, 1) := by decide +kernel
theorem dc_Pa_makeLevels_185 : decode c_C_Pa_makeLevels 185 = .ok (.aload_n 0, 1) := by decide +kernel
theorem dc_Pa_makeLevels_186 : decode c_C_Pa_makeLevels 186 = .ok (.getfield 38, 3) := by decide +kernel
theorem dc_Pa_makeLevels_189 : decode c_C_Pa_makeLevels 189 = .ok (.getfield 114, 3) := by decide +kernel
theorem dc_Pa_makeLevels_192 : decode c_C_Pa_makeLevels 192 = .ok (.iload 5, 2) := by decide +kernel
theorem dc_Pa_makeLevels_194 : decode c_C_Pa_makeLevels 194 = .ok (.iaload, 1) := by decide +kernel
theorem dc_Pa_makeLevels_195 : decode c_C_Pa_makeLevels 195 = .ok (.aload_n 2, 1) := by decide +kernel
theorem dc_Pa_makeLevels_196 : decode c_C_Pa_makeLevels 196 = .ok (.invokevirtual 117, 3) := by decide +kernel
theorem dc_Pa_makeLevels_199 : decode c_C_Pa_makeLevels 199 = .ok (.iinc 5 1, 3) := by decide +kernel
theorem dc_Pa_makeLevels_202 : decode c_C_Pa_makeLevels 202 = .ok (.goto (-30), 3) := by decide +kernel
theorem dc_Pa_makeLevels_205 : decode c_C_Pa_makeLevels 205 = .ok (.return_, 1) := by decide +kernel
theorem dc_Oc_begin_0 : decode c_C_Oc_begin 0 = .ok (.aload_n 0, 1) := by decide +kernel
theorem dc_Oc_begin_1 : decode c_C_Oc_begin 1 = .ok (.getfield 11, 3) := by decide +kernel
theorem dc_Oc_begin_4 : decode c_C_Oc_begin 4 = .ok (.iconst 0, 1) := by decide +kernel
theorem dc_Oc_begin_5 : decode c_C_Oc_begin 5 = .ok (.invokestatic 27, 3) := by decide +kernel
theorem dc_Oc_begin_8 : decode c_C_Oc_begin 8 = .ok (.aload_n 0, 1) := by decide +kernel
theorem dc_Oc_begin_9 : decode c_C_Oc_begin 9 = .ok (.getfield 15, 3) := by decide +kernel
theorem dc_Oc_begin_12 : decode c_C_Oc_begin 12 = .ok (.iconst 0, 1) := by decide +kernel
theorem dc_Oc_begin_13 : decode c_C_Oc_begin 13 = .ok (.invokestatic 27, 3) := by decide +kernel
theorem dc_Oc_begin_16 : decode c_C_Oc_begin 16 = .ok (.return_, 1) := by decide +kernel
theorem dc_Ro_add_0 : decode c_C_Ro_add 0 = .ok (.aload_n 0, 1) := by decide +kernel
theorem dc_Ro_add_1 : decode c_C_Ro_add 1 = .ok (.getfield 19, 3) := by decide +kernel
theorem dc_Ro_add_4 : decode c_C_Ro_add 4 = .ok (.aload_n 0, 1) := by decide +kernel
theorem dc_Ro_add_5 : decode c_C_Ro_add 5 = .ok (.getfield 13, 3) := by decide +kernel
theorem dc_Ro_add_8 : decode c_C_Ro_add 8 = .ok (.arraylength, 1) := by decide +kernel
theorem dc_Ro_add_9 : decode c_C_Ro_add 9 = .ok (.if_icmp .ge 27, 3) := by decide +kernel
theorem dc_Ro_add_12 : decode c_C_Ro_add 12 = .ok (.aload_n 0, 1) := by decide +kernel
theorem dc_Ro_add_13 : decode c_C_Ro_add 13 = .ok (.getfield 13, 3) := by decide +kernel
theorem dc_Ro_add_16 : decode c_C_Ro_add 16 = .ok (.aload_n 0, 1) := by decide +kernel
theorem dc_Ro_add_17 : decode c_C_Ro_add 17 = .ok (.getfield 19, 3) := by decide +kernel
theorem dc_Ro_add_20 : decode c_C_Ro_add 20 = .ok (.iload_n 1, 1) := by decide +kernel
theorem dc_Ro_add_21 : decode c_C_Ro_add 21 = .ok (.sipush 255, 3) := by decide +kernel
theorem dc_Ro_add_24 : decode c_C_Ro_add 24 = .ok (.iand, 1) := by decide +kernel
theorem dc_Ro_add_25 : decode c_C_Ro_add 25 = .ok (.iastore, 1) := by decide +kernel
theorem dc_Ro_add_26 : decode c_C_Ro_add 26 = .ok (.aload_n 0, 1) := by decide +kernel
theorem dc_Ro_add_27 : decode c_C_Ro_add 27 = .ok (.dup, 1) := by decide +kernel
theorem dc_Ro_add_28 : decode c_C_Ro_add 28 = .ok (.getfield 19, 3) := by decide +kernel
theorem dc_Ro_add_31 : decode c_C_Ro_add 31 = .ok (.iconst 1, 1) := by decide +kernel
theorem dc_Ro_add_32 : decode c_C_Ro_add 32 = .ok (.iadd, 1) := by decide +kernel
theorem dc_Ro_add_33 : decode c_C_Ro_add 33 = .ok (.putfield 19, 3) := by decide +kernel
theorem dc_Ro_add_36 : decode c_C_Ro_add 36 = .ok (.return_, 1) := by decide +kernel
theorem dc_Pa_writeBits_0 : decode c_C_Pa_writeBits 0 = .ok (.aload_n 0, 1) := by decide +kernel
theorem dc_Pa_writeBits_1 : decode c_C_Pa_writeBits 1 = .ok (.aload_n 0, 1) := by decide +kernel
theorem dc_Pa_writeBits_2 : decode c_C_Pa_writeBits 2 = .ok (.getfield 273, 3) := by decide +kernel
theorem dc_Pa_writeBits_5 : decode c_C_Pa_writeBits 5 = .ok (.iload_n 2, 1) := by decide +kernel
theorem dc_Pa_writeBits_6 : decode c_C_Pa_writeBits 6 = .ok (.ishl, 1) := by decide +kernel
theorem dc_Pa_writeBits_7 : decode c_C_Pa_writeBits 7 = .ok (.iload_n 1, 1) := by decide +kernel
theorem dc_Pa_writeBits_8 : decode c_C_Pa_writeBits 8 = .ok (.ior, 1) := by decide +kernel
theorem dc_Pa_writeBits_9 : decode c_C_Pa_writeBits 9 = .ok (.putfield 273, 3) := by decide +kernel
theorem dc_Pa_writeBits_12 : decode c_C_Pa_writeBits 12 = .ok (.aload_n 0, 1) := by decide +kernel
theorem dc_Pa_writeBits_13 : decode c_C_Pa_writeBits 13 = .ok (.dup, 1) := by decide +kernel
theorem dc_Pa_writeBits_14 : decode c_C_Pa_writeBits 14 = .ok (.getfield 276, 3) := by decide +kernel
theorem dc_Pa_writeBits_17 : decode c_C_Pa_writeBits 17 = .ok (.iload_n 2, 1) := by decide +kernel
theorem dc_Pa_writeBits_18 : decode c_C_Pa_writeBits 18 = .ok (.iadd, 1) := by decide +kernel
theorem dc_Pa_writeBits_19 : decode c_C_Pa_writeBits 19 = .ok (.putfield 276, 3) := by decide +kernel
theorem dc_Pa_writeBits_22 : decode c_C_Pa_writeBits 22 = .ok (.aload_n 0, 1) := by decide +kernel
theorem dc_Pa_writeBits_23 : decode c_C_Pa_writeBits 23 = .ok (.getfield 276, 3) := by decide +kernel
theorem dc_Pa_writeBits_26 : decode c_C_Pa_writeBits 26 = .ok (.bipush 8, 2) := by decide +kernel
theorem dc_Pa_writeBits_28 : decode c_C_Pa_writeBits 28 = .ok (.if_icmp .lt 54, 3) := by decide +kernel
theorem dc_Pa_writeBits_31 : decode c_C_Pa_writeBits 31 = .ok (.aload_n 0, 1) := by decide +kernel
theorem dc_Pa_writeBits_32 : decode c_C_Pa_writeBits 32 = .ok (.dup, 1) := by decide +kernel
theorem dc_Pa_writeBits_33 : decode c_C_Pa_writeBits 33 = .ok (.getfield 276, 3) := by decide +kernel
theorem dc_Pa_writeBits_36 : decode c_C_Pa_writeBits 36 = .ok (.bipush 8, 2) := by decide +kernel
theorem dc_Pa_writeBits_38 : decode c_C_Pa_writeBits 38 = .ok (.isub, 1) := by decide +kernel
theorem dc_Pa_writeBits_39 : decode c_C_Pa_writeBits 39 = .ok (.putfield 276, 3) := by decide +kernel
theorem dc_Pa_writeBits_42 : decode c_C_Pa_writeBits 42 = .ok (.aload_n 0, 1) := by decide +kernel
theorem dc_Pa_writeBits_43 : decode c_C_Pa_writeBits 43 = .ok (.getfield 273, 3) := by decide +kernel
theorem dc_Pa_writeBits_46 : decode c_C_Pa_writeBits 46 = .ok (.aload_n 0, 1) := by decide +kernel
theorem dc_Pa_writeBits_47 : decode c_C_Pa_writeBits 47 = .ok (.getfield 276, 3) := by decide +kernel
theorem dc_Pa_writeBits_50 : decode c_C_Pa_writeBits 50 = .ok (.ishr, 1) := by decide +kernel
theorem dc_Pa_writeBits_51 : decode c_C_Pa_writeBits 51 = .ok (.sipush 255, 3) := by decide +kernel
theorem dc_Pa_writeBits_54 : decode c_C_Pa_writeBits 54 = .ok (.iand, 1) := by decide +kernel
theorem dc_Pa_writeBits_55 : decode c_C_Pa_writeBits 55 = .ok (.istore_n 3, 1) := by decide +kernel
theorem dc_Pa_writeBits_56 : decode c_C_Pa_writeBits 56 = .ok (.aload_n 0, 1) := by decide +kernel
theorem dc_Pa_writeBits_57 : decode c_C_Pa_writeBits 57 = .ok (.getfield 15, 3) := by decide +kernel
theorem dc_Pa_writeBits_60 : decode c_C_Pa_writeBits 60 = .ok (.iload_n 3, 1) := by decide +kernel
theorem dc_Pa_writeBits_61 : decode c_C_Pa_writeBits 61 = .ok (.invokevirtual 214, 3) := by decide +kernel
theorem dc_Pa_writeBits_64 : decode c_C_Pa_writeBits 64 = .ok (.iload_n 3, 1) := by decide +kernel
theorem dc_Pa_writeBits_65 : decode c_C_Pa_writeBits 65 = .ok (.sipush 255, 3) := by decide +kernel
theorem dc_Pa_writeBits_68 : decode c_C_Pa_writeBits 68 = .ok (.if_icmp .ne 11, 3) := by decide +kernel
theorem dc_Pa_writeBits_71 : decode c_C_Pa_writeBits 71 = .ok (.aload_n 0, 1) := by decide +kernel
theorem dc_Pa_writeBits_72 : decode c_C_Pa_writeBits 72 = .ok (.getfield 15, 3) := by decide +kernel
theorem dc_Pa_writeBits_75 : decode c_C_Pa_writeBits 75 = .ok (.iconst 0, 1) := by decide +kernel
theorem dc_Pa_writeBits_76 : decode c_C_Pa_writeBits 76 = .ok (.invokevirtual 214, 3) := by decide +kernel
theorem dc_Pa_writeBits_79 : decode c_C_Pa_writeBits 79 = .ok (.goto (-57), 3) := by decide +kernel
theorem dc_Pa_writeBits_82 : decode c_C_Pa_writeBits 82 = .ok (.return_, 1) := by decide +kernel
theorem dc_Pa_fillByte_0 : decode c_C_Pa_fillByte 0 = .ok (.aload_n 0, 1) := by decide +kernel
theorem dc_Pa_fillByte_1 : decode c_C_Pa_fillByte 1 = .ok (.getfield 276, 3) := by decide +kernel
theorem dc_Pa_fillByte_4 : decode c_C_Pa_fillByte 4 = .ok (.ifCond .le 25, 3) := by decide +kernel
theorem dc_Pa_fillByte_7 : decode c_C_Pa_fillByte 7 = .ok (.aload_n 0, 1) := by decide +kernel
theorem dc_Pa_fillByte_8 : decode c_C_Pa_fillByte 8 = .ok (.iconst 1, 1) := by decide +kernel
theorem dc_Pa_fillByte_9 : decode c_C_Pa_fillByte 9 = .ok (.bipush 8, 2) := by decide +kernel
theorem dc_Pa_fillByte_11 : decode c_C_Pa_fillByte 11 = .ok (.aload_n 0, 1) := by decide +kernel
theorem dc_Pa_fillByte_12 : decode c_C_Pa_fillByte 12 = .ok (.getfield 276, 3) := by decide +kernel
theorem dc_Pa_fillByte_15 : decode c_C_Pa_fillByte 15 = .ok (.isub, 1) := by decide +kernel
theorem dc_Pa_fillByte_16 : decode c_C_Pa_fillByte 16 = .ok (.ishl, 1) := by decide +kernel
theorem dc_Pa_fillByte_17 : decode c_C_Pa_fillByte 17 = .ok (.iconst 1, 1) := by decide +kernel
theorem dc_Pa_fillByte_18 : decode c_C_Pa_fillByte 18 = .ok (.isub, 1) := by decide +kernel
theorem dc_Pa_fillByte_19 : decode c_C_Pa_fillByte 19 = .ok (.bipush 8, 2) := by decide +kernel
theorem dc_Pa_fillByte_21 : decode c_C_Pa_fillByte 21 = .ok (.aload_n 0, 1) := by decide +kernel
theorem dc_Pa_fillByte_22 : decode c_C_Pa_fillByte 22 = .ok (.getfield 276, 3) := by decide +kernel
theorem dc_Pa_fillByte_25 : decode c_C_Pa_fillByte 25 = .ok (.isub, 1) := by decide +kernel
theorem dc_Pa_fillByte_26 : decode c_C_Pa_fillByte 26 = .ok (.invokevirtual 269, 3) := by decide +kernel
theorem dc_Pa_fillByte_29 : decode c_C_Pa_fillByte 29 = .ok (.return_, 1) := by decide +kernel
theorem dc_Pa_addMark_0 : decode c_C_Pa_addMark 0 = .ok (.aload_n 0, 1) := by decide +kernel
theorem dc_Pa_addMark_1 : decode c_C_Pa_addMark 1 = .ok (.getfield 15, 3) := by decide +kernel
theorem dc_Pa_addMark_4 : decode c_C_Pa_addMark 4 = .ok (.sipush 255, 3) := by decide +kernel
theorem dc_Pa_addMark_7 : decode c_C_Pa_addMark 7 = .ok (.invokevirtual 214, 3) := by decide +kernel
theorem dc_Pa_addMark_10 : decode c_C_Pa_addMark 10 = .ok (.aload_n 0, 1) := by decide +kernel
theorem dc_Pa_addMark_11 : decode c_C_Pa_addMark 11 = .ok (.getfield 15, 3) := by decide +kernel
theorem dc_Pa_addMark_14 : decode c_C_Pa_addMark 14 = .ok (.iload_n 1, 1) := by decide +kernel
theorem dc_Pa_addMark_15 : decode c_C_Pa_addMark 15 = .ok (.invokevirtual 214, 3) := by decide +kernel
theorem dc_Pa_addMark_18 : decode c_C_Pa_addMark 18 = .ok (.return_, 1) := by decide +kernel
theorem dc_Pa_writeAgain_0 : decode c_C_Pa_writeAgain 0 = .ok (.aload_n 0, 1) := by decide +kernel
theorem dc_Pa_writeAgain_1 : decode c_C_Pa_writeAgain 1 = .ok (.invokevirtual 246, 3) := by decide +kernel
theorem dc_Pa_writeAgain_4 : decode c_C_Pa_writeAgain 4 = .ok (.aload_n 0, 1) := by decide +kernel
theorem dc_Pa_writeAgain_5 : decode c_C_Pa_writeAgain 5 = .ok (.getfield 179, 3) := by decide +kernel
theorem dc_Pa_writeAgain_8 : decode c_C_Pa_writeAgain 8 = .ok (.ifCond .ne 8, 3) := by decide +kernel
theorem dc_Pa_writeAgain_11 : decode c_C_Pa_writeAgain 11 = .ok (.aload_n 0, 1) := by decide +kernel
theorem dc_Pa_writeAgain_12 : decode c_C_Pa_writeAgain 12 = .ok (.iload_n 1, 1) := by decide +kernel
theorem dc_Pa_writeAgain_13 : decode c_C_Pa_writeAgain 13 = .ok (.invokevirtual 195, 3) := by decide +kernel
theorem dc_Pa_writeAgain_16 : decode c_C_Pa_writeAgain 16 = .ok (.aload_n 0, 1) := by decide +kernel
theorem dc_Pa_writeAgain_17 : decode c_C_Pa_writeAgain 17 = .ok (.getfield 59, 3) := by decide +kernel
theorem dc_Pa_writeAgain_20 : decode c_C_Pa_writeAgain 20 = .ok (.iconst 0, 1) := by decide +kernel
theorem dc_Pa_writeAgain_21 : decode c_C_Pa_writeAgain 21 = .ok (.invokestatic 228, 3) := by decide +kernel
theorem dc_Pa_writeAgain_24 : decode c_C_Pa_writeAgain 24 = .ok (.return_, 1) := by decide +kernel
theorem dc_Pa_bitsOf_0 : decode c_C_Pa_bitsOf 0 = .ok (.iconst 0, 1) := by decide +kernel
theorem dc_Pa_bitsOf_1 : decode c_C_Pa_bitsOf 1 = .ok (.istore_n 1, 1) := by decide +kernel
theorem dc_Pa_bitsOf_2 : decode c_C_Pa_bitsOf 2 = .ok (.iload_n 0, 1) := by decide +kernel
theorem dc_Pa_bitsOf_3 : decode c_C_Pa_bitsOf 3 = .ok (.invokestatic 171, 3) := by decide +kernel
theorem dc_Pa_bitsOf_6 : decode c_C_Pa_bitsOf 6 = .ok (.istore_n 2, 1) := by decide +kernel
theorem dc_Pa_bitsOf_7 : decode c_C_Pa_bitsOf 7 = .ok (.iload_n 2, 1) := by decide +kernel
theorem dc_Pa_bitsOf_8 : decode c_C_Pa_bitsOf 8 = .ok (.ifCond .le 13, 3) := by decide +kernel
theorem dc_Pa_bitsOf_11 : decode c_C_Pa_bitsOf 11 = .ok (.iinc 1 1, 3) := by decide +kernel
theorem dc_Pa_bitsOf_14 : decode c_C_Pa_bitsOf 14 = .ok (.iload_n 2, 1) := by decide +kernel
theorem dc_Pa_bitsOf_15 : decode c_C_Pa_bitsOf 15 = .ok (.iconst 2, 1) := by decide +kernel
theorem dc_Pa_bitsOf_16 : decode c_C_Pa_bitsOf 16 = .ok (.idiv, 1) := by decide +kernel
theorem dc_Pa_bitsOf_17 : decode c_C_Pa_bitsOf 17 = .ok (.istore_n 2, 1) := by decide +kernel
theorem dc_Pa_bitsOf_18 : decode c_C_Pa_bitsOf 18 = .ok (.goto (-11), 3) := by decide +kernel
theorem dc_Pa_bitsOf_21 : decode c_C_Pa_bitsOf 21 = .ok (.iload_n 1, 1) := by decide +kernel
theorem dc_Pa_bitsOf_22 : decode c_C_Pa_bitsOf 22 = .ok (.ireturn, 1) := by decide +kernel
theorem dc_Pa_writeSymbol_0 : decode c_C_Pa_writeSymbol 0 = .ok (.iload_n 2, 1) := by decide +kernel
theorem dc_Pa_writeSymbol_1 : decode c_C_Pa_writeSymbol 1 = .ok (.iconst 0, 1) := by decide +kernel
theorem dc_Pa_writeSymbol_2 : decode c_C_Pa_writeSymbol 2 = .ok (.sipush 255, 3) := by decide +kernel
theorem dc_Pa_writeSymbol_5 : decode c_C_Pa_writeSymbol 5 = .ok (.invokestatic 256, 3) := by decide +kernel
theorem dc_Pa_writeSymbol_8 : decode c_C_Pa_writeSymbol 8 = .ok (.ifCond .ne 4, 3) := by decide +kernel
theorem dc_Pa_writeSymbol_11 : decode c_C_Pa_writeSymbol 11 = .ok (.return_, 1) := by decide +kernel
theorem dc_Pa_writeSymbol_12 : decode c_C_Pa_writeSymbol 12 = .ok (.aload_n 0, 1) := by decide +kernel
theorem dc_Pa_writeSymbol_13 : decode c_C_Pa_writeSymbol 13 = .ok (.getfield 179, 3) := by decide +kernel
theorem dc_Pa_writeSymbol_16 : decode c_C_Pa_writeSymbol 16 = .ok (.ifCond .eq 14, 3) := by decide +kernel
theorem dc_Pa_writeSymbol_19 : decode c_C_Pa_writeSymbol 19 = .ok (.aload_n 1, 1) := by decide +kernel
theorem dc_Pa_writeSymbol_20 : decode c_C_Pa_writeSymbol 20 = .ok (.getfield 260, 3) := by decide +kernel
theorem dc_Pa_writeSymbol_23 : decode c_C_Pa_writeSymbol 23 = .ok (.iload_n 2, 1) := by decide +kernel
theorem dc_Pa_writeSymbol_24 : decode c_C_Pa_writeSymbol 24 = .ok (.dup2, 1) := by decide +kernel
theorem dc_Pa_writeSymbol_25 : decode c_C_Pa_writeSymbol 25 = .ok (.iaload, 1) := by decide +kernel
theorem dc_Pa_writeSymbol_26 : decode c_C_Pa_writeSymbol 26 = .ok (.iconst 1, 1) := by decide +kernel
theorem dc_Pa_writeSymbol_27 : decode c_C_Pa_writeSymbol 27 = .ok (.iadd, 1) := by decide +kernel
theorem dc_Pa_writeSymbol_28 : decode c_C_Pa_writeSymbol 28 = .ok (.iastore, 1) := by decide +kernel
theorem dc_Pa_writeSymbol_29 : decode c_C_Pa_writeSymbol 29 = .ok (.return_, 1) := by decide +kernel
theorem dc_Pa_writeSymbol_30 : decode c_C_Pa_writeSymbol 30 = .ok (.iload_n 2, 1) := by decide +kernel
theorem dc_Pa_writeSymbol_31 : decode c_C_Pa_writeSymbol 31 = .ok (.bipush 16, 2) := by decide +kernel
theorem dc_Pa_writeSymbol_33 : decode c_C_Pa_writeSymbol 33 = .ok (.irem, 1) := by decide +kernel
theorem dc_Pa_writeSymbol_34 : decode c_C_Pa_writeSymbol 34 = .ok (.istore 4, 2) := by decide +kernel
theorem dc_Pa_writeSymbol_36 : decode c_C_Pa_writeSymbol 36 = .ok (.aload_n 0, 1) := by decide +kernel
theorem dc_Pa_writeSymbol_37 : decode c_C_Pa_writeSymbol 37 = .ok (.aload_n 1, 1) := by decide +kernel
theorem dc_Pa_writeSymbol_38 : decode c_C_Pa_writeSymbol 38 = .ok (.getfield 263, 3) := by decide +kernel
theorem dc_Pa_writeSymbol_41 : decode c_C_Pa_writeSymbol 41 = .ok (.iload_n 2, 1) := by decide +kernel
theorem dc_Pa_writeSymbol_42 : decode c_C_Pa_writeSymbol 42 = .ok (.iaload, 1) := by decide +kernel
theorem dc_Pa_writeSymbol_43 : decode c_C_Pa_writeSymbol 43 = .ok (.aload_n 1, 1) := by decide +kernel
theorem dc_Pa_writeSymbol_44 : decode c_C_Pa_writeSymbol 44 = .ok (.getfield 266, 3) := by decide +kernel
theorem dc_Pa_writeSymbol_47 : decode c_C_Pa_writeSymbol 47 = .ok (.iload_n 2, 1) := by decide +kernel
theorem dc_Pa_writeSymbol_48 : decode c_C_Pa_writeSymbol 48 = .ok (.iaload, 1) := by decide +kernel
theorem dc_Pa_writeSymbol_49 : decode c_C_Pa_writeSymbol 49 = .ok (.invokevirtual 269, 3) := by decide +kernel
theorem dc_Pa_writeSymbol_52 : decode c_C_Pa_writeSymbol 52 = .ok (.aload_n 0, 1) := by decide +kernel
theorem dc_Pa_writeSymbol_53 : decode c_C_Pa_writeSymbol 53 = .ok (.iload_n 3, 1) := by decide +kernel
theorem dc_Pa_writeSymbol_54 : decode c_C_Pa_writeSymbol 54 = .ok (.ifCond .ge 14, 3) := by decide +kernel
theorem dc_Pa_writeSymbol_57 : decode c_C_Pa_writeSymbol 57 = .ok (.iload_n 3, 1) := by decide +kernel
theorem dc_Pa_writeSymbol_58 : decode c_C_Pa_writeSymbol 58 = .ok (.iconst 1, 1) := by decide +kernel
theorem dc_Pa_writeSymbol_59 : decode c_C_Pa_writeSymbol 59 = .ok (.iload 4, 2) := by decide +kernel
theorem dc_Pa_writeSymbol_61 : decode c_C_Pa_writeSymbol 61 = .ok (.ishl, 1) := by decide +kernel
theorem dc_Pa_writeSymbol_62 : decode c_C_Pa_writeSymbol 62 = .ok (.iadd, 1) := by decide +kernel
theorem dc_Pa_writeSymbol_63 : decode c_C_Pa_writeSymbol 63 = .ok (.iconst 1, 1) := by decide +kernel
theorem dc_Pa_writeSymbol_64 : decode c_C_Pa_writeSymbol 64 = .ok (.isub, 1) := by decide +kernel
theorem dc_Pa_writeSymbol_65 : decode c_C_Pa_writeSymbol 65 = .ok (.goto 4, 3) := by decide +kernel
theorem dc_Pa_writeSymbol_68 : decode c_C_Pa_writeSymbol 68 = .ok (.iload_n 3, 1) := by decide +kernel
theorem dc_Pa_writeSymbol_69 : decode c_C_Pa_writeSymbol 69 = .ok (.iload 4, 2) := by decide +kernel
theorem dc_Pa_writeSymbol_71 : decode c_C_Pa_writeSymbol 71 = .ok (.invokevirtual 269, 3) := by decide +kernel
theorem dc_Pa_writeSymbol_74 : decode c_C_Pa_writeSymbol 74 = .ok (.return_, 1) := by decide +kernel
theorem dc_Pa_writeBlock_0 : decode c_C_Pa_writeBlock 0 = .ok (.iload_n 1, 1) := by decide +kernel
theorem dc_Pa_writeBlock_1 : decode c_C_Pa_writeBlock 1 = .ok (.bipush 64, 2) := by decide +kernel
theorem dc_Pa_writeBlock_3 : decode c_C_Pa_writeBlock 3 = .ok (.idiv, 1) := by decide +kernel
theorem dc_Pa_writeBlock_4 : decode c_C_Pa_writeBlock 4 = .ok (.istore_n 2, 1) := by decide +kernel
theorem dc_Pa_writeBlock_5 : decode c_C_Pa_writeBlock 5 = .ok (.bipush 64, 2) := by decide +kernel
theorem dc_Pa_writeBlock_7 : decode c_C_Pa_writeBlock 7 = .ok (.iload_n 1, 1) := by decide +kernel
theorem dc_Pa_writeBlock_8 : decode c_C_Pa_writeBlock 8 = .ok (.imul, 1) := by decide +kernel
theorem dc_Pa_writeBlock_9 : decode c_C_Pa_writeBlock 9 = .ok (.istore_n 3, 1) := by decide +kernel
theorem dc_Pa_writeBlock_10 : decode c_C_Pa_writeBlock 10 = .ok (.aload_n 0, 1) := by decide +kernel
theorem dc_Pa_writeBlock_11 : decode c_C_Pa_writeBlock 11 = .ok (.getfield 31, 3) := by decide +kernel
theorem dc_Pa_writeBlock_14 : decode c_C_Pa_writeBlock 14 = .ok (.getfield 174, 3) := by decide +kernel
theorem dc_Pa_writeBlock_17 : decode c_C_Pa_writeBlock 17 = .ok (.iload_n 3, 1) := by decide +kernel
theorem dc_Pa_writeBlock_18 : decode c_C_Pa_writeBlock 18 = .ok (.iaload, 1) := by decide +kernel
theorem dc_Pa_writeBlock_19 : decode c_C_Pa_writeBlock 19 = .ok (.aload_n 0, 1) := by decide +kernel
theorem dc_Pa_writeBlock_20 : decode c_C_Pa_writeBlock 20 = .ok (.getfield 59, 3) := by decide +kernel
theorem dc_Pa_writeBlock_23 : decode c_C_Pa_writeBlock 23 = .ok (.iload_n 2, 1) := by decide +kernel
theorem dc_Pa_writeBlock_24 : decode c_C_Pa_writeBlock 24 = .ok (.iaload, 1) := by decide +kernel
theorem dc_Pa_writeBlock_25 : decode c_C_Pa_writeBlock 25 = .ok (.isub, 1) := by decide +kernel
theorem dc_Pa_writeBlock_26 : decode c_C_Pa_writeBlock 26 = .ok (.istore 4, 2) := by decide +kernel
theorem dc_Pa_writeBlock_28 : decode c_C_Pa_writeBlock 28 = .ok (.aload_n 0, 1) := by decide +kernel
theorem dc_Pa_writeBlock_29 : decode c_C_Pa_writeBlock 29 = .ok (.getfield 59, 3) := by decide +kernel
theorem dc_Pa_writeBlock_32 : decode c_C_Pa_writeBlock 32 = .ok (.iload_n 2, 1) := by decide +kernel
theorem dc_Pa_writeBlock_33 : decode c_C_Pa_writeBlock 33 = .ok (.aload_n 0, 1) := by decide +kernel
theorem dc_Pa_writeBlock_34 : decode c_C_Pa_writeBlock 34 = .ok (.getfield 31, 3) := by decide +kernel
theorem dc_Pa_writeBlock_37 : decode c_C_Pa_writeBlock 37 = .ok (.getfield 174, 3) := by decide +kernel
theorem dc_Pa_writeBlock_40 : decode c_C_Pa_writeBlock 40 = .ok (.iload_n 3, 1) := by decide +kernel
theorem dc_Pa_writeBlock_41 : decode c_C_Pa_writeBlock 41 = .ok (.iaload, 1) := by decide +kernel
theorem dc_Pa_writeBlock_42 : decode c_C_Pa_writeBlock 42 = .ok (.iastore, 1) := by decide +kernel
theorem dc_Pa_writeBlock_43 : decode c_C_Pa_writeBlock 43 = .ok (.aload_n 0, 1) := by decide +kernel
theorem dc_Pa_writeBlock_44 : decode c_C_Pa_writeBlock 44 = .ok (.aload_n 0, 1) := by decide +kernel
theorem dc_Pa_writeBlock_45 : decode c_C_Pa_writeBlock 45 = .ok (.getfield 52, 3) := by decide +kernel
theorem dc_Pa_writeBlock_48 : decode c_C_Pa_writeBlock 48 = .ok (.iload_n 2, 1) := by decide +kernel
theorem dc_Pa_writeBlock_49 : decode c_C_Pa_writeBlock 49 = .ok (.invokestatic 89, 3) := by decide +kernel
theorem dc_Pa_writeBlock_52 : decode c_C_Pa_writeBlock 52 = .ok (.aaload, 1) := by decide +kernel
theorem dc_Pa_writeBlock_53 : decode c_C_Pa_writeBlock 53 = .ok (.iload 4, 2) := by decide +kernel
theorem dc_Pa_writeBlock_55 : decode c_C_Pa_writeBlock 55 = .ok (.invokestatic 249, 3) := by decide +kernel
theorem dc_Pa_writeBlock_58 : decode c_C_Pa_writeBlock 58 = .ok (.iload 4, 2) := by decide +kernel
theorem dc_Pa_writeBlock_60 : decode c_C_Pa_writeBlock 60 = .ok (.invokevirtual 252, 3) := by decide +kernel
theorem dc_Pa_writeBlock_63 : decode c_C_Pa_writeBlock 63 = .ok (.aload_n 0, 1) := by decide +kernel
theorem dc_Pa_writeBlock_64 : decode c_C_Pa_writeBlock 64 = .ok (.getfield 56, 3) := by decide +kernel
theorem dc_Pa_writeBlock_67 : decode c_C_Pa_writeBlock 67 = .ok (.iload_n 2, 1) := by decide +kernel
theorem dc_Pa_writeBlock_68 : decode c_C_Pa_writeBlock 68 = .ok (.invokestatic 89, 3) := by decide +kernel
theorem dc_Pa_writeBlock_71 : decode c_C_Pa_writeBlock 71 = .ok (.aaload, 1) := by decide +kernel
theorem dc_Pa_writeBlock_72 : decode c_C_Pa_writeBlock 72 = .ok (.astore 5, 2) := by decide +kernel
theorem dc_Pa_writeBlock_74 : decode c_C_Pa_writeBlock 74 = .ok (.iconst 0, 1) := by decide +kernel
theorem dc_Pa_writeBlock_75 : decode c_C_Pa_writeBlock 75 = .ok (.istore 6, 2) := by decide +kernel
theorem dc_Pa_writeBlock_77 : decode c_C_Pa_writeBlock 77 = .ok (.iconst 1, 1) := by decide +kernel
theorem dc_Pa_writeBlock_78 : decode c_C_Pa_writeBlock 78 = .ok (.istore 7, 2) := by decide +kernel
theorem dc_Pa_writeBlock_80 : decode c_C_Pa_writeBlock 80 = .ok (.iload 7, 2) := by decide +kernel
theorem dc_Pa_writeBlock_82 : decode c_C_Pa_writeBlock 82 = .ok (.bipush 64, 2) := by decide +kernel
theorem dc_Pa_writeBlock_84 : decode c_C_Pa_writeBlock 84 = .ok (.if_icmp .ge 79, 3) := by decide +kernel
theorem dc_Pa_writeBlock_87 : decode c_C_Pa_writeBlock 87 = .ok (.aload_n 0, 1) := by decide +kernel
theorem dc_Pa_writeBlock_88 : decode c_C_Pa_writeBlock 88 = .ok (.getfield 31, 3) := by decide +kernel
theorem dc_Pa_writeBlock_91 : decode c_C_Pa_writeBlock 91 = .ok (.getfield 174, 3) := by decide +kernel
theorem dc_Pa_writeBlock_94 : decode c_C_Pa_writeBlock 94 = .ok (.iload_n 3, 1) := by decide +kernel
theorem dc_Pa_writeBlock_95 : decode c_C_Pa_writeBlock 95 = .ok (.iload 7, 2) := by decide +kernel
theorem dc_Pa_writeBlock_97 : decode c_C_Pa_writeBlock 97 = .ok (.iadd, 1) := by decide +kernel
theorem dc_Pa_writeBlock_98 : decode c_C_Pa_writeBlock 98 = .ok (.iaload, 1) := by decide +kernel
theorem dc_Pa_writeBlock_99 : decode c_C_Pa_writeBlock 99 = .ok (.istore 8, 2) := by decide +kernel
theorem dc_Pa_writeBlock_101 : decode c_C_Pa_writeBlock 101 = .ok (.iload 8, 2) := by decide +kernel
theorem dc_Pa_writeBlock_103 : decode c_C_Pa_writeBlock 103 = .ok (.ifCond .ne 9, 3) := by decide +kernel
theorem dc_Pa_writeBlock_106 : decode c_C_Pa_writeBlock 106 = .ok (.iinc 6 1, 3) := by decide +kernel
theorem dc_Pa_writeBlock_109 : decode c_C_Pa_writeBlock 109 = .ok (.goto 48, 3) := by decide +kernel
theorem dc_Pa_writeBlock_112 : decode c_C_Pa_writeBlock 112 = .ok (.iload 6, 2) := by decide +kernel
theorem dc_Pa_writeBlock_114 : decode c_C_Pa_writeBlock 114 = .ok (.bipush 16, 2) := by decide +kernel
theorem dc_Pa_writeBlock_116 : decode c_C_Pa_writeBlock 116 = .ok (.if_icmp .lt 19, 3) := by decide +kernel
theorem dc_Pa_writeBlock_119 : decode c_C_Pa_writeBlock 119 = .ok (.aload_n 0, 1) := by decide +kernel
theorem dc_Pa_writeBlock_120 : decode c_C_Pa_writeBlock 120 = .ok (.aload 5, 2) := by decide +kernel
theorem dc_Pa_writeBlock_122 : decode c_C_Pa_writeBlock 122 = .ok (.sipush 240, 3) := by decide +kernel
theorem dc_Pa_writeBlock_125 : decode c_C_Pa_writeBlock 125 = .ok (.iconst 0, 1) := by decide +kernel
theorem dc_Pa_writeBlock_126 : decode c_C_Pa_writeBlock 126 = .ok (.invokevirtual 252, 3) := by decide +kernel
theorem dc_Pa_writeBlock_129 : decode c_C_Pa_writeBlock 129 = .ok (.iinc 6 (-16), 3) := by decide +kernel
theorem dc_Pa_writeBlock_132 : decode c_C_Pa_writeBlock 132 = .ok (.goto (-20), 3) := by decide +kernel
theorem dc_Pa_writeBlock_135 : decode c_C_Pa_writeBlock 135 = .ok (.aload_n 0, 1) := by decide +kernel
theorem dc_Pa_writeBlock_136 : decode c_C_Pa_writeBlock 136 = .ok (.aload 5, 2) := by decide +kernel
theorem dc_Pa_writeBlock_138 : decode c_C_Pa_writeBlock 138 = .ok (.bipush 16, 2) := by decide +kernel
theorem dc_Pa_writeBlock_140 : decode c_C_Pa_writeBlock 140 = .ok (.iload 6, 2) := by decide +kernel
theorem dc_Pa_writeBlock_142 : decode c_C_Pa_writeBlock 142 = .ok (.imul, 1) := by decide +kernel
theorem dc_Pa_writeBlock_143 : decode c_C_Pa_writeBlock 143 = .ok (.iload 8, 2) := by decide +kernel
theorem dc_Pa_writeBlock_145 : decode c_C_Pa_writeBlock 145 = .ok (.invokestatic 249, 3) := by decide +kernel
theorem dc_Pa_writeBlock_148 : decode c_C_Pa_writeBlock 148 = .ok (.iadd, 1) := by decide +kernel
theorem dc_Pa_writeBlock_149 : decode c_C_Pa_writeBlock 149 = .ok (.iload 8, 2) := by decide +kernel
theorem dc_Pa_writeBlock_151 : decode c_C_Pa_writeBlock 151 = .ok (.invokevirtual 252, 3) := by decide +kernel
theorem dc_Pa_writeBlock_154 : decode c_C_Pa_writeBlock 154 = .ok (.iconst 0, 1) := by decide +kernel
theorem dc_Pa_writeBlock_155 : decode c_C_Pa_writeBlock 155 = .ok (.istore 6, 2) := by decide +kernel
theorem dc_Pa_writeBlock_157 : decode c_C_Pa_writeBlock 157 = .ok (.iinc 7 1, 3) := by decide +kernel
theorem dc_Pa_writeBlock_160 : decode c_C_Pa_writeBlock 160 = .ok (.goto (-80), 3) := by decide +kernel
theorem dc_Pa_writeBlock_163 : decode c_C_Pa_writeBlock 163 = .ok (.iload 6, 2) := by decide +kernel
theorem dc_Pa_writeBlock_165 : decode c_C_Pa_writeBlock 165 = .ok (.ifCond .le 11, 3) := by decide +kernel
theorem dc_Pa_writeBlock_168 : decode c_C_Pa_writeBlock 168 = .ok (.aload_n 0, 1) := by decide +kernel
theorem dc_Pa_writeBlock_169 : decode c_C_Pa_writeBlock 169 = .ok (.aload 5, 2) := by decide +kernel
theorem dc_Pa_writeBlock_171 : decode c_C_Pa_writeBlock 171 = .ok (.iconst 0, 1) := by decide +kernel
theorem dc_Pa_writeBlock_172 : decode c_C_Pa_writeBlock 172 = .ok (.iconst 0, 1) := by decide +kernel
theorem dc_Pa_writeBlock_173 : decode c_C_Pa_writeBlock 173 = .ok (.invokevirtual 252, 3) := by decide +kernel
theorem dc_Pa_writeBlock_176 : decode c_C_Pa_writeBlock 176 = .ok (.return_, 1) := by decide +kernel
theorem dc_Pa_writeData_0 : decode c_C_Pa_writeData 0 = .ok (.aload_n 0, 1) := by decide +kernel
theorem dc_Pa_writeData_1 : decode c_C_Pa_writeData 1 = .ok (.getfield 59, 3) := by decide +kernel
theorem dc_Pa_writeData_4 : decode c_C_Pa_writeData 4 = .ok (.iconst 0, 1) := by decide +kernel
theorem dc_Pa_writeData_5 : decode c_C_Pa_writeData 5 = .ok (.invokestatic 228, 3) := by decide +kernel
theorem dc_Pa_writeData_8 : decode c_C_Pa_writeData 8 = .ok (.iconst 0, 1) := by decide +kernel
theorem dc_Pa_writeData_9 : decode c_C_Pa_writeData 9 = .ok (.istore_n 2, 1) := by decide +kernel
theorem dc_Pa_writeData_10 : decode c_C_Pa_writeData 10 = .ok (.iconst 0, 1) := by decide +kernel
theorem dc_Pa_writeData_11 : decode c_C_Pa_writeData 11 = .ok (.istore_n 3, 1) := by decide +kernel
theorem dc_Pa_writeData_12 : decode c_C_Pa_writeData 12 = .ok (.iload_n 3, 1) := by decide +kernel
theorem dc_Pa_writeData_13 : decode c_C_Pa_writeData 13 = .ok (.aload_n 0, 1) := by decide +kernel
theorem dc_Pa_writeData_14 : decode c_C_Pa_writeData 14 = .ok (.getfield 38, 3) := by decide +kernel
theorem dc_Pa_writeData_17 : decode c_C_Pa_writeData 17 = .ok (.getfield 234, 3) := by decide +kernel
theorem dc_Pa_writeData_20 : decode c_C_Pa_writeData 20 = .ok (.if_icmp .ge 83, 3) := by decide +kernel
theorem dc_Pa_writeData_23 : decode c_C_Pa_writeData 23 = .ok (.iload_n 1, 1) := by decide +kernel
theorem dc_Pa_writeData_24 : decode c_C_Pa_writeData 24 = .ok (.ifCond .le 28, 3) := by decide +kernel
theorem dc_Pa_writeData_27 : decode c_C_Pa_writeData 27 = .ok (.iload_n 3, 1) := by decide +kernel
theorem dc_Pa_writeData_28 : decode c_C_Pa_writeData 28 = .ok (.ifCond .le 24, 3) := by decide +kernel
theorem dc_Pa_writeData_31 : decode c_C_Pa_writeData 31 = .ok (.iload_n 3, 1) := by decide +kernel
theorem dc_Pa_writeData_32 : decode c_C_Pa_writeData 32 = .ok (.iload_n 1, 1) := by decide +kernel
theorem dc_Pa_writeData_33 : decode c_C_Pa_writeData 33 = .ok (.irem, 1) := by decide +kernel
theorem dc_Pa_writeData_34 : decode c_C_Pa_writeData 34 = .ok (.ifCond .ne 18, 3) := by decide +kernel
theorem dc_Pa_writeData_37 : decode c_C_Pa_writeData 37 = .ok (.aload_n 0, 1) := by decide +kernel
theorem dc_Pa_writeData_38 : decode c_C_Pa_writeData 38 = .ok (.sipush 208, 3) := by decide +kernel
theorem dc_Pa_writeData_41 : decode c_C_Pa_writeData 41 = .ok (.iload_n 2, 1) := by decide +kernel
theorem dc_Pa_writeData_42 : decode c_C_Pa_writeData 42 = .ok (.bipush 8, 2) := by decide +kernel
theorem dc_Pa_writeData_44 : decode c_C_Pa_writeData 44 = .ok (.irem, 1) := by decide +kernel
theorem dc_Pa_writeData_45 : decode c_C_Pa_writeData 45 = .ok (.iadd, 1) := by decide +kernel
theorem dc_Pa_writeData_46 : decode c_C_Pa_writeData 46 = .ok (.invokevirtual 237, 3) := by decide +kernel
theorem dc_Pa_writeData_49 : decode c_C_Pa_writeData 49 = .ok (.iinc 2 1, 3) := by decide +kernel
theorem dc_Pa_writeData_52 : decode c_C_Pa_writeData 52 = .ok (.iconst 0, 1) := by decide +kernel
theorem dc_Pa_writeData_53 : decode c_C_Pa_writeData 53 = .ok (.istore 4, 2) := by decide +kernel
theorem dc_Pa_writeData_55 : decode c_C_Pa_writeData 55 = .ok (.iload 4, 2) := by decide +kernel
theorem dc_Pa_writeData_57 : decode c_C_Pa_writeData 57 = .ok (.aload_n 0, 1) := by decide +kernel
theorem dc_Pa_writeData_58 : decode c_C_Pa_writeData 58 = .ok (.getfield 38, 3) := by decide +kernel
theorem dc_Pa_writeData_61 : decode c_C_Pa_writeData 61 = .ok (.getfield 240, 3) := by decide +kernel
theorem dc_Pa_writeData_64 : decode c_C_Pa_writeData 64 = .ok (.if_icmp .ge 33, 3) := by decide +kernel
theorem dc_Pa_writeData_67 : decode c_C_Pa_writeData 67 = .ok (.aload_n 0, 1) := by decide +kernel
theorem dc_Pa_writeData_68 : decode c_C_Pa_writeData 68 = .ok (.aload_n 0, 1) := by decide +kernel
theorem dc_Pa_writeData_69 : decode c_C_Pa_writeData 69 = .ok (.getfield 38, 3) := by decide +kernel
theorem dc_Pa_writeData_72 : decode c_C_Pa_writeData 72 = .ok (.getfield 114, 3) := by decide +kernel
theorem dc_Pa_writeData_75 : decode c_C_Pa_writeData 75 = .ok (.aload_n 0, 1) := by decide +kernel
theorem dc_Pa_writeData_76 : decode c_C_Pa_writeData 76 = .ok (.getfield 38, 3) := by decide +kernel
theorem dc_Pa_writeData_79 : decode c_C_Pa_writeData 79 = .ok (.getfield 240, 3) := by decide +kernel
theorem dc_Pa_writeData_82 : decode c_C_Pa_writeData 82 = .ok (.iload_n 3, 1) := by decide +kernel
theorem dc_Pa_writeData_83 : decode c_C_Pa_writeData 83 = .ok (.imul, 1) := by decide +kernel
theorem dc_Pa_writeData_84 : decode c_C_Pa_writeData 84 = .ok (.iload 4, 2) := by decide +kernel
theorem dc_Pa_writeData_86 : decode c_C_Pa_writeData 86 = .ok (.iadd, 1) := by decide +kernel
theorem dc_Pa_writeData_87 : decode c_C_Pa_writeData 87 = .ok (.iaload, 1) := by decide +kernel
theorem dc_Pa_writeData_88 : decode c_C_Pa_writeData 88 = .ok (.invokevirtual 243, 3) := by decide +kernel
theorem dc_Pa_writeData_91 : decode c_C_Pa_writeData 91 = .ok (.iinc 4 1, 3) := by decide +kernel
theorem dc_Pa_writeData_94 : decode c_C_Pa_writeData 94 = .ok (.goto (-39), 3) := by decide +kernel
theorem dc_Pa_writeData_97 : decode c_C_Pa_writeData 97 = .ok (.iinc 3 1, 3) := by decide +kernel
theorem dc_Pa_writeData_100 : decode c_C_Pa_writeData 100 = .ok (.goto (-88), 3) := by decide +kernel
theorem dc_Pa_writeData_103 : decode c_C_Pa_writeData 103 = .ok (.aload_n 0, 1) := by decide +kernel
theorem dc_Pa_writeData_104 : decode c_C_Pa_writeData 104 = .ok (.invokevirtual 246, 3) := by decide +kernel
theorem dc_Pa_writeData_107 : decode c_C_Pa_writeData 107 = .ok (.return_, 1) := by decide +kernel
theorem dc_Li_sortSymbols_0 : decode c_C_Li_sortSymbols 0 = .ok (.aload_n 0, 1) := by decide +kernel
theorem dc_Li_sortSymbols_1 : decode c_C_Li_sortSymbols 1 = .ok (.iconst 0, 1) := by decide +kernel
theorem dc_Li_sortSymbols_2 : decode c_C_Li_sortSymbols 2 = .ok (.putfield 34, 3) := by decide +kernel
theorem dc_Li_sortSymbols_5 : decode c_C_Li_sortSymbols 5 = .ok (.iconst 0, 1) := by decide +kernel
theorem dc_Li_sortSymbols_6 : decode c_C_Li_sortSymbols 6 = .ok (.istore_n 2, 1) := by decide +kernel
theorem dc_Li_sortSymbols_7 : decode c_C_Li_sortSymbols 7 = .ok (.iload_n 2, 1) := by decide +kernel
theorem dc_Li_sortSymbols_8 : decode c_C_Li_sortSymbols 8 = .ok (.sipush 257, 3) := by decide +kernel
theorem dc_Li_sortSymbols_11 : decode c_C_Li_sortSymbols 11 = .ok (.if_icmp .ge 84, 3) := by decide +kernel
theorem dc_Li_sortSymbols_14 : decode c_C_Li_sortSymbols 14 = .ok (.aload_n 1, 1) := by decide +kernel
theorem dc_Li_sortSymbols_15 : decode c_C_Li_sortSymbols 15 = .ok (.iload_n 2, 1) := by decide +kernel
theorem dc_Li_sortSymbols_16 : decode c_C_Li_sortSymbols 16 = .ok (.iaload, 1) := by decide +kernel
theorem dc_Li_sortSymbols_17 : decode c_C_Li_sortSymbols 17 = .ok (.ifCond .gt 10, 3) := by decide +kernel
theorem dc_Li_sortSymbols_20 : decode c_C_Li_sortSymbols 20 = .ok (.iload_n 2, 1) := by decide +kernel
theorem dc_Li_sortSymbols_21 : decode c_C_Li_sortSymbols 21 = .ok (.sipush 256, 3) := by decide +kernel
theorem dc_Li_sortSymbols_24 : decode c_C_Li_sortSymbols 24 = .ok (.if_icmp .ne 65, 3) := by decide +kernel
theorem dc_Li_sortSymbols_27 : decode c_C_Li_sortSymbols 27 = .ok (.aload_n 0, 1) := by decide +kernel
theorem dc_Li_sortSymbols_28 : decode c_C_Li_sortSymbols 28 = .ok (.getfield 34, 3) := by decide +kernel
theorem dc_Li_sortSymbols_31 : decode c_C_Li_sortSymbols 31 = .ok (.istore_n 3, 1) := by decide +kernel
theorem dc_Li_sortSymbols_32 : decode c_C_Li_sortSymbols 32 = .ok (.iload_n 3, 1) := by decide +kernel
theorem dc_Li_sortSymbols_33 : decode c_C_Li_sortSymbols 33 = .ok (.ifCond .le 39, 3) := by decide +kernel
theorem dc_Li_sortSymbols_36 : decode c_C_Li_sortSymbols 36 = .ok (.aload_n 1, 1) := by decide +kernel
theorem dc_Li_sortSymbols_37 : decode c_C_Li_sortSymbols 37 = .ok (.aload_n 0, 1) := by decide +kernel
theorem dc_Li_sortSymbols_38 : decode c_C_Li_sortSymbols 38 = .ok (.getfield 13, 3) := by decide +kernel
theorem dc_Li_sortSymbols_41 : decode c_C_Li_sortSymbols 41 = .ok (.iload_n 3, 1) := by decide +kernel
theorem dc_Li_sortSymbols_42 : decode c_C_Li_sortSymbols 42 = .ok (.iconst 1, 1) := by decide +kernel
theorem dc_Li_sortSymbols_43 : decode c_C_Li_sortSymbols 43 = .ok (.isub, 1) := by decide +kernel
theorem dc_Li_sortSymbols_44 : decode c_C_Li_sortSymbols 44 = .ok (.iaload, 1) := by decide +kernel
theorem dc_Li_sortSymbols_45 : decode c_C_Li_sortSymbols 45 = .ok (.iaload, 1) := by decide +kernel
theorem dc_Li_sortSymbols_46 : decode c_C_Li_sortSymbols 46 = .ok (.aload_n 1, 1) := by decide +kernel
theorem dc_Li_sortSymbols_47 : decode c_C_Li_sortSymbols 47 = .ok (.iload_n 2, 1) := by decide +kernel
theorem dc_Li_sortSymbols_48 : decode c_C_Li_sortSymbols 48 = .ok (.iaload, 1) := by decide +kernel
theorem dc_Li_sortSymbols_49 : decode c_C_Li_sortSymbols 49 = .ok (.if_icmp .le 23, 3) := by decide +kernel
theorem dc_Li_sortSymbols_52 : decode c_C_Li_sortSymbols 52 = .ok (.aload_n 0, 1) := by decide +kernel
theorem dc_Li_sortSymbols_53 : decode c_C_Li_sortSymbols 53 = .ok (.getfield 13, 3) := by decide +kernel
theorem dc_Li_sortSymbols_56 : decode c_C_Li_sortSymbols 56 = .ok (.iload_n 3, 1) := by decide +kernel
theorem dc_Li_sortSymbols_57 : decode c_C_Li_sortSymbols 57 = .ok (.aload_n 0, 1) := by decide +kernel
theorem dc_Li_sortSymbols_58 : decode c_C_Li_sortSymbols 58 = .ok (.getfield 13, 3) := by decide +kernel
theorem dc_Li_sortSymbols_61 : decode c_C_Li_sortSymbols 61 = .ok (.iload_n 3, 1) := by decide +kernel
theorem dc_Li_sortSymbols_62 : decode c_C_Li_sortSymbols 62 = .ok (.iconst 1, 1) := by decide +kernel
theorem dc_Li_sortSymbols_63 : decode c_C_Li_sortSymbols 63 = .ok (.isub, 1) := by decide +kernel
theorem dc_Li_sortSymbols_64 : decode c_C_Li_sortSymbols 64 = .ok (.iaload, 1) := by decide +kernel
theorem dc_Li_sortSymbols_65 : decode c_C_Li_sortSymbols 65 = .ok (.iastore, 1) := by decide +kernel
theorem dc_Li_sortSymbols_66 : decode c_C_Li_sortSymbols 66 = .ok (.iinc 3 (-1), 3) := by decide +kernel
theorem dc_Li_sortSymbols_69 : decode c_C_Li_sortSymbols 69 = .ok (.goto (-37), 3) := by decide +kernel
theorem dc_Li_sortSymbols_72 : decode c_C_Li_sortSymbols 72 = .ok (.aload_n 0, 1) := by decide +kernel
theorem dc_Li_sortSymbols_73 : decode c_C_Li_sortSymbols 73 = .ok (.getfield 13, 3) := by decide +kernel
theorem dc_Li_sortSymbols_76 : decode c_C_Li_sortSymbols 76 = .ok (.iload_n 3, 1) := by decide +kernel
theorem dc_Li_sortSymbols_77 : decode c_C_Li_sortSymbols 77 = .ok (.iload_n 2, 1) := by decide +kernel
theorem dc_Li_sortSymbols_78 : decode c_C_Li_sortSymbols 78 = .ok (.iastore, 1) := by decide +kernel
theorem dc_Li_sortSymbols_79 : decode c_C_Li_sortSymbols 79 = .ok (.aload_n 0, 1) := by decide +kernel
theorem dc_Li_sortSymbols_80 : decode c_C_Li_sortSymbols 80 = .ok (.dup, 1) := by decide +kernel
theorem dc_Li_sortSymbols_81 : decode c_C_Li_sortSymbols 81 = .ok (.getfield 34, 3) := by decide +kernel
theorem dc_Li_sortSymbols_84 : decode c_C_Li_sortSymbols 84 = .ok (.iconst 1, 1) := by decide +kernel
theorem dc_Li_sortSymbols_85 : decode c_C_Li_sortSymbols 85 = .ok (.iadd, 1) := by decide +kernel
theorem dc_Li_sortSymbols_86 : decode c_C_Li_sortSymbols 86 = .ok (.putfield 34, 3) := by decide +kernel
theorem dc_Li_sortSymbols_89 : decode c_C_Li_sortSymbols 89 = .ok (.iinc 2 1, 3) := by decide +kernel
theorem dc_Li_sortSymbols_92 : decode c_C_Li_sortSymbols 92 = .ok (.goto (-85), 3) := by decide +kernel
theorem dc_Li_sortSymbols_95 : decode c_C_Li_sortSymbols 95 = .ok (.return_, 1) := by decide +kernel
theorem dc_Li_makeLine_0 : decode c_C_Li_makeLine 0 = .ok (.iconst 0, 1) := by decide +kernel
theorem dc_Li_makeLine_1 : decode c_C_Li_makeLine 1 = .ok (.istore 4, 2) := by decide +kernel
theorem dc_Li_makeLine_3 : decode c_C_Li_makeLine 3 = .ok (.iconst 0, 1) := by decide +kernel
theorem dc_Li_makeLine_4 : decode c_C_Li_makeLine 4 = .ok (.istore 5, 2) := by decide +kernel
theorem dc_Li_makeLine_6 : decode c_C_Li_makeLine 6 = .ok (.iconst 0, 1) := by decide +kernel
theorem dc_Li_makeLine_7 : decode c_C_Li_makeLine 7 = .ok (.istore 6, 2) := by decide +kernel
theorem dc_Li_makeLine_9 : decode c_C_Li_makeLine 9 = .ok (.iload 6, 2) := by decide +kernel
theorem dc_Li_makeLine_11 : decode c_C_Li_makeLine 11 = .ok (.aload_n 0, 1) := by decide +kernel
theorem dc_Li_makeLine_12 : decode c_C_Li_makeLine 12 = .ok (.getfield 34, 3) := by decide +kernel
theorem dc_Li_makeLine_15 : decode c_C_Li_makeLine 15 = .ok (.iload_n 2, 1) := by decide +kernel
theorem dc_Li_makeLine_16 : decode c_C_Li_makeLine 16 = .ok (.iadd, 1) := by decide +kernel
theorem dc_Li_makeLine_17 : decode c_C_Li_makeLine 17 = .ok (.if_icmp .ge 132, 3) := by decide +kernel
theorem dc_Li_makeLine_20 : decode c_C_Li_makeLine 20 = .ok (.iload 5, 2) := by decide +kernel
theorem dc_Li_makeLine_22 : decode c_C_Li_makeLine 22 = .ok (.iload_n 2, 1) := by decide +kernel
theorem dc_Li_makeLine_23 : decode c_C_Li_makeLine 23 = .ok (.if_icmp .ge 27, 3) := by decide +kernel
theorem dc_Li_makeLine_26 : decode c_C_Li_makeLine 26 = .ok (.aload_n 0, 1) := by decide +kernel
theorem dc_Li_makeLine_27 : decode c_C_Li_makeLine 27 = .ok (.getfield 21, 3) := by decide +kernel
theorem dc_Li_makeLine_30 : decode c_C_Li_makeLine 30 = .ok (.iconst 2, 1) := by decide +kernel
theorem dc_Li_makeLine_31 : decode c_C_Li_makeLine 31 = .ok (.iload 5, 2) := by decide +kernel
theorem dc_Li_makeLine_33 : decode c_C_Li_makeLine 33 = .ok (.imul, 1) := by decide +kernel
theorem dc_Li_makeLine_34 : decode c_C_Li_makeLine 34 = .ok (.iaload, 1) := by decide +kernel
theorem dc_Li_makeLine_35 : decode c_C_Li_makeLine 35 = .ok (.aload_n 0, 1) := by decide +kernel
theorem dc_Li_makeLine_36 : decode c_C_Li_makeLine 36 = .ok (.getfield 21, 3) := by decide +kernel
theorem dc_Li_makeLine_39 : decode c_C_Li_makeLine 39 = .ok (.iconst 2, 1) := by decide +kernel
theorem dc_Li_makeLine_40 : decode c_C_Li_makeLine 40 = .ok (.iload 5, 2) := by decide +kernel
theorem dc_Li_makeLine_42 : decode c_C_Li_makeLine 42 = .ok (.imul, 1) := by decide +kernel
theorem dc_Li_makeLine_43 : decode c_C_Li_makeLine 43 = .ok (.iconst 1, 1) := by decide +kernel
theorem dc_Li_makeLine_44 : decode c_C_Li_makeLine 44 = .ok (.iadd, 1) := by decide +kernel
theorem dc_Li_makeLine_45 : decode c_C_Li_makeLine 45 = .ok (.iaload, 1) := by decide +kernel
theorem dc_Li_makeLine_46 : decode c_C_Li_makeLine 46 = .ok (.iadd, 1) := by decide +kernel
theorem dc_Li_makeLine_47 : decode c_C_Li_makeLine 47 = .ok (.goto 4, 3) := by decide +kernel
theorem dc_Li_makeLine_50 : decode c_C_Li_makeLine 50 = .ok (.iconst 0, 1) := by decide +kernel
theorem dc_Li_makeLine_51 : decode c_C_Li_makeLine 51 = .ok (.istore 7, 2) := by decide +kernel
theorem dc_Li_makeLine_53 : decode c_C_Li_makeLine 53 = .ok (.iload 4, 2) := by decide +kernel
theorem dc_Li_makeLine_55 : decode c_C_Li_makeLine 55 = .ok (.aload_n 0, 1) := by decide +kernel
theorem dc_Li_makeLine_56 : decode c_C_Li_makeLine 56 = .ok (.getfield 34, 3) := by decide +kernel
theorem dc_Li_makeLine_59 : decode c_C_Li_makeLine 59 = .ok (.if_icmp .eq 23, 3) := by decide +kernel
theorem dc_Li_makeLine_62 : decode c_C_Li_makeLine 62 = .ok (.iload 5, 2) := by decide +kernel
theorem dc_Li_makeLine_64 : decode c_C_Li_makeLine 64 = .ok (.iload_n 2, 1) := by decide +kernel
theorem dc_Li_makeLine_65 : decode c_C_Li_makeLine 65 = .ok (.if_icmp .ge 21, 3) := by decide +kernel
theorem dc_Li_makeLine_68 : decode c_C_Li_makeLine 68 = .ok (.iload 7, 2) := by decide +kernel
theorem dc_Li_makeLine_70 : decode c_C_Li_makeLine 70 = .ok (.aload_n 3, 1) := by decide +kernel
theorem dc_Li_makeLine_71 : decode c_C_Li_makeLine 71 = .ok (.aload_n 0, 1) := by decide +kernel
theorem dc_Li_makeLine_72 : decode c_C_Li_makeLine 72 = .ok (.getfield 13, 3) := by decide +kernel
theorem dc_Li_makeLine_75 : decode c_C_Li_makeLine 75 = .ok (.iload 4, 2) := by decide +kernel
theorem dc_Li_makeLine_77 : decode c_C_Li_makeLine 77 = .ok (.iaload, 1) := by decide +kernel
theorem dc_Li_makeLine_78 : decode c_C_Li_makeLine 78 = .ok (.iaload, 1) := by decide +kernel
theorem dc_Li_makeLine_79 : decode c_C_Li_makeLine 79 = .ok (.if_icmp .ge 7, 3) := by decide +kernel
theorem dc_Li_makeLine_82 : decode c_C_Li_makeLine 82 = .ok (.iconst 1, 1) := by decide +kernel
theorem dc_Li_makeLine_83 : decode c_C_Li_makeLine 83 = .ok (.goto 4, 3) := by decide +kernel
theorem dc_Li_makeLine_86 : decode c_C_Li_makeLine 86 = .ok (.iconst 0, 1) := by decide +kernel
theorem dc_Li_makeLine_87 : decode c_C_Li_makeLine 87 = .ok (.istore 8, 2) := by decide +kernel
theorem dc_Li_makeLine_89 : decode c_C_Li_makeLine 89 = .ok (.aload_n 0, 1) := by decide +kernel
theorem dc_Li_makeLine_90 : decode c_C_Li_makeLine 90 = .ok (.getfield 17, 3) := by decide +kernel
theorem dc_Li_makeLine_93 : decode c_C_Li_makeLine 93 = .ok (.sipush 514, 3) := by decide +kernel
theorem dc_Li_makeLine_96 : decode c_C_Li_makeLine 96 = .ok (.iload_n 1, 1) := by decide +kernel
theorem dc_Li_makeLine_97 : decode c_C_Li_makeLine 97 = .ok (.imul, 1) := by decide +kernel
theorem dc_Li_makeLine_98 : decode c_C_Li_makeLine 98 = .ok (.iload 6, 2) := by decide +kernel
theorem dc_Li_makeLine_100 : decode c_C_Li_makeLine 100 = .ok (.iadd, 1) := by decide +kernel
theorem dc_Li_makeLine_101 : decode c_C_Li_makeLine 101 = .ok (.iload 8, 2) := by decide +kernel
theorem dc_Li_makeLine_103 : decode c_C_Li_makeLine 103 = .ok (.bastore, 1) := by decide +kernel
theorem dc_Li_makeLine_104 : decode c_C_Li_makeLine 104 = .ok (.iload 8, 2) := by decide +kernel
theorem dc_Li_makeLine_106 : decode c_C_Li_makeLine 106 = .ok (.ifCond .eq 18, 3) := by decide +kernel
theorem dc_Li_makeLine_109 : decode c_C_Li_makeLine 109 = .ok (.aload_n 0, 1) := by decide +kernel
theorem dc_Li_makeLine_110 : decode c_C_Li_makeLine 110 = .ok (.getfield 24, 3) := by decide +kernel
theorem dc_Li_makeLine_113 : decode c_C_Li_makeLine 113 = .ok (.iload 6, 2) := by decide +kernel
theorem dc_Li_makeLine_115 : decode c_C_Li_makeLine 115 = .ok (.iload 7, 2) := by decide +kernel
theorem dc_Li_makeLine_117 : decode c_C_Li_makeLine 117 = .ok (.iastore, 1) := by decide +kernel
theorem dc_Li_makeLine_118 : decode c_C_Li_makeLine 118 = .ok (.iinc 5 1, 3) := by decide +kernel
theorem dc_Li_makeLine_121 : decode c_C_Li_makeLine 121 = .ok (.goto 22, 3) := by decide +kernel
theorem dc_Li_makeLine_124 : decode c_C_Li_makeLine 124 = .ok (.aload_n 0, 1) := by decide +kernel
theorem dc_Li_makeLine_125 : decode c_C_Li_makeLine 125 = .ok (.getfield 24, 3) := by decide +kernel
theorem dc_Li_makeLine_128 : decode c_C_Li_makeLine 128 = .ok (.iload 6, 2) := by decide +kernel
theorem dc_Li_makeLine_130 : decode c_C_Li_makeLine 130 = .ok (.aload_n 3, 1) := by decide +kernel
theorem dc_Li_makeLine_131 : decode c_C_Li_makeLine 131 = .ok (.aload_n 0, 1) := by decide +kernel
theorem dc_Li_makeLine_132 : decode c_C_Li_makeLine 132 = .ok (.getfield 13, 3) := by decide +kernel
theorem dc_Li_makeLine_135 : decode c_C_Li_makeLine 135 = .ok (.iload 4, 2) := by decide +kernel
theorem dc_Li_makeLine_137 : decode c_C_Li_makeLine 137 = .ok (.iaload, 1) := by decide +kernel
theorem dc_Li_makeLine_138 : decode c_C_Li_makeLine 138 = .ok (.iaload, 1) := by decide +kernel
theorem dc_Li_makeLine_139 : decode c_C_Li_makeLine 139 = .ok (.iastore, 1) := by decide +kernel
theorem dc_Li_makeLine_140 : decode c_C_Li_makeLine 140 = .ok (.iinc 4 1, 3) := by decide +kernel
theorem dc_Li_makeLine_143 : decode c_C_Li_makeLine 143 = .ok (.iinc 6 1, 3) := by decide +kernel
theorem dc_Li_makeLine_146 : decode c_C_Li_makeLine 146 = .ok (.goto (-137), 3) := by decide +kernel
theorem dc_Li_makeLine_149 : decode c_C_Li_makeLine 149 = .ok (.aload_n 0, 1) := by decide +kernel
theorem dc_Li_makeLine_150 : decode c_C_Li_makeLine 150 = .ok (.getfield 21, 3) := by decide +kernel
theorem dc_Li_makeLine_153 : decode c_C_Li_makeLine 153 = .ok (.astore 6, 2) := by decide +kernel
theorem dc_Li_makeLine_155 : decode c_C_Li_makeLine 155 = .ok (.aload_n 0, 1) := by decide +kernel
theorem dc_Li_makeLine_156 : decode c_C_Li_makeLine 156 = .ok (.aload_n 0, 1) := by decide +kernel
theorem dc_Li_makeLine_157 : decode c_C_Li_makeLine 157 = .ok (.getfield 24, 3) := by decide +kernel
theorem dc_Li_makeLine_160 : decode c_C_Li_makeLine 160 = .ok (.putfield 21, 3) := by decide +kernel
theorem dc_Li_makeLine_163 : decode c_C_Li_makeLine 163 = .ok (.aload_n 0, 1) := by decide +kernel
theorem dc_Li_makeLine_164 : decode c_C_Li_makeLine 164 = .ok (.aload 6, 2) := by decide +kernel
theorem dc_Li_makeLine_166 : decode c_C_Li_makeLine 166 = .ok (.putfield 24, 3) := by decide +kernel
theorem dc_Li_makeLine_169 : decode c_C_Li_makeLine 169 = .ok (.aload_n 0, 1) := by decide +kernel
theorem dc_Li_makeLine_170 : decode c_C_Li_makeLine 170 = .ok (.getfield 34, 3) := by decide +kernel
theorem dc_Li_makeLine_173 : decode c_C_Li_makeLine 173 = .ok (.iload_n 2, 1) := by decide +kernel
theorem dc_Li_makeLine_174 : decode c_C_Li_makeLine 174 = .ok (.iadd, 1) := by decide +kernel
theorem dc_Li_makeLine_175 : decode c_C_Li_makeLine 175 = .ok (.ireturn, 1) := by decide +kernel
