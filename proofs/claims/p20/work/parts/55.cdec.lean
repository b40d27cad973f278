theorem dc_Wa_makeSamples_0 : decode c_C_Wa_makeSamples 0 = .ok (.iconst 0, 1) := by decide +kernel
theorem dc_Wa_makeSamples_1 : decode c_C_Wa_makeSamples 1 = .ok (.istore_n 1, 1) := by decide +kernel
theorem dc_Wa_makeSamples_2 : decode c_C_Wa_makeSamples 2 = .ok (.iconst 0, 1) := by decide +kernel
theorem dc_Wa_makeSamples_3 : decode c_C_Wa_makeSamples 3 = .ok (.istore_n 2, 1) := by decide +kernel
theorem dc_Wa_makeSamples_4 : decode c_C_Wa_makeSamples 4 = .ok (.iload_n 2, 1) := by decide +kernel
theorem dc_Wa_makeSamples_5 : decode c_C_Wa_makeSamples 5 = .ok (.bipush 8, 2) := by decide +kernel
theorem dc_Wa_makeSamples_7 : decode c_C_Wa_makeSamples 7 = .ok (.if_icmp .ge 48, 3) := by decide +kernel
theorem dc_Wa_makeSamples_10 : decode c_C_Wa_makeSamples 10 = .ok (.aload_n 0, 1) := by decide +kernel
theorem dc_Wa_makeSamples_11 : decode c_C_Wa_makeSamples 11 = .ok (.iload_n 2, 1) := by decide +kernel
theorem dc_Wa_makeSamples_12 : decode c_C_Wa_makeSamples 12 = .ok (.invokevirtual 34, 3) := by decide +kernel
theorem dc_Wa_makeSamples_15 : decode c_C_Wa_makeSamples 15 = .ok (.ifCond .eq 15, 3) := by decide +kernel
theorem dc_Wa_makeSamples_18 : decode c_C_Wa_makeSamples 18 = .ok (.aload_n 0, 1) := by decide +kernel
theorem dc_Wa_makeSamples_19 : decode c_C_Wa_makeSamples 19 = .ok (.iload_n 2, 1) := by decide +kernel
theorem dc_Wa_makeSamples_20 : decode c_C_Wa_makeSamples 20 = .ok (.invokevirtual 38, 3) := by decide +kernel
theorem dc_Wa_makeSamples_23 : decode c_C_Wa_makeSamples 23 = .ok (.iload_n 2, 1) := by decide +kernel
theorem dc_Wa_makeSamples_24 : decode c_C_Wa_makeSamples 24 = .ok (.iconst 1, 1) := by decide +kernel
theorem dc_Wa_makeSamples_25 : decode c_C_Wa_makeSamples 25 = .ok (.iadd, 1) := by decide +kernel
theorem dc_Wa_makeSamples_26 : decode c_C_Wa_makeSamples 26 = .ok (.istore_n 1, 1) := by decide +kernel
theorem dc_Wa_makeSamples_27 : decode c_C_Wa_makeSamples 27 = .ok (.goto 22, 3) := by decide +kernel
theorem dc_Wa_makeSamples_30 : decode c_C_Wa_makeSamples 30 = .ok (.aload_n 0, 1) := by decide +kernel
theorem dc_Wa_makeSamples_31 : decode c_C_Wa_makeSamples 31 = .ok (.getfield 21, 3) := by decide +kernel
theorem dc_Wa_makeSamples_34 : decode c_C_Wa_makeSamples 34 = .ok (.bipush 8, 2) := by decide +kernel
theorem dc_Wa_makeSamples_36 : decode c_C_Wa_makeSamples 36 = .ok (.iload_n 2, 1) := by decide +kernel
theorem dc_Wa_makeSamples_37 : decode c_C_Wa_makeSamples 37 = .ok (.imul, 1) := by decide +kernel
theorem dc_Wa_makeSamples_38 : decode c_C_Wa_makeSamples 38 = .ok (.bipush 8, 2) := by decide +kernel
theorem dc_Wa_makeSamples_40 : decode c_C_Wa_makeSamples 40 = .ok (.iload_n 2, 1) := by decide +kernel
theorem dc_Wa_makeSamples_41 : decode c_C_Wa_makeSamples 41 = .ok (.imul, 1) := by decide +kernel
theorem dc_Wa_makeSamples_42 : decode c_C_Wa_makeSamples 42 = .ok (.bipush 8, 2) := by decide +kernel
theorem dc_Wa_makeSamples_44 : decode c_C_Wa_makeSamples 44 = .ok (.iadd, 1) := by decide +kernel
theorem dc_Wa_makeSamples_45 : decode c_C_Wa_makeSamples 45 = .ok (.lconst 0, 1) := by decide +kernel
theorem dc_Wa_makeSamples_46 : decode c_C_Wa_makeSamples 46 = .ok (.invokestatic 42, 3) := by decide +kernel
theorem dc_Wa_makeSamples_49 : decode c_C_Wa_makeSamples 49 = .ok (.iinc 2 1, 3) := by decide +kernel
theorem dc_Wa_makeSamples_52 : decode c_C_Wa_makeSamples 52 = .ok (.goto (-48), 3) := by decide +kernel
theorem dc_Wa_makeSamples_55 : decode c_C_Wa_makeSamples 55 = .ok (.iconst 0, 1) := by decide +kernel
theorem dc_Wa_makeSamples_56 : decode c_C_Wa_makeSamples 56 = .ok (.istore_n 2, 1) := by decide +kernel
theorem dc_Wa_makeSamples_57 : decode c_C_Wa_makeSamples 57 = .ok (.iload_n 2, 1) := by decide +kernel
theorem dc_Wa_makeSamples_58 : decode c_C_Wa_makeSamples 58 = .ok (.bipush 8, 2) := by decide +kernel
theorem dc_Wa_makeSamples_60 : decode c_C_Wa_makeSamples 60 = .ok (.if_icmp .ge 102, 3) := by decide +kernel
theorem dc_Wa_makeSamples_63 : decode c_C_Wa_makeSamples 63 = .ok (.iconst 0, 1) := by decide +kernel
theorem dc_Wa_makeSamples_64 : decode c_C_Wa_makeSamples 64 = .ok (.istore_n 3, 1) := by decide +kernel
theorem dc_Wa_makeSamples_65 : decode c_C_Wa_makeSamples 65 = .ok (.iload_n 3, 1) := by decide +kernel
theorem dc_Wa_makeSamples_66 : decode c_C_Wa_makeSamples 66 = .ok (.bipush 8, 2) := by decide +kernel
theorem dc_Wa_makeSamples_68 : decode c_C_Wa_makeSamples 68 = .ok (.if_icmp .ge 88, 3) := by decide +kernel
theorem dc_Wa_makeSamples_71 : decode c_C_Wa_makeSamples 71 = .ok (.ldc2_w 32, 3) := by decide +kernel
theorem dc_Wa_makeSamples_74 : decode c_C_Wa_makeSamples 74 = .ok (.lstore 4, 2) := by decide +kernel
theorem dc_Wa_makeSamples_76 : decode c_C_Wa_makeSamples 76 = .ok (.iconst 0, 1) := by decide +kernel
theorem dc_Wa_makeSamples_77 : decode c_C_Wa_makeSamples 77 = .ok (.istore 6, 2) := by decide +kernel
theorem dc_Wa_makeSamples_79 : decode c_C_Wa_makeSamples 79 = .ok (.iload 6, 2) := by decide +kernel
theorem dc_Wa_makeSamples_81 : decode c_C_Wa_makeSamples 81 = .ok (.iload_n 1, 1) := by decide +kernel
theorem dc_Wa_makeSamples_82 : decode c_C_Wa_makeSamples 82 = .ok (.if_icmp .ge 40, 3) := by decide +kernel
theorem dc_Wa_makeSamples_85 : decode c_C_Wa_makeSamples 85 = .ok (.lload 4, 2) := by decide +kernel
theorem dc_Wa_makeSamples_87 : decode c_C_Wa_makeSamples 87 = .ok (.aload_n 0, 1) := by decide +kernel
theorem dc_Wa_makeSamples_88 : decode c_C_Wa_makeSamples 88 = .ok (.getfield 9, 3) := by decide +kernel
theorem dc_Wa_makeSamples_91 : decode c_C_Wa_makeSamples 91 = .ok (.bipush 8, 2) := by decide +kernel
theorem dc_Wa_makeSamples_93 : decode c_C_Wa_makeSamples 93 = .ok (.iload 6, 2) := by decide +kernel
theorem dc_Wa_makeSamples_95 : decode c_C_Wa_makeSamples 95 = .ok (.imul, 1) := by decide +kernel
theorem dc_Wa_makeSamples_96 : decode c_C_Wa_makeSamples 96 = .ok (.iload_n 2, 1) := by decide +kernel
theorem dc_Wa_makeSamples_97 : decode c_C_Wa_makeSamples 97 = .ok (.iadd, 1) := by decide +kernel
theorem dc_Wa_makeSamples_98 : decode c_C_Wa_makeSamples 98 = .ok (.iaload, 1) := by decide +kernel
theorem dc_Wa_makeSamples_99 : decode c_C_Wa_makeSamples 99 = .ok (.i2l, 1) := by decide +kernel
theorem dc_Wa_makeSamples_100 : decode c_C_Wa_makeSamples 100 = .ok (.aload_n 0, 1) := by decide +kernel
theorem dc_Wa_makeSamples_101 : decode c_C_Wa_makeSamples 101 = .ok (.getfield 21, 3) := by decide +kernel
theorem dc_Wa_makeSamples_104 : decode c_C_Wa_makeSamples 104 = .ok (.bipush 8, 2) := by decide +kernel
theorem dc_Wa_makeSamples_106 : decode c_C_Wa_makeSamples 106 = .ok (.iload 6, 2) := by decide +kernel
theorem dc_Wa_makeSamples_108 : decode c_C_Wa_makeSamples 108 = .ok (.imul, 1) := by decide +kernel
theorem dc_Wa_makeSamples_109 : decode c_C_Wa_makeSamples 109 = .ok (.iload_n 3, 1) := by decide +kernel
theorem dc_Wa_makeSamples_110 : decode c_C_Wa_makeSamples 110 = .ok (.iadd, 1) := by decide +kernel
theorem dc_Wa_makeSamples_111 : decode c_C_Wa_makeSamples 111 = .ok (.laload, 1) := by decide +kernel
theorem dc_Wa_makeSamples_112 : decode c_C_Wa_makeSamples 112 = .ok (.lmul, 1) := by decide +kernel
theorem dc_Wa_makeSamples_113 : decode c_C_Wa_makeSamples 113 = .ok (.ladd, 1) := by decide +kernel
theorem dc_Wa_makeSamples_114 : decode c_C_Wa_makeSamples 114 = .ok (.lstore 4, 2) := by decide +kernel
theorem dc_Wa_makeSamples_116 : decode c_C_Wa_makeSamples 116 = .ok (.iinc 6 1, 3) := by decide +kernel
theorem dc_Wa_makeSamples_119 : decode c_C_Wa_makeSamples 119 = .ok (.goto (-40), 3) := by decide +kernel
theorem dc_Wa_makeSamples_122 : decode c_C_Wa_makeSamples 122 = .ok (.aload_n 0, 1) := by decide +kernel
theorem dc_Wa_makeSamples_123 : decode c_C_Wa_makeSamples 123 = .ok (.getfield 15, 3) := by decide +kernel
theorem dc_Wa_makeSamples_126 : decode c_C_Wa_makeSamples 126 = .ok (.bipush 8, 2) := by decide +kernel
theorem dc_Wa_makeSamples_128 : decode c_C_Wa_makeSamples 128 = .ok (.iload_n 2, 1) := by decide +kernel
theorem dc_Wa_makeSamples_129 : decode c_C_Wa_makeSamples 129 = .ok (.imul, 1) := by decide +kernel
theorem dc_Wa_makeSamples_130 : decode c_C_Wa_makeSamples 130 = .ok (.iload_n 3, 1) := by decide +kernel
theorem dc_Wa_makeSamples_131 : decode c_C_Wa_makeSamples 131 = .ok (.iadd, 1) := by decide +kernel
theorem dc_Wa_makeSamples_132 : decode c_C_Wa_makeSamples 132 = .ok (.sipush 128, 3) := by decide +kernel
theorem dc_Wa_makeSamples_135 : decode c_C_Wa_makeSamples 135 = .ok (.lload 4, 2) := by decide +kernel
theorem dc_Wa_makeSamples_137 : decode c_C_Wa_makeSamples 137 = .ok (.bipush 17, 2) := by decide +kernel
theorem dc_Wa_makeSamples_139 : decode c_C_Wa_makeSamples 139 = .ok (.lshr, 1) := by decide +kernel
theorem dc_Wa_makeSamples_140 : decode c_C_Wa_makeSamples 140 = .ok (.l2i, 1) := by decide +kernel
theorem dc_Wa_makeSamples_141 : decode c_C_Wa_makeSamples 141 = .ok (.iadd, 1) := by decide +kernel
theorem dc_Wa_makeSamples_142 : decode c_C_Wa_makeSamples 142 = .ok (.iconst 0, 1) := by decide +kernel
theorem dc_Wa_makeSamples_143 : decode c_C_Wa_makeSamples 143 = .ok (.sipush 255, 3) := by decide +kernel
theorem dc_Wa_makeSamples_146 : decode c_C_Wa_makeSamples 146 = .ok (.invokestatic 48, 3) := by decide +kernel
theorem dc_Wa_makeSamples_149 : decode c_C_Wa_makeSamples 149 = .ok (.iastore, 1) := by decide +kernel
theorem dc_Wa_makeSamples_150 : decode c_C_Wa_makeSamples 150 = .ok (.iinc 3 1, 3) := by decide +kernel
theorem dc_Wa_makeSamples_153 : decode c_C_Wa_makeSamples 153 = .ok (.goto (-88), 3) := by decide +kernel
theorem dc_Wa_makeSamples_156 : decode c_C_Wa_makeSamples 156 = .ok (.iinc 2 1, 3) := by decide +kernel
theorem dc_Wa_makeSamples_159 : decode c_C_Wa_makeSamples 159 = .ok (.goto (-102), 3) := by decide +kernel
theorem dc_Wa_makeSamples_162 : decode c_C_Wa_makeSamples 162 = .ok (.return_, 1) := by decide +kernel
theorem dc_Pi_drawBlock_0 : decode c_C_Pi_drawBlock 0 = .ok (.sipush 4096, 3) := by decide +kernel
theorem dc_Pi_drawBlock_3 : decode c_C_Pi_drawBlock 3 = .ok (.iload_n 2, 1) := by decide +kernel
theorem dc_Pi_drawBlock_4 : decode c_C_Pi_drawBlock 4 = .ok (.imul, 1) := by decide +kernel
theorem dc_Pi_drawBlock_5 : decode c_C_Pi_drawBlock 5 = .ok (.bipush 64, 2) := by decide +kernel
theorem dc_Pi_drawBlock_7 : decode c_C_Pi_drawBlock 7 = .ok (.iload 4, 2) := by decide +kernel
theorem dc_Pi_drawBlock_9 : decode c_C_Pi_drawBlock 9 = .ok (.bipush 8, 2) := by decide +kernel
theorem dc_Pi_drawBlock_11 : decode c_C_Pi_drawBlock 11 = .ok (.idiv, 1) := by decide +kernel
theorem dc_Pi_drawBlock_12 : decode c_C_Pi_drawBlock 12 = .ok (.aload_n 0, 1) := by decide +kernel
theorem dc_Pi_drawBlock_13 : decode c_C_Pi_drawBlock 13 = .ok (.getfield 46, 3) := by decide +kernel
theorem dc_Pi_drawBlock_16 : decode c_C_Pi_drawBlock 16 = .ok (.iload_n 2, 1) := by decide +kernel
theorem dc_Pi_drawBlock_17 : decode c_C_Pi_drawBlock 17 = .ok (.iaload, 1) := by decide +kernel
theorem dc_Pi_drawBlock_18 : decode c_C_Pi_drawBlock 18 = .ok (.imul, 1) := by decide +kernel
theorem dc_Pi_drawBlock_19 : decode c_C_Pi_drawBlock 19 = .ok (.iload_n 3, 1) := by decide +kernel
theorem dc_Pi_drawBlock_20 : decode c_C_Pi_drawBlock 20 = .ok (.bipush 8, 2) := by decide +kernel
theorem dc_Pi_drawBlock_22 : decode c_C_Pi_drawBlock 22 = .ok (.idiv, 1) := by decide +kernel
theorem dc_Pi_drawBlock_23 : decode c_C_Pi_drawBlock 23 = .ok (.iadd, 1) := by decide +kernel
theorem dc_Pi_drawBlock_24 : decode c_C_Pi_drawBlock 24 = .ok (.imul, 1) := by decide +kernel
theorem dc_Pi_drawBlock_25 : decode c_C_Pi_drawBlock 25 = .ok (.iadd, 1) := by decide +kernel
theorem dc_Pi_drawBlock_26 : decode c_C_Pi_drawBlock 26 = .ok (.istore 5, 2) := by decide +kernel
theorem dc_Pi_drawBlock_28 : decode c_C_Pi_drawBlock 28 = .ok (.iconst 0, 1) := by decide +kernel
theorem dc_Pi_drawBlock_29 : decode c_C_Pi_drawBlock 29 = .ok (.istore 6, 2) := by decide +kernel
theorem dc_Pi_drawBlock_31 : decode c_C_Pi_drawBlock 31 = .ok (.iload 6, 2) := by decide +kernel
theorem dc_Pi_drawBlock_33 : decode c_C_Pi_drawBlock 33 = .ok (.bipush 64, 2) := by decide +kernel
theorem dc_Pi_drawBlock_35 : decode c_C_Pi_drawBlock 35 = .ok (.if_icmp .ge 43, 3) := by decide +kernel
theorem dc_Pi_drawBlock_38 : decode c_C_Pi_drawBlock 38 = .ok (.aload_n 1, 1) := by decide +kernel
theorem dc_Pi_drawBlock_39 : decode c_C_Pi_drawBlock 39 = .ok (.getfield 88, 3) := by decide +kernel
theorem dc_Pi_drawBlock_42 : decode c_C_Pi_drawBlock 42 = .ok (.getstatic 93, 3) := by decide +kernel
theorem dc_Pi_drawBlock_45 : decode c_C_Pi_drawBlock 45 = .ok (.iload 6, 2) := by decide +kernel
theorem dc_Pi_drawBlock_47 : decode c_C_Pi_drawBlock 47 = .ok (.iaload, 1) := by decide +kernel
theorem dc_Pi_drawBlock_48 : decode c_C_Pi_drawBlock 48 = .ok (.aload_n 0, 1) := by decide +kernel
theorem dc_Pi_drawBlock_49 : decode c_C_Pi_drawBlock 49 = .ok (.getfield 52, 3) := by decide +kernel
theorem dc_Pi_drawBlock_52 : decode c_C_Pi_drawBlock 52 = .ok (.iload 5, 2) := by decide +kernel
theorem dc_Pi_drawBlock_54 : decode c_C_Pi_drawBlock 54 = .ok (.iload 6, 2) := by decide +kernel
theorem dc_Pi_drawBlock_56 : decode c_C_Pi_drawBlock 56 = .ok (.iadd, 1) := by decide +kernel
theorem dc_Pi_drawBlock_57 : decode c_C_Pi_drawBlock 57 = .ok (.iaload, 1) := by decide +kernel
theorem dc_Pi_drawBlock_58 : decode c_C_Pi_drawBlock 58 = .ok (.aload_n 0, 1) := by decide +kernel
theorem dc_Pi_drawBlock_59 : decode c_C_Pi_drawBlock 59 = .ok (.getfield 55, 3) := by decide +kernel
theorem dc_Pi_drawBlock_62 : decode c_C_Pi_drawBlock 62 = .ok (.bipush 64, 2) := by decide +kernel
theorem dc_Pi_drawBlock_64 : decode c_C_Pi_drawBlock 64 = .ok (.iload_n 2, 1) := by decide +kernel
theorem dc_Pi_drawBlock_65 : decode c_C_Pi_drawBlock 65 = .ok (.imul, 1) := by decide +kernel
theorem dc_Pi_drawBlock_66 : decode c_C_Pi_drawBlock 66 = .ok (.iload 6, 2) := by decide +kernel
theorem dc_Pi_drawBlock_68 : decode c_C_Pi_drawBlock 68 = .ok (.iadd, 1) := by decide +kernel
theorem dc_Pi_drawBlock_69 : decode c_C_Pi_drawBlock 69 = .ok (.iaload, 1) := by decide +kernel
theorem dc_Pi_drawBlock_70 : decode c_C_Pi_drawBlock 70 = .ok (.imul, 1) := by decide +kernel
theorem dc_Pi_drawBlock_71 : decode c_C_Pi_drawBlock 71 = .ok (.iastore, 1) := by decide +kernel
theorem dc_Pi_drawBlock_72 : decode c_C_Pi_drawBlock 72 = .ok (.iinc 6 1, 3) := by decide +kernel
theorem dc_Pi_drawBlock_75 : decode c_C_Pi_drawBlock 75 = .ok (.goto (-44), 3) := by decide +kernel
theorem dc_Pi_drawBlock_78 : decode c_C_Pi_drawBlock 78 = .ok (.aload_n 1, 1) := by decide +kernel
theorem dc_Pi_drawBlock_79 : decode c_C_Pi_drawBlock 79 = .ok (.invokevirtual 96, 3) := by decide +kernel
theorem dc_Pi_drawBlock_82 : decode c_C_Pi_drawBlock 82 = .ok (.iconst 0, 1) := by decide +kernel
theorem dc_Pi_drawBlock_83 : decode c_C_Pi_drawBlock 83 = .ok (.istore 6, 2) := by decide +kernel
theorem dc_Pi_drawBlock_85 : decode c_C_Pi_drawBlock 85 = .ok (.iload 6, 2) := by decide +kernel
theorem dc_Pi_drawBlock_87 : decode c_C_Pi_drawBlock 87 = .ok (.bipush 64, 2) := by decide +kernel
theorem dc_Pi_drawBlock_89 : decode c_C_Pi_drawBlock 89 = .ok (.if_icmp .ge 40, 3) := by decide +kernel
theorem dc_Pi_drawBlock_92 : decode c_C_Pi_drawBlock 92 = .ok (.aload_n 0, 1) := by decide +kernel
theorem dc_Pi_drawBlock_93 : decode c_C_Pi_drawBlock 93 = .ok (.getfield 58, 3) := by decide +kernel
theorem dc_Pi_drawBlock_96 : decode c_C_Pi_drawBlock 96 = .ok (.iload_n 2, 1) := by decide +kernel
theorem dc_Pi_drawBlock_97 : decode c_C_Pi_drawBlock 97 = .ok (.iload_n 3, 1) := by decide +kernel
theorem dc_Pi_drawBlock_98 : decode c_C_Pi_drawBlock 98 = .ok (.iload 6, 2) := by decide +kernel
theorem dc_Pi_drawBlock_100 : decode c_C_Pi_drawBlock 100 = .ok (.bipush 8, 2) := by decide +kernel
theorem dc_Pi_drawBlock_102 : decode c_C_Pi_drawBlock 102 = .ok (.irem, 1) := by decide +kernel
theorem dc_Pi_drawBlock_103 : decode c_C_Pi_drawBlock 103 = .ok (.iadd, 1) := by decide +kernel
theorem dc_Pi_drawBlock_104 : decode c_C_Pi_drawBlock 104 = .ok (.iload 4, 2) := by decide +kernel
theorem dc_Pi_drawBlock_106 : decode c_C_Pi_drawBlock 106 = .ok (.iload 6, 2) := by decide +kernel
theorem dc_Pi_drawBlock_108 : decode c_C_Pi_drawBlock 108 = .ok (.bipush 8, 2) := by decide +kernel
theorem dc_Pi_drawBlock_110 : decode c_C_Pi_drawBlock 110 = .ok (.idiv, 1) := by decide +kernel
theorem dc_Pi_drawBlock_111 : decode c_C_Pi_drawBlock 111 = .ok (.iadd, 1) := by decide +kernel
theorem dc_Pi_drawBlock_112 : decode c_C_Pi_drawBlock 112 = .ok (.invokestatic 99, 3) := by decide +kernel
theorem dc_Pi_drawBlock_115 : decode c_C_Pi_drawBlock 115 = .ok (.aload_n 1, 1) := by decide +kernel
theorem dc_Pi_drawBlock_116 : decode c_C_Pi_drawBlock 116 = .ok (.getfield 103, 3) := by decide +kernel
theorem dc_Pi_drawBlock_119 : decode c_C_Pi_drawBlock 119 = .ok (.iload 6, 2) := by decide +kernel
theorem dc_Pi_drawBlock_121 : decode c_C_Pi_drawBlock 121 = .ok (.iaload, 1) := by decide +kernel
theorem dc_Pi_drawBlock_122 : decode c_C_Pi_drawBlock 122 = .ok (.iastore, 1) := by decide +kernel
theorem dc_Pi_drawBlock_123 : decode c_C_Pi_drawBlock 123 = .ok (.iinc 6 1, 3) := by decide +kernel
theorem dc_Pi_drawBlock_126 : decode c_C_Pi_drawBlock 126 = .ok (.goto (-41), 3) := by decide +kernel
theorem dc_Pi_drawBlock_129 : decode c_C_Pi_drawBlock 129 = .ok (.return_, 1) := by decide +kernel
theorem dc_Pi_draw_0 : decode c_C_Pi_draw 0 = .ok (.aload_n 0, 1) := by decide +kernel
theorem dc_Pi_draw_1 : decode c_C_Pi_draw 1 = .ok (.getfield 61, 3) := by decide +kernel
theorem dc_Pi_draw_4 : decode c_C_Pi_draw 4 = .ok (.ifCond .eq 4, 3) := by decide +kernel
theorem dc_Pi_draw_7 : decode c_C_Pi_draw 7 = .ok (.return_, 1) := by decide +kernel
theorem dc_Pi_draw_8 : decode c_C_Pi_draw 8 = .ok (.iconst 0, 1) := by decide +kernel
theorem dc_Pi_draw_9 : decode c_C_Pi_draw 9 = .ok (.istore_n 2, 1) := by decide +kernel
theorem dc_Pi_draw_10 : decode c_C_Pi_draw 10 = .ok (.iload_n 2, 1) := by decide +kernel
theorem dc_Pi_draw_11 : decode c_C_Pi_draw 11 = .ok (.aload_n 0, 1) := by decide +kernel
theorem dc_Pi_draw_12 : decode c_C_Pi_draw 12 = .ok (.getfield 18, 3) := by decide +kernel
theorem dc_Pi_draw_15 : decode c_C_Pi_draw 15 = .ok (.if_icmp .ge 56, 3) := by decide +kernel
theorem dc_Pi_draw_18 : decode c_C_Pi_draw 18 = .ok (.iconst 0, 1) := by decide +kernel
theorem dc_Pi_draw_19 : decode c_C_Pi_draw 19 = .ok (.istore_n 3, 1) := by decide +kernel
theorem dc_Pi_draw_20 : decode c_C_Pi_draw 20 = .ok (.iload_n 3, 1) := by decide +kernel
theorem dc_Pi_draw_21 : decode c_C_Pi_draw 21 = .ok (.aload_n 0, 1) := by decide +kernel
theorem dc_Pi_draw_22 : decode c_C_Pi_draw 22 = .ok (.getfield 43, 3) := by decide +kernel
theorem dc_Pi_draw_25 : decode c_C_Pi_draw 25 = .ok (.iload_n 2, 1) := by decide +kernel
theorem dc_Pi_draw_26 : decode c_C_Pi_draw 26 = .ok (.iaload, 1) := by decide +kernel
theorem dc_Pi_draw_27 : decode c_C_Pi_draw 27 = .ok (.if_icmp .ge 38, 3) := by decide +kernel
theorem dc_Pi_draw_30 : decode c_C_Pi_draw 30 = .ok (.iconst 0, 1) := by decide +kernel
theorem dc_Pi_draw_31 : decode c_C_Pi_draw 31 = .ok (.istore 4, 2) := by decide +kernel
theorem dc_Pi_draw_33 : decode c_C_Pi_draw 33 = .ok (.iload 4, 2) := by decide +kernel
theorem dc_Pi_draw_35 : decode c_C_Pi_draw 35 = .ok (.aload_n 0, 1) := by decide +kernel
theorem dc_Pi_draw_36 : decode c_C_Pi_draw 36 = .ok (.getfield 40, 3) := by decide +kernel
theorem dc_Pi_draw_39 : decode c_C_Pi_draw 39 = .ok (.iload_n 2, 1) := by decide +kernel
theorem dc_Pi_draw_40 : decode c_C_Pi_draw 40 = .ok (.iaload, 1) := by decide +kernel
theorem dc_Pi_draw_41 : decode c_C_Pi_draw 41 = .ok (.if_icmp .ge 18, 3) := by decide +kernel
theorem dc_Pi_draw_44 : decode c_C_Pi_draw 44 = .ok (.aload_n 0, 1) := by decide +kernel
theorem dc_Pi_draw_45 : decode c_C_Pi_draw 45 = .ok (.aload_n 1, 1) := by decide +kernel
theorem dc_Pi_draw_46 : decode c_C_Pi_draw 46 = .ok (.iload_n 2, 1) := by decide +kernel
theorem dc_Pi_draw_47 : decode c_C_Pi_draw 47 = .ok (.iload 4, 2) := by decide +kernel
theorem dc_Pi_draw_49 : decode c_C_Pi_draw 49 = .ok (.iload_n 3, 1) := by decide +kernel
theorem dc_Pi_draw_50 : decode c_C_Pi_draw 50 = .ok (.invokevirtual 84, 3) := by decide +kernel
theorem dc_Pi_draw_53 : decode c_C_Pi_draw 53 = .ok (.iinc 4 8, 3) := by decide +kernel
theorem dc_Pi_draw_56 : decode c_C_Pi_draw 56 = .ok (.goto (-23), 3) := by decide +kernel
theorem dc_Pi_draw_59 : decode c_C_Pi_draw 59 = .ok (.iinc 3 8, 3) := by decide +kernel
theorem dc_Pi_draw_62 : decode c_C_Pi_draw 62 = .ok (.goto (-42), 3) := by decide +kernel
theorem dc_Pi_draw_65 : decode c_C_Pi_draw 65 = .ok (.iinc 2 1, 3) := by decide +kernel
theorem dc_Pi_draw_68 : decode c_C_Pi_draw 68 = .ok (.goto (-58), 3) := by decide +kernel
theorem dc_Pi_draw_71 : decode c_C_Pi_draw 71 = .ok (.aload_n 0, 1) := by decide +kernel
theorem dc_Pi_draw_72 : decode c_C_Pi_draw 72 = .ok (.iconst 1, 1) := by decide +kernel
theorem dc_Pi_draw_73 : decode c_C_Pi_draw 73 = .ok (.putfield 61, 3) := by decide +kernel
theorem dc_Pi_draw_76 : decode c_C_Pi_draw 76 = .ok (.return_, 1) := by decide +kernel
theorem dc_Pi_layerSample_0 : decode c_C_Pi_layerSample 0 = .ok (.aload_n 0, 1) := by decide +kernel
theorem dc_Pi_layerSample_1 : decode c_C_Pi_layerSample 1 = .ok (.getfield 21, 3) := by decide +kernel
theorem dc_Pi_layerSample_4 : decode c_C_Pi_layerSample 4 = .ok (.iload_n 1, 1) := by decide +kernel
theorem dc_Pi_layerSample_5 : decode c_C_Pi_layerSample 5 = .ok (.iaload, 1) := by decide +kernel
theorem dc_Pi_layerSample_6 : decode c_C_Pi_layerSample 6 = .ok (.aload_n 0, 1) := by decide +kernel
theorem dc_Pi_layerSample_7 : decode c_C_Pi_layerSample 7 = .ok (.getfield 28, 3) := by decide +kernel
theorem dc_Pi_layerSample_10 : decode c_C_Pi_layerSample 10 = .ok (.if_icmp .ge 9, 3) := by decide +kernel
theorem dc_Pi_layerSample_13 : decode c_C_Pi_layerSample 13 = .ok (.iload_n 2, 1) := by decide +kernel
theorem dc_Pi_layerSample_14 : decode c_C_Pi_layerSample 14 = .ok (.iconst 2, 1) := by decide +kernel
theorem dc_Pi_layerSample_15 : decode c_C_Pi_layerSample 15 = .ok (.idiv, 1) := by decide +kernel
theorem dc_Pi_layerSample_16 : decode c_C_Pi_layerSample 16 = .ok (.goto 4, 3) := by decide +kernel
theorem dc_Pi_layerSample_19 : decode c_C_Pi_layerSample 19 = .ok (.iload_n 2, 1) := by decide +kernel
theorem dc_Pi_layerSample_20 : decode c_C_Pi_layerSample 20 = .ok (.istore 4, 2) := by decide +kernel
theorem dc_Pi_layerSample_22 : decode c_C_Pi_layerSample 22 = .ok (.aload_n 0, 1) := by decide +kernel
theorem dc_Pi_layerSample_23 : decode c_C_Pi_layerSample 23 = .ok (.getfield 25, 3) := by decide +kernel
theorem dc_Pi_layerSample_26 : decode c_C_Pi_layerSample 26 = .ok (.iload_n 1, 1) := by decide +kernel
theorem dc_Pi_layerSample_27 : decode c_C_Pi_layerSample 27 = .ok (.iaload, 1) := by decide +kernel
theorem dc_Pi_layerSample_28 : decode c_C_Pi_layerSample 28 = .ok (.aload_n 0, 1) := by decide +kernel
theorem dc_Pi_layerSample_29 : decode c_C_Pi_layerSample 29 = .ok (.getfield 31, 3) := by decide +kernel
theorem dc_Pi_layerSample_32 : decode c_C_Pi_layerSample 32 = .ok (.if_icmp .ge 9, 3) := by decide +kernel
theorem dc_Pi_layerSample_35 : decode c_C_Pi_layerSample 35 = .ok (.iload_n 3, 1) := by decide +kernel
theorem dc_Pi_layerSample_36 : decode c_C_Pi_layerSample 36 = .ok (.iconst 2, 1) := by decide +kernel
theorem dc_Pi_layerSample_37 : decode c_C_Pi_layerSample 37 = .ok (.idiv, 1) := by decide +kernel
theorem dc_Pi_layerSample_38 : decode c_C_Pi_layerSample 38 = .ok (.goto 4, 3) := by decide +kernel
theorem dc_Pi_layerSample_41 : decode c_C_Pi_layerSample 41 = .ok (.iload_n 3, 1) := by decide +kernel
theorem dc_Pi_layerSample_42 : decode c_C_Pi_layerSample 42 = .ok (.istore 5, 2) := by decide +kernel
theorem dc_Pi_layerSample_44 : decode c_C_Pi_layerSample 44 = .ok (.aload_n 0, 1) := by decide +kernel
theorem dc_Pi_layerSample_45 : decode c_C_Pi_layerSample 45 = .ok (.getfield 58, 3) := by decide +kernel
theorem dc_Pi_layerSample_48 : decode c_C_Pi_layerSample 48 = .ok (.iload_n 1, 1) := by decide +kernel
theorem dc_Pi_layerSample_49 : decode c_C_Pi_layerSample 49 = .ok (.iload 4, 2) := by decide +kernel
theorem dc_Pi_layerSample_51 : decode c_C_Pi_layerSample 51 = .ok (.iload 5, 2) := by decide +kernel
theorem dc_Pi_layerSample_53 : decode c_C_Pi_layerSample 53 = .ok (.invokestatic 99, 3) := by decide +kernel
theorem dc_Pi_layerSample_56 : decode c_C_Pi_layerSample 56 = .ok (.iaload, 1) := by decide +kernel
theorem dc_Pi_layerSample_57 : decode c_C_Pi_layerSample 57 = .ok (.ireturn, 1) := by decide +kernel
theorem dc_Pi_colour_0 : decode c_C_Pi_colour 0 = .ok (.aload_n 0, 1) := by decide +kernel
theorem dc_Pi_colour_1 : decode c_C_Pi_colour 1 = .ok (.iconst 0, 1) := by decide +kernel
theorem dc_Pi_colour_2 : decode c_C_Pi_colour 2 = .ok (.iload_n 1, 1) := by decide +kernel
theorem dc_Pi_colour_3 : decode c_C_Pi_colour 3 = .ok (.iload_n 2, 1) := by decide +kernel
theorem dc_Pi_colour_4 : decode c_C_Pi_colour 4 = .ok (.invokevirtual 104, 3) := by decide +kernel
theorem dc_Pi_colour_7 : decode c_C_Pi_colour 7 = .ok (.istore 4, 2) := by decide +kernel
theorem dc_Pi_colour_9 : decode c_C_Pi_colour 9 = .ok (.aload_n 0, 1) := by decide +kernel
theorem dc_Pi_colour_10 : decode c_C_Pi_colour 10 = .ok (.getfield 18, 3) := by decide +kernel
theorem dc_Pi_colour_13 : decode c_C_Pi_colour 13 = .ok (.iconst 1, 1) := by decide +kernel
theorem dc_Pi_colour_14 : decode c_C_Pi_colour 14 = .ok (.if_icmp .ne 6, 3) := by decide +kernel
theorem dc_Pi_colour_17 : decode c_C_Pi_colour 17 = .ok (.iload 4, 2) := by decide +kernel
theorem dc_Pi_colour_19 : decode c_C_Pi_colour 19 = .ok (.ireturn, 1) := by decide +kernel
theorem dc_Pi_colour_20 : decode c_C_Pi_colour 20 = .ok (.aload_n 0, 1) := by decide +kernel
theorem dc_Pi_colour_21 : decode c_C_Pi_colour 21 = .ok (.iconst 1, 1) := by decide +kernel
theorem dc_Pi_colour_22 : decode c_C_Pi_colour 22 = .ok (.iload_n 1, 1) := by decide +kernel
theorem dc_Pi_colour_23 : decode c_C_Pi_colour 23 = .ok (.iload_n 2, 1) := by decide +kernel
theorem dc_Pi_colour_24 : decode c_C_Pi_colour 24 = .ok (.invokevirtual 104, 3) := by decide +kernel
theorem dc_Pi_colour_27 : decode c_C_Pi_colour 27 = .ok (.sipush 128, 3) := by decide +kernel
theorem dc_Pi_colour_30 : decode c_C_Pi_colour 30 = .ok (.isub, 1) := by decide +kernel
theorem dc_Pi_colour_31 : decode c_C_Pi_colour 31 = .ok (.istore 5, 2) := by decide +kernel
theorem dc_Pi_colour_33 : decode c_C_Pi_colour 33 = .ok (.aload_n 0, 1) := by decide +kernel
theorem dc_Pi_colour_34 : decode c_C_Pi_colour 34 = .ok (.iconst 2, 1) := by decide +kernel
theorem dc_Pi_colour_35 : decode c_C_Pi_colour 35 = .ok (.iload_n 1, 1) := by decide +kernel
theorem dc_Pi_colour_36 : decode c_C_Pi_colour 36 = .ok (.iload_n 2, 1) := by decide +kernel
theorem dc_Pi_colour_37 : decode c_C_Pi_colour 37 = .ok (.invokevirtual 104, 3) := by decide +kernel
theorem dc_Pi_colour_40 : decode c_C_Pi_colour 40 = .ok (.sipush 128, 3) := by decide +kernel
theorem dc_Pi_colour_43 : decode c_C_Pi_colour 43 = .ok (.isub, 1) := by decide +kernel
theorem dc_Pi_colour_44 : decode c_C_Pi_colour 44 = .ok (.istore 6, 2) := by decide +kernel
theorem dc_Pi_colour_46 : decode c_C_Pi_colour 46 = .ok (.iload_n 3, 1) := by decide +kernel
theorem dc_Pi_colour_47 : decode c_C_Pi_colour 47 = .ok (.iconst 1, 1) := by decide +kernel
theorem dc_Pi_colour_48 : decode c_C_Pi_colour 48 = .ok (.if_icmp .ne 32, 3) := by decide +kernel
theorem dc_Pi_colour_51 : decode c_C_Pi_colour 51 = .ok (.iload 4, 2) := by decide +kernel
theorem dc_Pi_colour_53 : decode c_C_Pi_colour 53 = .ok (.sipush 22554, 3) := by decide +kernel
theorem dc_Pi_colour_56 : decode c_C_Pi_colour 56 = .ok (.iload 5, 2) := by decide +kernel
theorem dc_Pi_colour_58 : decode c_C_Pi_colour 58 = .ok (.imul, 1) := by decide +kernel
theorem dc_Pi_colour_59 : decode c_C_Pi_colour 59 = .ok (.ldc 107, 2) := by decide +kernel
theorem dc_Pi_colour_61 : decode c_C_Pi_colour 61 = .ok (.iload 6, 2) := by decide +kernel
theorem dc_Pi_colour_63 : decode c_C_Pi_colour 63 = .ok (.imul, 1) := by decide +kernel
theorem dc_Pi_colour_64 : decode c_C_Pi_colour 64 = .ok (.iadd, 1) := by decide +kernel
theorem dc_Pi_colour_65 : decode c_C_Pi_colour 65 = .ok (.ldc 108, 2) := by decide +kernel
theorem dc_Pi_colour_67 : decode c_C_Pi_colour 67 = .ok (.iadd, 1) := by decide +kernel
theorem dc_Pi_colour_68 : decode c_C_Pi_colour 68 = .ok (.bipush 16, 2) := by decide +kernel
theorem dc_Pi_colour_70 : decode c_C_Pi_colour 70 = .ok (.ishr, 1) := by decide +kernel
theorem dc_Pi_colour_71 : decode c_C_Pi_colour 71 = .ok (.isub, 1) := by decide +kernel
theorem dc_Pi_colour_72 : decode c_C_Pi_colour 72 = .ok (.iconst 0, 1) := by decide +kernel
theorem dc_Pi_colour_73 : decode c_C_Pi_colour 73 = .ok (.sipush 255, 3) := by decide +kernel
theorem dc_Pi_colour_76 : decode c_C_Pi_colour 76 = .ok (.invokestatic 109, 3) := by decide +kernel
theorem dc_Pi_colour_79 : decode c_C_Pi_colour 79 = .ok (.ireturn, 1) := by decide +kernel
theorem dc_Pi_colour_80 : decode c_C_Pi_colour 80 = .ok (.iload_n 3, 1) := by decide +kernel
theorem dc_Pi_colour_81 : decode c_C_Pi_colour 81 = .ok (.ifCond .ne 11, 3) := by decide +kernel
theorem dc_Pi_colour_84 : decode c_C_Pi_colour 84 = .ok (.ldc 112, 2) := by decide +kernel
theorem dc_Pi_colour_86 : decode c_C_Pi_colour 86 = .ok (.iload 6, 2) := by decide +kernel
theorem dc_Pi_colour_88 : decode c_C_Pi_colour 88 = .ok (.imul, 1) := by decide +kernel
theorem dc_Pi_colour_89 : decode c_C_Pi_colour 89 = .ok (.goto 8, 3) := by decide +kernel
theorem dc_Pi_colour_92 : decode c_C_Pi_colour 92 = .ok (.ldc 113, 2) := by decide +kernel
theorem dc_Pi_colour_94 : decode c_C_Pi_colour 94 = .ok (.iload 5, 2) := by decide +kernel
theorem dc_Pi_colour_96 : decode c_C_Pi_colour 96 = .ok (.imul, 1) := by decide +kernel
theorem dc_Pi_colour_97 : decode c_C_Pi_colour 97 = .ok (.istore 7, 2) := by decide +kernel
theorem dc_Pi_colour_99 : decode c_C_Pi_colour 99 = .ok (.iload 4, 2) := by decide +kernel
theorem dc_Pi_colour_101 : decode c_C_Pi_colour 101 = .ok (.iload 7, 2) := by decide +kernel
theorem dc_Pi_colour_103 : decode c_C_Pi_colour 103 = .ok (.ldc 108, 2) := by decide +kernel
theorem dc_Pi_colour_105 : decode c_C_Pi_colour 105 = .ok (.iadd, 1) := by decide +kernel
theorem dc_Pi_colour_106 : decode c_C_Pi_colour 106 = .ok (.bipush 16, 2) := by decide +kernel
theorem dc_Pi_colour_108 : decode c_C_Pi_colour 108 = .ok (.ishr, 1) := by decide +kernel
theorem dc_Pi_colour_109 : decode c_C_Pi_colour 109 = .ok (.iadd, 1) := by decide +kernel
theorem dc_Pi_colour_110 : decode c_C_Pi_colour 110 = .ok (.iconst 0, 1) := by decide +kernel
theorem dc_Pi_colour_111 : decode c_C_Pi_colour 111 = .ok (.sipush 255, 3) := by decide +kernel
theorem dc_Pi_colour_114 : decode c_C_Pi_colour 114 = .ok (.invokestatic 109, 3) := by decide +kernel
theorem dc_Pi_colour_117 : decode c_C_Pi_colour 117 = .ok (.ireturn, 1) := by decide +kernel
theorem dc_B_sample_0 : decode c_C_B_sample 0 = .ok (.aload_n 0, 1) := by decide +kernel
theorem dc_B_sample_1 : decode c_C_B_sample 1 = .ok (.getfield 57, 3) := by decide +kernel
theorem dc_B_sample_4 : decode c_C_B_sample 4 = .ok (.getfield 181, 3) := by decide +kernel
theorem dc_B_sample_7 : decode c_C_B_sample 7 = .ok (.ifCond .ne 13, 3) := by decide +kernel
theorem dc_B_sample_10 : decode c_C_B_sample 10 = .ok (.new 149, 3) := by decide +kernel
theorem dc_B_sample_13 : decode c_C_B_sample 13 = .ok (.dup, 1) := by decide +kernel
theorem dc_B_sample_14 : decode c_C_B_sample 14 = .ok (.ldc 185, 2) := by decide +kernel
theorem dc_B_sample_16 : decode c_C_B_sample 16 = .ok (.invokespecial 153, 3) := by decide +kernel
theorem dc_B_sample_19 : decode c_C_B_sample 19 = .ok (.athrow, 1) := by decide +kernel
theorem dc_B_sample_20 : decode c_C_B_sample 20 = .ok (.iload_n 1, 1) := by decide +kernel
theorem dc_B_sample_21 : decode c_C_B_sample 21 = .ok (.iconst 0, 1) := by decide +kernel
theorem dc_B_sample_22 : decode c_C_B_sample 22 = .ok (.aload_n 0, 1) := by decide +kernel
theorem dc_B_sample_23 : decode c_C_B_sample 23 = .ok (.getfield 57, 3) := by decide +kernel
theorem dc_B_sample_26 : decode c_C_B_sample 26 = .ok (.getfield 187, 3) := by decide +kernel
theorem dc_B_sample_29 : decode c_C_B_sample 29 = .ok (.iconst 1, 1) := by decide +kernel
theorem dc_B_sample_30 : decode c_C_B_sample 30 = .ok (.isub, 1) := by decide +kernel
theorem dc_B_sample_31 : decode c_C_B_sample 31 = .ok (.invokestatic 71, 3) := by decide +kernel
theorem dc_B_sample_34 : decode c_C_B_sample 34 = .ok (.ifCond .eq 37, 3) := by decide +kernel
theorem dc_B_sample_37 : decode c_C_B_sample 37 = .ok (.iload_n 2, 1) := by decide +kernel
theorem dc_B_sample_38 : decode c_C_B_sample 38 = .ok (.iconst 0, 1) := by decide +kernel
theorem dc_B_sample_39 : decode c_C_B_sample 39 = .ok (.aload_n 0, 1) := by decide +kernel
theorem dc_B_sample_40 : decode c_C_B_sample 40 = .ok (.getfield 57, 3) := by decide +kernel
theorem dc_B_sample_43 : decode c_C_B_sample 43 = .ok (.getfield 190, 3) := by decide +kernel
theorem dc_B_sample_46 : decode c_C_B_sample 46 = .ok (.iconst 1, 1) := by decide +kernel
theorem dc_B_sample_47 : decode c_C_B_sample 47 = .ok (.isub, 1) := by decide +kernel
theorem dc_B_sample_48 : decode c_C_B_sample 48 = .ok (.invokestatic 71, 3) := by decide +kernel
theorem dc_B_sample_51 : decode c_C_B_sample 51 = .ok (.ifCond .eq 20, 3) := by decide +kernel
theorem dc_B_sample_54 : decode c_C_B_sample 54 = .ok (.iload_n 3, 1) := by decide +kernel
theorem dc_B_sample_55 : decode c_C_B_sample 55 = .ok (.iconst 0, 1) := by decide +kernel
theorem dc_B_sample_56 : decode c_C_B_sample 56 = .ok (.aload_n 0, 1) := by decide +kernel
theorem dc_B_sample_57 : decode c_C_B_sample 57 = .ok (.getfield 57, 3) := by decide +kernel
theorem dc_B_sample_60 : decode c_C_B_sample 60 = .ok (.getfield 193, 3) := by decide +kernel
theorem dc_B_sample_63 : decode c_C_B_sample 63 = .ok (.iconst 1, 1) := by decide +kernel
theorem dc_B_sample_64 : decode c_C_B_sample 64 = .ok (.isub, 1) := by decide +kernel
theorem dc_B_sample_65 : decode c_C_B_sample 65 = .ok (.invokestatic 71, 3) := by decide +kernel
theorem dc_B_sample_68 : decode c_C_B_sample 68 = .ok (.ifCond .ne 13, 3) := by decide +kernel
theorem dc_B_sample_71 : decode c_C_B_sample 71 = .ok (.new 90, 3) := by decide +kernel
theorem dc_B_sample_74 : decode c_C_B_sample 74 = .ok (.dup, 1) := by decide +kernel
theorem dc_B_sample_75 : decode c_C_B_sample 75 = .ok (.ldc 196, 2) := by decide +kernel
theorem dc_B_sample_77 : decode c_C_B_sample 77 = .ok (.invokespecial 94, 3) := by decide +kernel
theorem dc_B_sample_80 : decode c_C_B_sample 80 = .ok (.athrow, 1) := by decide +kernel
theorem dc_B_sample_81 : decode c_C_B_sample 81 = .ok (.aload_n 0, 1) := by decide +kernel
theorem dc_B_sample_82 : decode c_C_B_sample 82 = .ok (.getfield 57, 3) := by decide +kernel
theorem dc_B_sample_85 : decode c_C_B_sample 85 = .ok (.aload_n 0, 1) := by decide +kernel
theorem dc_B_sample_86 : decode c_C_B_sample 86 = .ok (.getfield 43, 3) := by decide +kernel
theorem dc_B_sample_89 : decode c_C_B_sample 89 = .ok (.invokevirtual 198, 3) := by decide +kernel
theorem dc_B_sample_92 : decode c_C_B_sample 92 = .ok (.aload_n 0, 1) := by decide +kernel
theorem dc_B_sample_93 : decode c_C_B_sample 93 = .ok (.getfield 57, 3) := by decide +kernel
theorem dc_B_sample_96 : decode c_C_B_sample 96 = .ok (.iload_n 1, 1) := by decide +kernel
theorem dc_B_sample_97 : decode c_C_B_sample 97 = .ok (.iload_n 2, 1) := by decide +kernel
theorem dc_B_sample_98 : decode c_C_B_sample 98 = .ok (.iload_n 3, 1) := by decide +kernel
theorem dc_B_sample_99 : decode c_C_B_sample 99 = .ok (.invokevirtual 202, 3) := by decide +kernel
theorem dc_B_sample_102 : decode c_C_B_sample 102 = .ok (.ireturn, 1) := by decide +kernel
theorem dc_Pi_hasBlock_0 : decode c_C_Pi_hasBlock 0 = .ok (.iload_n 1, 1) := by decide +kernel
theorem dc_Pi_hasBlock_1 : decode c_C_Pi_hasBlock 1 = .ok (.iconst 0, 1) := by decide +kernel
theorem dc_Pi_hasBlock_2 : decode c_C_Pi_hasBlock 2 = .ok (.aload_n 0, 1) := by decide +kernel
theorem dc_Pi_hasBlock_3 : decode c_C_Pi_hasBlock 3 = .ok (.getfield 18, 3) := by decide +kernel
theorem dc_Pi_hasBlock_6 : decode c_C_Pi_hasBlock 6 = .ok (.iconst 1, 1) := by decide +kernel
theorem dc_Pi_hasBlock_7 : decode c_C_Pi_hasBlock 7 = .ok (.isub, 1) := by decide +kernel
theorem dc_Pi_hasBlock_8 : decode c_C_Pi_hasBlock 8 = .ok (.invokestatic 80, 3) := by decide +kernel
theorem dc_Pi_hasBlock_11 : decode c_C_Pi_hasBlock 11 = .ok (.ifCond .eq 23, 3) := by decide +kernel
theorem dc_Pi_hasBlock_14 : decode c_C_Pi_hasBlock 14 = .ok (.iload_n 2, 1) := by decide +kernel
theorem dc_Pi_hasBlock_15 : decode c_C_Pi_hasBlock 15 = .ok (.iconst 0, 1) := by decide +kernel
theorem dc_Pi_hasBlock_16 : decode c_C_Pi_hasBlock 16 = .ok (.aload_n 0, 1) := by decide +kernel
theorem dc_Pi_hasBlock_17 : decode c_C_Pi_hasBlock 17 = .ok (.getfield 49, 3) := by decide +kernel
theorem dc_Pi_hasBlock_20 : decode c_C_Pi_hasBlock 20 = .ok (.iload_n 1, 1) := by decide +kernel
theorem dc_Pi_hasBlock_21 : decode c_C_Pi_hasBlock 21 = .ok (.iaload, 1) := by decide +kernel
theorem dc_Pi_hasBlock_22 : decode c_C_Pi_hasBlock 22 = .ok (.iconst 1, 1) := by decide +kernel
theorem dc_Pi_hasBlock_23 : decode c_C_Pi_hasBlock 23 = .ok (.isub, 1) := by decide +kernel
theorem dc_Pi_hasBlock_24 : decode c_C_Pi_hasBlock 24 = .ok (.invokestatic 80, 3) := by decide +kernel
theorem dc_Pi_hasBlock_27 : decode c_C_Pi_hasBlock 27 = .ok (.ifCond .eq 7, 3) := by decide +kernel
theorem dc_Pi_hasBlock_30 : decode c_C_Pi_hasBlock 30 = .ok (.iconst 1, 1) := by decide +kernel
theorem dc_Pi_hasBlock_31 : decode c_C_Pi_hasBlock 31 = .ok (.goto 4, 3) := by decide +kernel
theorem dc_Pi_hasBlock_34 : decode c_C_Pi_hasBlock 34 = .ok (.iconst 0, 1) := by decide +kernel
theorem dc_Pi_hasBlock_35 : decode c_C_Pi_hasBlock 35 = .ok (.ireturn, 1) := by decide +kernel
theorem dc_B_level_0 : decode c_C_B_level 0 = .ok (.iload_n 1, 1) := by decide +kernel
theorem dc_B_level_1 : decode c_C_B_level 1 = .ok (.iconst 0, 1) := by decide +kernel
theorem dc_B_level_2 : decode c_C_B_level 2 = .ok (.iconst 1, 1) := by decide +kernel
theorem dc_B_level_3 : decode c_C_B_level 3 = .ok (.invokestatic 71, 3) := by decide +kernel
theorem dc_B_level_6 : decode c_C_B_level 6 = .ok (.ifCond .ne 13, 3) := by decide +kernel
theorem dc_B_level_9 : decode c_C_B_level 9 = .ok (.new 75, 3) := by decide +kernel
theorem dc_B_level_12 : decode c_C_B_level 12 = .ok (.dup, 1) := by decide +kernel
theorem dc_B_level_13 : decode c_C_B_level 13 = .ok (.ldc 205, 2) := by decide +kernel
theorem dc_B_level_15 : decode c_C_B_level 15 = .ok (.invokespecial 79, 3) := by decide +kernel
theorem dc_B_level_18 : decode c_C_B_level 18 = .ok (.athrow, 1) := by decide +kernel
theorem dc_B_level_19 : decode c_C_B_level 19 = .ok (.iload_n 1, 1) := by decide +kernel
theorem dc_B_level_20 : decode c_C_B_level 20 = .ok (.iconst 1, 1) := by decide +kernel
theorem dc_B_level_21 : decode c_C_B_level 21 = .ok (.if_icmp .ne 10, 3) := by decide +kernel
theorem dc_B_level_24 : decode c_C_B_level 24 = .ok (.aload_n 0, 1) := by decide +kernel
theorem dc_B_level_25 : decode c_C_B_level 25 = .ok (.getfield 57, 3) := by decide +kernel
theorem dc_B_level_28 : decode c_C_B_level 28 = .ok (.goto 10, 3) := by decide +kernel
theorem dc_B_level_31 : decode c_C_B_level 31 = .ok (.aload_n 0, 1) := by decide +kernel
theorem dc_B_level_32 : decode c_C_B_level 32 = .ok (.getfield 23, 3) := by decide +kernel
theorem dc_B_level_35 : decode c_C_B_level 35 = .ok (.getfield 207, 3) := by decide +kernel
theorem dc_B_level_38 : decode c_C_B_level 38 = .ok (.astore 5, 2) := by decide +kernel
theorem dc_B_level_40 : decode c_C_B_level 40 = .ok (.aload 5, 2) := by decide +kernel
theorem dc_B_level_42 : decode c_C_B_level 42 = .ok (.getfield 181, 3) := by decide +kernel
theorem dc_B_level_45 : decode c_C_B_level 45 = .ok (.ifCond .ne 13, 3) := by decide +kernel
theorem dc_B_level_48 : decode c_C_B_level 48 = .ok (.new 149, 3) := by decide +kernel
theorem dc_B_level_51 : decode c_C_B_level 51 = .ok (.dup, 1) := by decide +kernel
theorem dc_B_level_52 : decode c_C_B_level 52 = .ok (.ldc 210, 2) := by decide +kernel
theorem dc_B_level_54 : decode c_C_B_level 54 = .ok (.invokespecial 153, 3) := by decide +kernel
theorem dc_B_level_57 : decode c_C_B_level 57 = .ok (.athrow, 1) := by decide +kernel
theorem dc_B_level_58 : decode c_C_B_level 58 = .ok (.aload 5, 2) := by decide +kernel
theorem dc_B_level_60 : decode c_C_B_level 60 = .ok (.iload_n 2, 1) := by decide +kernel
theorem dc_B_level_61 : decode c_C_B_level 61 = .ok (.iload_n 3, 1) := by decide +kernel
theorem dc_B_level_62 : decode c_C_B_level 62 = .ok (.invokevirtual 212, 3) := by decide +kernel
theorem dc_B_level_65 : decode c_C_B_level 65 = .ok (.ifCond .eq 14, 3) := by decide +kernel
theorem dc_B_level_68 : decode c_C_B_level 68 = .ok (.iload 4, 2) := by decide +kernel
theorem dc_B_level_70 : decode c_C_B_level 70 = .ok (.iconst 0, 1) := by decide +kernel
theorem dc_B_level_71 : decode c_C_B_level 71 = .ok (.bipush 63, 2) := by decide +kernel
theorem dc_B_level_73 : decode c_C_B_level 73 = .ok (.invokestatic 71, 3) := by decide +kernel
theorem dc_B_level_76 : decode c_C_B_level 76 = .ok (.ifCond .ne 13, 3) := by decide +kernel
theorem dc_B_level_79 : decode c_C_B_level 79 = .ok (.new 90, 3) := by decide +kernel
theorem dc_B_level_82 : decode c_C_B_level 82 = .ok (.dup, 1) := by decide +kernel
theorem dc_B_level_83 : decode c_C_B_level 83 = .ok (.ldc 216, 2) := by decide +kernel
theorem dc_B_level_85 : decode c_C_B_level 85 = .ok (.invokespecial 94, 3) := by decide +kernel
theorem dc_B_level_88 : decode c_C_B_level 88 = .ok (.athrow, 1) := by decide +kernel
theorem dc_B_level_89 : decode c_C_B_level 89 = .ok (.aload 5, 2) := by decide +kernel
theorem dc_B_level_91 : decode c_C_B_level 91 = .ok (.getfield 218, 3) := by decide +kernel
theorem dc_B_level_94 : decode c_C_B_level 94 = .ok (.sipush 4096, 3) := by decide +kernel
theorem dc_B_level_97 : decode c_C_B_level 97 = .ok (.iload_n 2, 1) := by decide +kernel
theorem dc_B_level_98 : decode c_C_B_level 98 = .ok (.imul, 1) := by decide +kernel
theorem dc_B_level_99 : decode c_C_B_level 99 = .ok (.bipush 64, 2) := by decide +kernel
theorem dc_B_level_101 : decode c_C_B_level 101 = .ok (.iload_n 3, 1) := by decide +kernel
theorem dc_B_level_102 : decode c_C_B_level 102 = .ok (.imul, 1) := by decide +kernel
theorem dc_B_level_103 : decode c_C_B_level 103 = .ok (.iadd, 1) := by decide +kernel
theorem dc_B_level_104 : decode c_C_B_level 104 = .ok (.iload 4, 2) := by decide +kernel
theorem dc_B_level_106 : decode c_C_B_level 106 = .ok (.iadd, 1) := by decide +kernel
theorem dc_B_level_107 : decode c_C_B_level 107 = .ok (.iaload, 1) := by decide +kernel
theorem dc_B_level_108 : decode c_C_B_level 108 = .ok (.ireturn, 1) := by decide +kernel
theorem dc_B_take_0 : decode c_C_B_take 0 = .ok (.aload_n 0, 1) := by decide +kernel
theorem dc_B_take_1 : decode c_C_B_take 1 = .ok (.getfield 57, 3) := by decide +kernel
theorem dc_B_take_4 : decode c_C_B_take 4 = .ok (.getfield 181, 3) := by decide +kernel
theorem dc_B_take_7 : decode c_C_B_take 7 = .ok (.ifCond .ne 13, 3) := by decide +kernel
theorem dc_B_take_10 : decode c_C_B_take 10 = .ok (.new 149, 3) := by decide +kernel
theorem dc_B_take_13 : decode c_C_B_take 13 = .ok (.dup, 1) := by decide +kernel
theorem dc_B_take_14 : decode c_C_B_take 14 = .ok (.ldc 185, 2) := by decide +kernel
theorem dc_B_take_16 : decode c_C_B_take 16 = .ok (.invokespecial 153, 3) := by decide +kernel
theorem dc_B_take_19 : decode c_C_B_take 19 = .ok (.athrow, 1) := by decide +kernel
theorem dc_B_take_20 : decode c_C_B_take 20 = .ok (.aload_n 0, 1) := by decide +kernel
theorem dc_B_take_21 : decode c_C_B_take 21 = .ok (.getfield 57, 3) := by decide +kernel
theorem dc_B_take_24 : decode c_C_B_take 24 = .ok (.aload_n 0, 1) := by decide +kernel
theorem dc_B_take_25 : decode c_C_B_take 25 = .ok (.getfield 43, 3) := by decide +kernel
theorem dc_B_take_28 : decode c_C_B_take 28 = .ok (.invokevirtual 198, 3) := by decide +kernel
theorem dc_B_take_31 : decode c_C_B_take 31 = .ok (.aload_n 0, 1) := by decide +kernel
theorem dc_B_take_32 : decode c_C_B_take 32 = .ok (.getfield 12, 3) := by decide +kernel
theorem dc_B_take_35 : decode c_C_B_take 35 = .ok (.aload_n 0, 1) := by decide +kernel
theorem dc_B_take_36 : decode c_C_B_take 36 = .ok (.getfield 57, 3) := by decide +kernel
theorem dc_B_take_39 : decode c_C_B_take 39 = .ok (.getfield 187, 3) := by decide +kernel
theorem dc_B_take_42 : decode c_C_B_take 42 = .ok (.aload_n 0, 1) := by decide +kernel
theorem dc_B_take_43 : decode c_C_B_take 43 = .ok (.getfield 57, 3) := by decide +kernel
theorem dc_B_take_46 : decode c_C_B_take 46 = .ok (.getfield 190, 3) := by decide +kernel
theorem dc_B_take_49 : decode c_C_B_take 49 = .ok (.aload_n 0, 1) := by decide +kernel
theorem dc_B_take_50 : decode c_C_B_take 50 = .ok (.getfield 57, 3) := by decide +kernel
theorem dc_B_take_53 : decode c_C_B_take 53 = .ok (.getfield 193, 3) := by decide +kernel
theorem dc_B_take_56 : decode c_C_B_take 56 = .ok (.invokevirtual 82, 3) := by decide +kernel
theorem dc_B_take_59 : decode c_C_B_take 59 = .ok (.iconst 0, 1) := by decide +kernel
theorem dc_B_take_60 : decode c_C_B_take 60 = .ok (.istore_n 1, 1) := by decide +kernel
theorem dc_B_take_61 : decode c_C_B_take 61 = .ok (.iload_n 1, 1) := by decide +kernel
theorem dc_B_take_62 : decode c_C_B_take 62 = .ok (.aload_n 0, 1) := by decide +kernel
theorem dc_B_take_63 : decode c_C_B_take 63 = .ok (.getfield 57, 3) := by decide +kernel
theorem dc_B_take_66 : decode c_C_B_take 66 = .ok (.getfield 193, 3) := by decide +kernel
theorem dc_B_take_69 : decode c_C_B_take 69 = .ok (.if_icmp .ge 71, 3) := by decide +kernel
theorem dc_B_take_72 : decode c_C_B_take 72 = .ok (.iconst 0, 1) := by decide +kernel
theorem dc_B_take_73 : decode c_C_B_take 73 = .ok (.istore_n 2, 1) := by decide +kernel
theorem dc_B_take_74 : decode c_C_B_take 74 = .ok (.iload_n 2, 1) := by decide +kernel
theorem dc_B_take_75 : decode c_C_B_take 75 = .ok (.aload_n 0, 1) := by decide +kernel
theorem dc_B_take_76 : decode c_C_B_take 76 = .ok (.getfield 57, 3) := by decide +kernel
theorem dc_B_take_79 : decode c_C_B_take 79 = .ok (.getfield 190, 3) := by decide +kernel
theorem dc_B_take_82 : decode c_C_B_take 82 = .ok (.if_icmp .ge 52, 3) := by decide +kernel
theorem dc_B_take_85 : decode c_C_B_take 85 = .ok (.iconst 0, 1) := by decide +kernel
theorem dc_B_take_86 : decode c_C_B_take 86 = .ok (.istore_n 3, 1) := by decide +kernel
theorem dc_B_take_87 : decode c_C_B_take 87 = .ok (.iload_n 3, 1) := by decide +kernel
theorem dc_B_take_88 : decode c_C_B_take 88 = .ok (.aload_n 0, 1) := by decide +kernel
theorem dc_B_take_89 : decode c_C_B_take 89 = .ok (.getfield 57, 3) := by decide +kernel
theorem dc_B_take_92 : decode c_C_B_take 92 = .ok (.getfield 187, 3) := by decide +kernel
theorem dc_B_take_95 : decode c_C_B_take 95 = .ok (.if_icmp .ge 33, 3) := by decide +kernel
theorem dc_B_take_98 : decode c_C_B_take 98 = .ok (.aload_n 0, 1) := by decide +kernel
theorem dc_B_take_99 : decode c_C_B_take 99 = .ok (.getfield 12, 3) := by decide +kernel
theorem dc_B_take_102 : decode c_C_B_take 102 = .ok (.getfield 104, 3) := by decide +kernel
theorem dc_B_take_105 : decode c_C_B_take 105 = .ok (.iload_n 1, 1) := by decide +kernel
theorem dc_B_take_106 : decode c_C_B_take 106 = .ok (.iload_n 3, 1) := by decide +kernel
theorem dc_B_take_107 : decode c_C_B_take 107 = .ok (.iload_n 2, 1) := by decide +kernel
theorem dc_B_take_108 : decode c_C_B_take 108 = .ok (.invokestatic 107, 3) := by decide +kernel
theorem dc_B_take_111 : decode c_C_B_take 111 = .ok (.aload_n 0, 1) := by decide +kernel
theorem dc_B_take_112 : decode c_C_B_take 112 = .ok (.getfield 57, 3) := by decide +kernel
theorem dc_B_take_115 : decode c_C_B_take 115 = .ok (.iload_n 3, 1) := by decide +kernel
theorem dc_B_take_116 : decode c_C_B_take 116 = .ok (.iload_n 2, 1) := by decide +kernel
theorem dc_B_take_117 : decode c_C_B_take 117 = .ok (.iload_n 1, 1) := by decide +kernel
theorem dc_B_take_118 : decode c_C_B_take 118 = .ok (.invokevirtual 202, 3) := by decide +kernel
theorem dc_B_take_121 : decode c_C_B_take 121 = .ok (.iastore, 1) := by decide +kernel
theorem dc_B_take_122 : decode c_C_B_take 122 = .ok (.iinc 3 1, 3) := by decide +kernel
theorem dc_B_take_125 : decode c_C_B_take 125 = .ok (.goto (-38), 3) := by decide +kernel
theorem dc_B_take_128 : decode c_C_B_take 128 = .ok (.iinc 2 1, 3) := by decide +kernel
theorem dc_B_take_131 : decode c_C_B_take 131 = .ok (.goto (-57), 3) := by decide +kernel
theorem dc_B_take_134 : decode c_C_B_take 134 = .ok (.iinc 1 1, 3) := by decide +kernel
theorem dc_B_take_137 : decode c_C_B_take 137 = .ok (.goto (-76), 3) := by decide +kernel
theorem dc_B_take_140 : decode c_C_B_take 140 = .ok (.return_, 1) := by decide +kernel
theorem dc_Wa_wave_0 : decode c_C_Wa_wave 0 = .ok (.iload_n 0, 1) := by decide +kernel
theorem dc_Wa_wave_1 : decode c_C_Wa_wave 1 = .ok (.bipush 16, 2) := by decide +kernel
theorem dc_Wa_wave_3 : decode c_C_Wa_wave 3 = .ok (.if_icmp .le 10, 3) := by decide +kernel
theorem dc_Wa_wave_6 : decode c_C_Wa_wave 6 = .ok (.bipush 32, 2) := by decide +kernel
theorem dc_Wa_wave_8 : decode c_C_Wa_wave 8 = .ok (.iload_n 0, 1) := by decide +kernel
theorem dc_Wa_wave_9 : decode c_C_Wa_wave 9 = .ok (.isub, 1) := by decide +kernel
theorem dc_Wa_wave_10 : decode c_C_Wa_wave 10 = .ok (.goto 4, 3) := by decide +kernel
theorem dc_Wa_wave_13 : decode c_C_Wa_wave 13 = .ok (.iload_n 0, 1) := by decide +kernel
theorem dc_Wa_wave_14 : decode c_C_Wa_wave 14 = .ok (.istore_n 1, 1) := by decide +kernel
theorem dc_Wa_wave_15 : decode c_C_Wa_wave 15 = .ok (.iload_n 1, 1) := by decide +kernel
theorem dc_Wa_wave_16 : decode c_C_Wa_wave 16 = .ok (.bipush 8, 2) := by decide +kernel
theorem dc_Wa_wave_18 : decode c_C_Wa_wave 18 = .ok (.if_icmp .le 15, 3) := by decide +kernel
theorem dc_Wa_wave_21 : decode c_C_Wa_wave 21 = .ok (.getstatic 25, 3) := by decide +kernel
theorem dc_Wa_wave_24 : decode c_C_Wa_wave 24 = .ok (.bipush 16, 2) := by decide +kernel
theorem dc_Wa_wave_26 : decode c_C_Wa_wave 26 = .ok (.iload_n 1, 1) := by decide +kernel
theorem dc_Wa_wave_27 : decode c_C_Wa_wave 27 = .ok (.isub, 1) := by decide +kernel
theorem dc_Wa_wave_28 : decode c_C_Wa_wave 28 = .ok (.iaload, 1) := by decide +kernel
theorem dc_Wa_wave_29 : decode c_C_Wa_wave 29 = .ok (.ineg, 1) := by decide +kernel
theorem dc_Wa_wave_30 : decode c_C_Wa_wave 30 = .ok (.goto 8, 3) := by decide +kernel
theorem dc_Wa_wave_33 : decode c_C_Wa_wave 33 = .ok (.getstatic 25, 3) := by decide +kernel
theorem dc_Wa_wave_36 : decode c_C_Wa_wave 36 = .ok (.iload_n 1, 1) := by decide +kernel
theorem dc_Wa_wave_37 : decode c_C_Wa_wave 37 = .ok (.iaload, 1) := by decide +kernel
theorem dc_Wa_wave_38 : decode c_C_Wa_wave 38 = .ok (.ireturn, 1) := by decide +kernel
