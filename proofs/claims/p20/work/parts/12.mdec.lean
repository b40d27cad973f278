theorem d_makeGrids_0 : decode c_M_makeGrids 0 = .ok (.aload_n 0, 1) := by decide +kernel
theorem d_makeGrids_1 : decode c_M_makeGrids 1 = .ok (.iload_n 1, 1) := by decide +kernel
theorem d_makeGrids_2 : decode c_M_makeGrids 2 = .ok (.iconst 1, 1) := by decide +kernel
theorem d_makeGrids_3 : decode c_M_makeGrids 3 = .ok (.invokevirtual 173, 3) := by decide +kernel
theorem d_makeGrids_6 : decode c_M_makeGrids 6 = .ok (.istore_n 2, 1) := by decide +kernel
theorem d_makeGrids_7 : decode c_M_makeGrids 7 = .ok (.aload_n 0, 1) := by decide +kernel
theorem d_makeGrids_8 : decode c_M_makeGrids 8 = .ok (.iload_n 1, 1) := by decide +kernel
theorem d_makeGrids_9 : decode c_M_makeGrids 9 = .ok (.iconst 0, 1) := by decide +kernel
theorem d_makeGrids_10 : decode c_M_makeGrids 10 = .ok (.invokevirtual 173, 3) := by decide +kernel
theorem d_makeGrids_13 : decode c_M_makeGrids 13 = .ok (.istore_n 3, 1) := by decide +kernel
theorem d_makeGrids_14 : decode c_M_makeGrids 14 = .ok (.iconst 0, 1) := by decide +kernel
theorem d_makeGrids_15 : decode c_M_makeGrids 15 = .ok (.istore 4, 2) := by decide +kernel
theorem d_makeGrids_17 : decode c_M_makeGrids 17 = .ok (.iload 4, 2) := by decide +kernel
theorem d_makeGrids_19 : decode c_M_makeGrids 19 = .ok (.aload_n 0, 1) := by decide +kernel
theorem d_makeGrids_20 : decode c_M_makeGrids 20 = .ok (.getfield 47, 3) := by decide +kernel
theorem d_makeGrids_23 : decode c_M_makeGrids 23 = .ok (.iload_n 1, 1) := by decide +kernel
theorem d_makeGrids_24 : decode c_M_makeGrids 24 = .ok (.iaload, 1) := by decide +kernel
theorem d_makeGrids_25 : decode c_M_makeGrids 25 = .ok (.if_icmp .ge 81, 3) := by decide +kernel
theorem d_makeGrids_28 : decode c_M_makeGrids 28 = .ok (.aload_n 0, 1) := by decide +kernel
theorem d_makeGrids_29 : decode c_M_makeGrids 29 = .ok (.getfield 56, 3) := by decide +kernel
theorem d_makeGrids_32 : decode c_M_makeGrids 32 = .ok (.iconst 3, 1) := by decide +kernel
theorem d_makeGrids_33 : decode c_M_makeGrids 33 = .ok (.iload_n 1, 1) := by decide +kernel
theorem d_makeGrids_34 : decode c_M_makeGrids 34 = .ok (.imul, 1) := by decide +kernel
theorem d_makeGrids_35 : decode c_M_makeGrids 35 = .ok (.iload 4, 2) := by decide +kernel
theorem d_makeGrids_37 : decode c_M_makeGrids 37 = .ok (.iadd, 1) := by decide +kernel
theorem d_makeGrids_38 : decode c_M_makeGrids 38 = .ok (.aload_n 0, 1) := by decide +kernel
theorem d_makeGrids_39 : decode c_M_makeGrids 39 = .ok (.getfield 50, 3) := by decide +kernel
theorem d_makeGrids_42 : decode c_M_makeGrids 42 = .ok (.iconst 3, 1) := by decide +kernel
theorem d_makeGrids_43 : decode c_M_makeGrids 43 = .ok (.iload_n 1, 1) := by decide +kernel
theorem d_makeGrids_44 : decode c_M_makeGrids 44 = .ok (.imul, 1) := by decide +kernel
theorem d_makeGrids_45 : decode c_M_makeGrids 45 = .ok (.iload 4, 2) := by decide +kernel
theorem d_makeGrids_47 : decode c_M_makeGrids 47 = .ok (.iadd, 1) := by decide +kernel
theorem d_makeGrids_48 : decode c_M_makeGrids 48 = .ok (.iaload, 1) := by decide +kernel
theorem d_makeGrids_49 : decode c_M_makeGrids 49 = .ok (.aload_n 0, 1) := by decide +kernel
theorem d_makeGrids_50 : decode c_M_makeGrids 50 = .ok (.getfield 41, 3) := by decide +kernel
theorem d_makeGrids_53 : decode c_M_makeGrids 53 = .ok (.iload_n 1, 1) := by decide +kernel
theorem d_makeGrids_54 : decode c_M_makeGrids 54 = .ok (.iaload, 1) := by decide +kernel
theorem d_makeGrids_55 : decode c_M_makeGrids 55 = .ok (.bipush 8, 2) := by decide +kernel
theorem d_makeGrids_57 : decode c_M_makeGrids 57 = .ok (.iload_n 2, 1) := by decide +kernel
theorem d_makeGrids_58 : decode c_M_makeGrids 58 = .ok (.imul, 1) := by decide +kernel
theorem d_makeGrids_59 : decode c_M_makeGrids 59 = .ok (.invokestatic 177, 3) := by decide +kernel
theorem d_makeGrids_62 : decode c_M_makeGrids 62 = .ok (.imul, 1) := by decide +kernel
theorem d_makeGrids_63 : decode c_M_makeGrids 63 = .ok (.iastore, 1) := by decide +kernel
theorem d_makeGrids_64 : decode c_M_makeGrids 64 = .ok (.aload_n 0, 1) := by decide +kernel
theorem d_makeGrids_65 : decode c_M_makeGrids 65 = .ok (.getfield 59, 3) := by decide +kernel
theorem d_makeGrids_68 : decode c_M_makeGrids 68 = .ok (.iconst 3, 1) := by decide +kernel
theorem d_makeGrids_69 : decode c_M_makeGrids 69 = .ok (.iload_n 1, 1) := by decide +kernel
theorem d_makeGrids_70 : decode c_M_makeGrids 70 = .ok (.imul, 1) := by decide +kernel
theorem d_makeGrids_71 : decode c_M_makeGrids 71 = .ok (.iload 4, 2) := by decide +kernel
theorem d_makeGrids_73 : decode c_M_makeGrids 73 = .ok (.iadd, 1) := by decide +kernel
theorem d_makeGrids_74 : decode c_M_makeGrids 74 = .ok (.aload_n 0, 1) := by decide +kernel
theorem d_makeGrids_75 : decode c_M_makeGrids 75 = .ok (.getfield 53, 3) := by decide +kernel
theorem d_makeGrids_78 : decode c_M_makeGrids 78 = .ok (.iconst 3, 1) := by decide +kernel
theorem d_makeGrids_79 : decode c_M_makeGrids 79 = .ok (.iload_n 1, 1) := by decide +kernel
theorem d_makeGrids_80 : decode c_M_makeGrids 80 = .ok (.imul, 1) := by decide +kernel
theorem d_makeGrids_81 : decode c_M_makeGrids 81 = .ok (.iload 4, 2) := by decide +kernel
theorem d_makeGrids_83 : decode c_M_makeGrids 83 = .ok (.iadd, 1) := by decide +kernel
theorem d_makeGrids_84 : decode c_M_makeGrids 84 = .ok (.iaload, 1) := by decide +kernel
theorem d_makeGrids_85 : decode c_M_makeGrids 85 = .ok (.aload_n 0, 1) := by decide +kernel
theorem d_makeGrids_86 : decode c_M_makeGrids 86 = .ok (.getfield 44, 3) := by decide +kernel
theorem d_makeGrids_89 : decode c_M_makeGrids 89 = .ok (.iload_n 1, 1) := by decide +kernel
theorem d_makeGrids_90 : decode c_M_makeGrids 90 = .ok (.iaload, 1) := by decide +kernel
theorem d_makeGrids_91 : decode c_M_makeGrids 91 = .ok (.bipush 8, 2) := by decide +kernel
theorem d_makeGrids_93 : decode c_M_makeGrids 93 = .ok (.iload_n 3, 1) := by decide +kernel
theorem d_makeGrids_94 : decode c_M_makeGrids 94 = .ok (.imul, 1) := by decide +kernel
theorem d_makeGrids_95 : decode c_M_makeGrids 95 = .ok (.invokestatic 177, 3) := by decide +kernel
theorem d_makeGrids_98 : decode c_M_makeGrids 98 = .ok (.imul, 1) := by decide +kernel
theorem d_makeGrids_99 : decode c_M_makeGrids 99 = .ok (.iastore, 1) := by decide +kernel
theorem d_makeGrids_100 : decode c_M_makeGrids 100 = .ok (.iinc 4 1, 3) := by decide +kernel
theorem d_makeGrids_103 : decode c_M_makeGrids 103 = .ok (.goto (-86), 3) := by decide +kernel
theorem d_makeGrids_106 : decode c_M_makeGrids 106 = .ok (.iconst 0, 1) := by decide +kernel
theorem d_makeGrids_107 : decode c_M_makeGrids 107 = .ok (.istore 4, 2) := by decide +kernel
theorem d_makeGrids_109 : decode c_M_makeGrids 109 = .ok (.iload 4, 2) := by decide +kernel
theorem d_makeGrids_111 : decode c_M_makeGrids 111 = .ok (.sipush 12288, 3) := by decide +kernel
theorem d_makeGrids_114 : decode c_M_makeGrids 114 = .ok (.if_icmp .ge 23, 3) := by decide +kernel
theorem d_makeGrids_117 : decode c_M_makeGrids 117 = .ok (.aload_n 0, 1) := by decide +kernel
theorem d_makeGrids_118 : decode c_M_makeGrids 118 = .ok (.getfield 63, 3) := by decide +kernel
theorem d_makeGrids_121 : decode c_M_makeGrids 121 = .ok (.sipush 12288, 3) := by decide +kernel
theorem d_makeGrids_124 : decode c_M_makeGrids 124 = .ok (.iload_n 1, 1) := by decide +kernel
theorem d_makeGrids_125 : decode c_M_makeGrids 125 = .ok (.imul, 1) := by decide +kernel
theorem d_makeGrids_126 : decode c_M_makeGrids 126 = .ok (.iload 4, 2) := by decide +kernel
theorem d_makeGrids_128 : decode c_M_makeGrids 128 = .ok (.iadd, 1) := by decide +kernel
theorem d_makeGrids_129 : decode c_M_makeGrids 129 = .ok (.iconst 0, 1) := by decide +kernel
theorem d_makeGrids_130 : decode c_M_makeGrids 130 = .ok (.iastore, 1) := by decide +kernel
theorem d_makeGrids_131 : decode c_M_makeGrids 131 = .ok (.iinc 4 1, 3) := by decide +kernel
theorem d_makeGrids_134 : decode c_M_makeGrids 134 = .ok (.goto (-25), 3) := by decide +kernel
theorem d_makeGrids_137 : decode c_M_makeGrids 137 = .ok (.return_, 1) := by decide +kernel
theorem d_layerWide_0 : decode c_M_layerWide 0 = .ok (.aload_n 0, 1) := by decide +kernel
theorem d_layerWide_1 : decode c_M_layerWide 1 = .ok (.getfield 41, 3) := by decide +kernel
theorem d_layerWide_4 : decode c_M_layerWide 4 = .ok (.iload_n 1, 1) := by decide +kernel
theorem d_layerWide_5 : decode c_M_layerWide 5 = .ok (.iaload, 1) := by decide +kernel
theorem d_layerWide_6 : decode c_M_layerWide 6 = .ok (.aload_n 0, 1) := by decide +kernel
theorem d_layerWide_7 : decode c_M_layerWide 7 = .ok (.getfield 50, 3) := by decide +kernel
theorem d_layerWide_10 : decode c_M_layerWide 10 = .ok (.iconst 3, 1) := by decide +kernel
theorem d_layerWide_11 : decode c_M_layerWide 11 = .ok (.iload_n 1, 1) := by decide +kernel
theorem d_layerWide_12 : decode c_M_layerWide 12 = .ok (.imul, 1) := by decide +kernel
theorem d_layerWide_13 : decode c_M_layerWide 13 = .ok (.iload_n 2, 1) := by decide +kernel
theorem d_layerWide_14 : decode c_M_layerWide 14 = .ok (.iadd, 1) := by decide +kernel
theorem d_layerWide_15 : decode c_M_layerWide 15 = .ok (.iaload, 1) := by decide +kernel
theorem d_layerWide_16 : decode c_M_layerWide 16 = .ok (.imul, 1) := by decide +kernel
theorem d_layerWide_17 : decode c_M_layerWide 17 = .ok (.aload_n 0, 1) := by decide +kernel
theorem d_layerWide_18 : decode c_M_layerWide 18 = .ok (.iload_n 1, 1) := by decide +kernel
theorem d_layerWide_19 : decode c_M_layerWide 19 = .ok (.iconst 1, 1) := by decide +kernel
theorem d_layerWide_20 : decode c_M_layerWide 20 = .ok (.invokevirtual 173, 3) := by decide +kernel
theorem d_layerWide_23 : decode c_M_layerWide 23 = .ok (.invokestatic 177, 3) := by decide +kernel
theorem d_layerWide_26 : decode c_M_layerWide 26 = .ok (.ireturn, 1) := by decide +kernel
theorem d_layerHigh_0 : decode c_M_layerHigh 0 = .ok (.aload_n 0, 1) := by decide +kernel
theorem d_layerHigh_1 : decode c_M_layerHigh 1 = .ok (.getfield 44, 3) := by decide +kernel
theorem d_layerHigh_4 : decode c_M_layerHigh 4 = .ok (.iload_n 1, 1) := by decide +kernel
theorem d_layerHigh_5 : decode c_M_layerHigh 5 = .ok (.iaload, 1) := by decide +kernel
theorem d_layerHigh_6 : decode c_M_layerHigh 6 = .ok (.aload_n 0, 1) := by decide +kernel
theorem d_layerHigh_7 : decode c_M_layerHigh 7 = .ok (.getfield 53, 3) := by decide +kernel
theorem d_layerHigh_10 : decode c_M_layerHigh 10 = .ok (.iconst 3, 1) := by decide +kernel
theorem d_layerHigh_11 : decode c_M_layerHigh 11 = .ok (.iload_n 1, 1) := by decide +kernel
theorem d_layerHigh_12 : decode c_M_layerHigh 12 = .ok (.imul, 1) := by decide +kernel
theorem d_layerHigh_13 : decode c_M_layerHigh 13 = .ok (.iload_n 2, 1) := by decide +kernel
theorem d_layerHigh_14 : decode c_M_layerHigh 14 = .ok (.iadd, 1) := by decide +kernel
theorem d_layerHigh_15 : decode c_M_layerHigh 15 = .ok (.iaload, 1) := by decide +kernel
theorem d_layerHigh_16 : decode c_M_layerHigh 16 = .ok (.imul, 1) := by decide +kernel
theorem d_layerHigh_17 : decode c_M_layerHigh 17 = .ok (.aload_n 0, 1) := by decide +kernel
theorem d_layerHigh_18 : decode c_M_layerHigh 18 = .ok (.iload_n 1, 1) := by decide +kernel
theorem d_layerHigh_19 : decode c_M_layerHigh 19 = .ok (.iconst 0, 1) := by decide +kernel
theorem d_layerHigh_20 : decode c_M_layerHigh 20 = .ok (.invokevirtual 173, 3) := by decide +kernel
theorem d_layerHigh_23 : decode c_M_layerHigh 23 = .ok (.invokestatic 177, 3) := by decide +kernel
theorem d_layerHigh_26 : decode c_M_layerHigh 26 = .ok (.ireturn, 1) := by decide +kernel
theorem d_levelCell_0 : decode c_M_levelCell 0 = .ok (.bipush 64, 2) := by decide +kernel
theorem d_levelCell_2 : decode c_M_levelCell 2 = .ok (.bipush 64, 2) := by decide +kernel
theorem d_levelCell_4 : decode c_M_levelCell 4 = .ok (.iconst 3, 1) := by decide +kernel
theorem d_levelCell_5 : decode c_M_levelCell 5 = .ok (.iload_n 0, 1) := by decide +kernel
theorem d_levelCell_6 : decode c_M_levelCell 6 = .ok (.imul, 1) := by decide +kernel
theorem d_levelCell_7 : decode c_M_levelCell 7 = .ok (.iload_n 1, 1) := by decide +kernel
theorem d_levelCell_8 : decode c_M_levelCell 8 = .ok (.iadd, 1) := by decide +kernel
theorem d_levelCell_9 : decode c_M_levelCell 9 = .ok (.imul, 1) := by decide +kernel
theorem d_levelCell_10 : decode c_M_levelCell 10 = .ok (.iload_n 2, 1) := by decide +kernel
theorem d_levelCell_11 : decode c_M_levelCell 11 = .ok (.iadd, 1) := by decide +kernel
theorem d_levelCell_12 : decode c_M_levelCell 12 = .ok (.imul, 1) := by decide +kernel
theorem d_levelCell_13 : decode c_M_levelCell 13 = .ok (.iload_n 3, 1) := by decide +kernel
theorem d_levelCell_14 : decode c_M_levelCell 14 = .ok (.iadd, 1) := by decide +kernel
theorem d_levelCell_15 : decode c_M_levelCell 15 = .ok (.ireturn, 1) := by decide +kernel
theorem d_sampleOf_0 : decode c_M_sampleOf 0 = .ok (.aload_n 0, 1) := by decide +kernel
theorem d_sampleOf_1 : decode c_M_sampleOf 1 = .ok (.getfield 19, 3) := by decide +kernel
theorem d_sampleOf_4 : decode c_M_sampleOf 4 = .ok (.iload_n 1, 1) := by decide +kernel
theorem d_sampleOf_5 : decode c_M_sampleOf 5 = .ok (.iload_n 2, 1) := by decide +kernel
theorem d_sampleOf_6 : decode c_M_sampleOf 6 = .ok (.iconst 0, 1) := by decide +kernel
theorem d_sampleOf_7 : decode c_M_sampleOf 7 = .ok (.invokestatic 161, 3) := by decide +kernel
theorem d_sampleOf_10 : decode c_M_sampleOf 10 = .ok (.iaload, 1) := by decide +kernel
theorem d_sampleOf_11 : decode c_M_sampleOf 11 = .ok (.istore 4, 2) := by decide +kernel
theorem d_sampleOf_13 : decode c_M_sampleOf 13 = .ok (.aload_n 0, 1) := by decide +kernel
theorem d_sampleOf_14 : decode c_M_sampleOf 14 = .ok (.getfield 16, 3) := by decide +kernel
theorem d_sampleOf_17 : decode c_M_sampleOf 17 = .ok (.iconst 1, 1) := by decide +kernel
theorem d_sampleOf_18 : decode c_M_sampleOf 18 = .ok (.if_icmp .ne 6, 3) := by decide +kernel
theorem d_sampleOf_21 : decode c_M_sampleOf 21 = .ok (.iload 4, 2) := by decide +kernel
theorem d_sampleOf_23 : decode c_M_sampleOf 23 = .ok (.ireturn, 1) := by decide +kernel
theorem d_sampleOf_24 : decode c_M_sampleOf 24 = .ok (.aload_n 0, 1) := by decide +kernel
theorem d_sampleOf_25 : decode c_M_sampleOf 25 = .ok (.getfield 19, 3) := by decide +kernel
theorem d_sampleOf_28 : decode c_M_sampleOf 28 = .ok (.iload_n 1, 1) := by decide +kernel
theorem d_sampleOf_29 : decode c_M_sampleOf 29 = .ok (.iload_n 2, 1) := by decide +kernel
theorem d_sampleOf_30 : decode c_M_sampleOf 30 = .ok (.iconst 1, 1) := by decide +kernel
theorem d_sampleOf_31 : decode c_M_sampleOf 31 = .ok (.invokestatic 161, 3) := by decide +kernel
theorem d_sampleOf_34 : decode c_M_sampleOf 34 = .ok (.iaload, 1) := by decide +kernel
theorem d_sampleOf_35 : decode c_M_sampleOf 35 = .ok (.istore 5, 2) := by decide +kernel
theorem d_sampleOf_37 : decode c_M_sampleOf 37 = .ok (.aload_n 0, 1) := by decide +kernel
theorem d_sampleOf_38 : decode c_M_sampleOf 38 = .ok (.getfield 19, 3) := by decide +kernel
theorem d_sampleOf_41 : decode c_M_sampleOf 41 = .ok (.iload_n 1, 1) := by decide +kernel
theorem d_sampleOf_42 : decode c_M_sampleOf 42 = .ok (.iload_n 2, 1) := by decide +kernel
theorem d_sampleOf_43 : decode c_M_sampleOf 43 = .ok (.iconst 2, 1) := by decide +kernel
theorem d_sampleOf_44 : decode c_M_sampleOf 44 = .ok (.invokestatic 161, 3) := by decide +kernel
theorem d_sampleOf_47 : decode c_M_sampleOf 47 = .ok (.iaload, 1) := by decide +kernel
theorem d_sampleOf_48 : decode c_M_sampleOf 48 = .ok (.istore 6, 2) := by decide +kernel
theorem d_sampleOf_50 : decode c_M_sampleOf 50 = .ok (.iload_n 3, 1) := by decide +kernel
theorem d_sampleOf_51 : decode c_M_sampleOf 51 = .ok (.ifCond .ne 31, 3) := by decide +kernel
theorem d_sampleOf_54 : decode c_M_sampleOf 54 = .ok (.sipush 19595, 3) := by decide +kernel
theorem d_sampleOf_57 : decode c_M_sampleOf 57 = .ok (.iload 4, 2) := by decide +kernel
theorem d_sampleOf_59 : decode c_M_sampleOf 59 = .ok (.imul, 1) := by decide +kernel
theorem d_sampleOf_60 : decode c_M_sampleOf 60 = .ok (.ldc 180, 2) := by decide +kernel
theorem d_sampleOf_62 : decode c_M_sampleOf 62 = .ok (.iload 5, 2) := by decide +kernel
theorem d_sampleOf_64 : decode c_M_sampleOf 64 = .ok (.imul, 1) := by decide +kernel
theorem d_sampleOf_65 : decode c_M_sampleOf 65 = .ok (.iadd, 1) := by decide +kernel
theorem d_sampleOf_66 : decode c_M_sampleOf 66 = .ok (.sipush 7471, 3) := by decide +kernel
theorem d_sampleOf_69 : decode c_M_sampleOf 69 = .ok (.iload 6, 2) := by decide +kernel
theorem d_sampleOf_71 : decode c_M_sampleOf 71 = .ok (.imul, 1) := by decide +kernel
theorem d_sampleOf_72 : decode c_M_sampleOf 72 = .ok (.iadd, 1) := by decide +kernel
theorem d_sampleOf_73 : decode c_M_sampleOf 73 = .ok (.ldc 26, 2) := by decide +kernel
theorem d_sampleOf_75 : decode c_M_sampleOf 75 = .ok (.iadd, 1) := by decide +kernel
theorem d_sampleOf_76 : decode c_M_sampleOf 76 = .ok (.bipush 16, 2) := by decide +kernel
theorem d_sampleOf_78 : decode c_M_sampleOf 78 = .ok (.ishr, 1) := by decide +kernel
theorem d_sampleOf_79 : decode c_M_sampleOf 79 = .ok (.goto 69, 3) := by decide +kernel
theorem d_sampleOf_82 : decode c_M_sampleOf 82 = .ok (.iload_n 3, 1) := by decide +kernel
theorem d_sampleOf_83 : decode c_M_sampleOf 83 = .ok (.iconst 1, 1) := by decide +kernel
theorem d_sampleOf_84 : decode c_M_sampleOf 84 = .ok (.if_icmp .ne 35, 3) := by decide +kernel
theorem d_sampleOf_87 : decode c_M_sampleOf 87 = .ok (.sipush 128, 3) := by decide +kernel
theorem d_sampleOf_90 : decode c_M_sampleOf 90 = .ok (.sipush (-11059), 3) := by decide +kernel
theorem d_sampleOf_93 : decode c_M_sampleOf 93 = .ok (.iload 4, 2) := by decide +kernel
theorem d_sampleOf_95 : decode c_M_sampleOf 95 = .ok (.imul, 1) := by decide +kernel
theorem d_sampleOf_96 : decode c_M_sampleOf 96 = .ok (.sipush 21709, 3) := by decide +kernel
theorem d_sampleOf_99 : decode c_M_sampleOf 99 = .ok (.iload 5, 2) := by decide +kernel
theorem d_sampleOf_101 : decode c_M_sampleOf 101 = .ok (.imul, 1) := by decide +kernel
theorem d_sampleOf_102 : decode c_M_sampleOf 102 = .ok (.isub, 1) := by decide +kernel
theorem d_sampleOf_103 : decode c_M_sampleOf 103 = .ok (.ldc 26, 2) := by decide +kernel
theorem d_sampleOf_105 : decode c_M_sampleOf 105 = .ok (.iload 6, 2) := by decide +kernel
theorem d_sampleOf_107 : decode c_M_sampleOf 107 = .ok (.imul, 1) := by decide +kernel
theorem d_sampleOf_108 : decode c_M_sampleOf 108 = .ok (.iadd, 1) := by decide +kernel
theorem d_sampleOf_109 : decode c_M_sampleOf 109 = .ok (.ldc 26, 2) := by decide +kernel
theorem d_sampleOf_111 : decode c_M_sampleOf 111 = .ok (.iadd, 1) := by decide +kernel
theorem d_sampleOf_112 : decode c_M_sampleOf 112 = .ok (.bipush 16, 2) := by decide +kernel
theorem d_sampleOf_114 : decode c_M_sampleOf 114 = .ok (.ishr, 1) := by decide +kernel
theorem d_sampleOf_115 : decode c_M_sampleOf 115 = .ok (.iadd, 1) := by decide +kernel
theorem d_sampleOf_116 : decode c_M_sampleOf 116 = .ok (.goto 32, 3) := by decide +kernel
theorem d_sampleOf_119 : decode c_M_sampleOf 119 = .ok (.sipush 128, 3) := by decide +kernel
theorem d_sampleOf_122 : decode c_M_sampleOf 122 = .ok (.ldc 26, 2) := by decide +kernel
theorem d_sampleOf_124 : decode c_M_sampleOf 124 = .ok (.iload 4, 2) := by decide +kernel
theorem d_sampleOf_126 : decode c_M_sampleOf 126 = .ok (.imul, 1) := by decide +kernel
theorem d_sampleOf_127 : decode c_M_sampleOf 127 = .ok (.sipush 27439, 3) := by decide +kernel
theorem d_sampleOf_130 : decode c_M_sampleOf 130 = .ok (.iload 5, 2) := by decide +kernel
theorem d_sampleOf_132 : decode c_M_sampleOf 132 = .ok (.imul, 1) := by decide +kernel
theorem d_sampleOf_133 : decode c_M_sampleOf 133 = .ok (.isub, 1) := by decide +kernel
theorem d_sampleOf_134 : decode c_M_sampleOf 134 = .ok (.sipush 5329, 3) := by decide +kernel
theorem d_sampleOf_137 : decode c_M_sampleOf 137 = .ok (.iload 6, 2) := by decide +kernel
theorem d_sampleOf_139 : decode c_M_sampleOf 139 = .ok (.imul, 1) := by decide +kernel
theorem d_sampleOf_140 : decode c_M_sampleOf 140 = .ok (.isub, 1) := by decide +kernel
theorem d_sampleOf_141 : decode c_M_sampleOf 141 = .ok (.ldc 26, 2) := by decide +kernel
theorem d_sampleOf_143 : decode c_M_sampleOf 143 = .ok (.iadd, 1) := by decide +kernel
theorem d_sampleOf_144 : decode c_M_sampleOf 144 = .ok (.bipush 16, 2) := by decide +kernel
theorem d_sampleOf_146 : decode c_M_sampleOf 146 = .ok (.ishr, 1) := by decide +kernel
theorem d_sampleOf_147 : decode c_M_sampleOf 147 = .ok (.iadd, 1) := by decide +kernel
theorem d_sampleOf_148 : decode c_M_sampleOf 148 = .ok (.istore 7, 2) := by decide +kernel
theorem d_sampleOf_150 : decode c_M_sampleOf 150 = .ok (.iload 7, 2) := by decide +kernel
theorem d_sampleOf_152 : decode c_M_sampleOf 152 = .ok (.sipush 255, 3) := by decide +kernel
theorem d_sampleOf_155 : decode c_M_sampleOf 155 = .ok (.if_icmp .le 9, 3) := by decide +kernel
theorem d_sampleOf_158 : decode c_M_sampleOf 158 = .ok (.sipush 255, 3) := by decide +kernel
theorem d_sampleOf_161 : decode c_M_sampleOf 161 = .ok (.goto 5, 3) := by decide +kernel
theorem d_sampleOf_164 : decode c_M_sampleOf 164 = .ok (.iload 7, 2) := by decide +kernel
theorem d_sampleOf_166 : decode c_M_sampleOf 166 = .ok (.ireturn, 1) := by decide +kernel
theorem d_makeRaster_0 : decode c_M_makeRaster 0 = .ok (.aload_n 0, 1) := by decide +kernel
theorem d_makeRaster_1 : decode c_M_makeRaster 1 = .ok (.iconst 0, 1) := by decide +kernel
theorem d_makeRaster_2 : decode c_M_makeRaster 2 = .ok (.iconst 1, 1) := by decide +kernel
theorem d_makeRaster_3 : decode c_M_makeRaster 3 = .ok (.invokevirtual 173, 3) := by decide +kernel
theorem d_makeRaster_6 : decode c_M_makeRaster 6 = .ok (.aload_n 0, 1) := by decide +kernel
theorem d_makeRaster_7 : decode c_M_makeRaster 7 = .ok (.getfield 50, 3) := by decide +kernel
theorem d_makeRaster_10 : decode c_M_makeRaster 10 = .ok (.iload_n 1, 1) := by decide +kernel
theorem d_makeRaster_11 : decode c_M_makeRaster 11 = .ok (.iaload, 1) := by decide +kernel
theorem d_makeRaster_12 : decode c_M_makeRaster 12 = .ok (.idiv, 1) := by decide +kernel
theorem d_makeRaster_13 : decode c_M_makeRaster 13 = .ok (.istore_n 2, 1) := by decide +kernel
theorem d_makeRaster_14 : decode c_M_makeRaster 14 = .ok (.aload_n 0, 1) := by decide +kernel
theorem d_makeRaster_15 : decode c_M_makeRaster 15 = .ok (.iconst 0, 1) := by decide +kernel
theorem d_makeRaster_16 : decode c_M_makeRaster 16 = .ok (.iconst 0, 1) := by decide +kernel
theorem d_makeRaster_17 : decode c_M_makeRaster 17 = .ok (.invokevirtual 173, 3) := by decide +kernel
theorem d_makeRaster_20 : decode c_M_makeRaster 20 = .ok (.aload_n 0, 1) := by decide +kernel
theorem d_makeRaster_21 : decode c_M_makeRaster 21 = .ok (.getfield 53, 3) := by decide +kernel
theorem d_makeRaster_24 : decode c_M_makeRaster 24 = .ok (.iload_n 1, 1) := by decide +kernel
theorem d_makeRaster_25 : decode c_M_makeRaster 25 = .ok (.iaload, 1) := by decide +kernel
theorem d_makeRaster_26 : decode c_M_makeRaster 26 = .ok (.idiv, 1) := by decide +kernel
theorem d_makeRaster_27 : decode c_M_makeRaster 27 = .ok (.istore_n 3, 1) := by decide +kernel
theorem d_makeRaster_28 : decode c_M_makeRaster 28 = .ok (.iload_n 2, 1) := by decide +kernel
theorem d_makeRaster_29 : decode c_M_makeRaster 29 = .ok (.iload_n 3, 1) := by decide +kernel
theorem d_makeRaster_30 : decode c_M_makeRaster 30 = .ok (.imul, 1) := by decide +kernel
theorem d_makeRaster_31 : decode c_M_makeRaster 31 = .ok (.istore 4, 2) := by decide +kernel
theorem d_makeRaster_33 : decode c_M_makeRaster 33 = .ok (.iconst 0, 1) := by decide +kernel
theorem d_makeRaster_34 : decode c_M_makeRaster 34 = .ok (.istore 5, 2) := by decide +kernel
theorem d_makeRaster_36 : decode c_M_makeRaster 36 = .ok (.iload 5, 2) := by decide +kernel
theorem d_makeRaster_38 : decode c_M_makeRaster 38 = .ok (.aload_n 0, 1) := by decide +kernel
theorem d_makeRaster_39 : decode c_M_makeRaster 39 = .ok (.iconst 0, 1) := by decide +kernel
theorem d_makeRaster_40 : decode c_M_makeRaster 40 = .ok (.iload_n 1, 1) := by decide +kernel
theorem d_makeRaster_41 : decode c_M_makeRaster 41 = .ok (.invokevirtual 181, 3) := by decide +kernel
theorem d_makeRaster_44 : decode c_M_makeRaster 44 = .ok (.if_icmp .ge 151, 3) := by decide +kernel
theorem d_makeRaster_47 : decode c_M_makeRaster 47 = .ok (.iconst 0, 1) := by decide +kernel
theorem d_makeRaster_48 : decode c_M_makeRaster 48 = .ok (.istore 6, 2) := by decide +kernel
theorem d_makeRaster_50 : decode c_M_makeRaster 50 = .ok (.iload 6, 2) := by decide +kernel
theorem d_makeRaster_52 : decode c_M_makeRaster 52 = .ok (.aload_n 0, 1) := by decide +kernel
theorem d_makeRaster_53 : decode c_M_makeRaster 53 = .ok (.iconst 0, 1) := by decide +kernel
theorem d_makeRaster_54 : decode c_M_makeRaster 54 = .ok (.iload_n 1, 1) := by decide +kernel
theorem d_makeRaster_55 : decode c_M_makeRaster 55 = .ok (.invokevirtual 184, 3) := by decide +kernel
theorem d_makeRaster_58 : decode c_M_makeRaster 58 = .ok (.if_icmp .ge 131, 3) := by decide +kernel
theorem d_makeRaster_61 : decode c_M_makeRaster 61 = .ok (.iload 4, 2) := by decide +kernel
theorem d_makeRaster_63 : decode c_M_makeRaster 63 = .ok (.iconst 2, 1) := by decide +kernel
theorem d_makeRaster_64 : decode c_M_makeRaster 64 = .ok (.idiv, 1) := by decide +kernel
theorem d_makeRaster_65 : decode c_M_makeRaster 65 = .ok (.istore 7, 2) := by decide +kernel
theorem d_makeRaster_67 : decode c_M_makeRaster 67 = .ok (.iconst 0, 1) := by decide +kernel
theorem d_makeRaster_68 : decode c_M_makeRaster 68 = .ok (.istore 8, 2) := by decide +kernel
theorem d_makeRaster_70 : decode c_M_makeRaster 70 = .ok (.iload 8, 2) := by decide +kernel
theorem d_makeRaster_72 : decode c_M_makeRaster 72 = .ok (.iload_n 3, 1) := by decide +kernel
theorem d_makeRaster_73 : decode c_M_makeRaster 73 = .ok (.if_icmp .ge 92, 3) := by decide +kernel
theorem d_makeRaster_76 : decode c_M_makeRaster 76 = .ok (.iconst 0, 1) := by decide +kernel
theorem d_makeRaster_77 : decode c_M_makeRaster 77 = .ok (.istore 9, 2) := by decide +kernel
theorem d_makeRaster_79 : decode c_M_makeRaster 79 = .ok (.iload 9, 2) := by decide +kernel
theorem d_makeRaster_81 : decode c_M_makeRaster 81 = .ok (.iload_n 2, 1) := by decide +kernel
theorem d_makeRaster_82 : decode c_M_makeRaster 82 = .ok (.if_icmp .ge 77, 3) := by decide +kernel
theorem d_makeRaster_85 : decode c_M_makeRaster 85 = .ok (.iload 6, 2) := by decide +kernel
theorem d_makeRaster_87 : decode c_M_makeRaster 87 = .ok (.iload_n 2, 1) := by decide +kernel
theorem d_makeRaster_88 : decode c_M_makeRaster 88 = .ok (.imul, 1) := by decide +kernel
theorem d_makeRaster_89 : decode c_M_makeRaster 89 = .ok (.iload 9, 2) := by decide +kernel
theorem d_makeRaster_91 : decode c_M_makeRaster 91 = .ok (.iadd, 1) := by decide +kernel
theorem d_makeRaster_92 : decode c_M_makeRaster 92 = .ok (.istore 10, 2) := by decide +kernel
theorem d_makeRaster_94 : decode c_M_makeRaster 94 = .ok (.iload 5, 2) := by decide +kernel
theorem d_makeRaster_96 : decode c_M_makeRaster 96 = .ok (.iload_n 3, 1) := by decide +kernel
theorem d_makeRaster_97 : decode c_M_makeRaster 97 = .ok (.imul, 1) := by decide +kernel
theorem d_makeRaster_98 : decode c_M_makeRaster 98 = .ok (.iload 8, 2) := by decide +kernel
theorem d_makeRaster_100 : decode c_M_makeRaster 100 = .ok (.iadd, 1) := by decide +kernel
theorem d_makeRaster_101 : decode c_M_makeRaster 101 = .ok (.istore 11, 2) := by decide +kernel
theorem d_makeRaster_103 : decode c_M_makeRaster 103 = .ok (.iload 7, 2) := by decide +kernel
theorem d_makeRaster_105 : decode c_M_makeRaster 105 = .ok (.aload_n 0, 1) := by decide +kernel
theorem d_makeRaster_106 : decode c_M_makeRaster 106 = .ok (.iload 10, 2) := by decide +kernel
theorem d_makeRaster_108 : decode c_M_makeRaster 108 = .ok (.aload_n 0, 1) := by decide +kernel
theorem d_makeRaster_109 : decode c_M_makeRaster 109 = .ok (.getfield 7, 3) := by decide +kernel
theorem d_makeRaster_112 : decode c_M_makeRaster 112 = .ok (.if_icmp .ge 8, 3) := by decide +kernel
theorem d_makeRaster_115 : decode c_M_makeRaster 115 = .ok (.iload 10, 2) := by decide +kernel
theorem d_makeRaster_117 : decode c_M_makeRaster 117 = .ok (.goto 9, 3) := by decide +kernel
theorem d_makeRaster_120 : decode c_M_makeRaster 120 = .ok (.aload_n 0, 1) := by decide +kernel
theorem d_makeRaster_121 : decode c_M_makeRaster 121 = .ok (.getfield 7, 3) := by decide +kernel
theorem d_makeRaster_124 : decode c_M_makeRaster 124 = .ok (.iconst 1, 1) := by decide +kernel
theorem d_makeRaster_125 : decode c_M_makeRaster 125 = .ok (.isub, 1) := by decide +kernel
theorem d_makeRaster_126 : decode c_M_makeRaster 126 = .ok (.iload 11, 2) := by decide +kernel
theorem d_makeRaster_128 : decode c_M_makeRaster 128 = .ok (.aload_n 0, 1) := by decide +kernel
theorem d_makeRaster_129 : decode c_M_makeRaster 129 = .ok (.getfield 13, 3) := by decide +kernel
theorem d_makeRaster_132 : decode c_M_makeRaster 132 = .ok (.if_icmp .ge 8, 3) := by decide +kernel
theorem d_makeRaster_135 : decode c_M_makeRaster 135 = .ok (.iload 11, 2) := by decide +kernel
theorem d_makeRaster_137 : decode c_M_makeRaster 137 = .ok (.goto 9, 3) := by decide +kernel
theorem d_makeRaster_140 : decode c_M_makeRaster 140 = .ok (.aload_n 0, 1) := by decide +kernel
theorem d_makeRaster_141 : decode c_M_makeRaster 141 = .ok (.getfield 13, 3) := by decide +kernel
theorem d_makeRaster_144 : decode c_M_makeRaster 144 = .ok (.iconst 1, 1) := by decide +kernel
theorem d_makeRaster_145 : decode c_M_makeRaster 145 = .ok (.isub, 1) := by decide +kernel
theorem d_makeRaster_146 : decode c_M_makeRaster 146 = .ok (.iload_n 1, 1) := by decide +kernel
theorem d_makeRaster_147 : decode c_M_makeRaster 147 = .ok (.invokevirtual 187, 3) := by decide +kernel
theorem d_makeRaster_150 : decode c_M_makeRaster 150 = .ok (.iadd, 1) := by decide +kernel
theorem d_makeRaster_151 : decode c_M_makeRaster 151 = .ok (.istore 7, 2) := by decide +kernel
theorem d_makeRaster_153 : decode c_M_makeRaster 153 = .ok (.iinc 9 1, 3) := by decide +kernel
theorem d_makeRaster_156 : decode c_M_makeRaster 156 = .ok (.goto (-77), 3) := by decide +kernel
theorem d_makeRaster_159 : decode c_M_makeRaster 159 = .ok (.iinc 8 1, 3) := by decide +kernel
theorem d_makeRaster_162 : decode c_M_makeRaster 162 = .ok (.goto (-92), 3) := by decide +kernel
theorem d_makeRaster_165 : decode c_M_makeRaster 165 = .ok (.aload_n 0, 1) := by decide +kernel
theorem d_makeRaster_166 : decode c_M_makeRaster 166 = .ok (.getfield 69, 3) := by decide +kernel
theorem d_makeRaster_169 : decode c_M_makeRaster 169 = .ok (.bipush 64, 2) := by decide +kernel
theorem d_makeRaster_171 : decode c_M_makeRaster 171 = .ok (.iload 5, 2) := by decide +kernel
theorem d_makeRaster_173 : decode c_M_makeRaster 173 = .ok (.imul, 1) := by decide +kernel
theorem d_makeRaster_174 : decode c_M_makeRaster 174 = .ok (.iload 6, 2) := by decide +kernel
theorem d_makeRaster_176 : decode c_M_makeRaster 176 = .ok (.iadd, 1) := by decide +kernel
theorem d_makeRaster_177 : decode c_M_makeRaster 177 = .ok (.iload 7, 2) := by decide +kernel
theorem d_makeRaster_179 : decode c_M_makeRaster 179 = .ok (.iload 4, 2) := by decide +kernel
theorem d_makeRaster_181 : decode c_M_makeRaster 181 = .ok (.idiv, 1) := by decide +kernel
theorem d_makeRaster_182 : decode c_M_makeRaster 182 = .ok (.iastore, 1) := by decide +kernel
theorem d_makeRaster_183 : decode c_M_makeRaster 183 = .ok (.iinc 6 1, 3) := by decide +kernel
theorem d_makeRaster_186 : decode c_M_makeRaster 186 = .ok (.goto (-136), 3) := by decide +kernel
theorem d_makeRaster_189 : decode c_M_makeRaster 189 = .ok (.iinc 5 1, 3) := by decide +kernel
theorem d_makeRaster_192 : decode c_M_makeRaster 192 = .ok (.goto (-156), 3) := by decide +kernel
theorem d_makeRaster_195 : decode c_M_makeRaster 195 = .ok (.return_, 1) := by decide +kernel
theorem d_makeLevels_0 : decode c_M_makeLevels 0 = .ok (.aload_n 0, 1) := by decide +kernel
theorem d_makeLevels_1 : decode c_M_makeLevels 1 = .ok (.iconst 0, 1) := by decide +kernel
theorem d_makeLevels_2 : decode c_M_makeLevels 2 = .ok (.iload_n 1, 1) := by decide +kernel
theorem d_makeLevels_3 : decode c_M_makeLevels 3 = .ok (.invokevirtual 184, 3) := by decide +kernel
theorem d_makeLevels_6 : decode c_M_makeLevels 6 = .ok (.iconst 1, 1) := by decide +kernel
theorem d_makeLevels_7 : decode c_M_makeLevels 7 = .ok (.isub, 1) := by decide +kernel
theorem d_makeLevels_8 : decode c_M_makeLevels 8 = .ok (.istore_n 3, 1) := by decide +kernel
theorem d_makeLevels_9 : decode c_M_makeLevels 9 = .ok (.aload_n 0, 1) := by decide +kernel
theorem d_makeLevels_10 : decode c_M_makeLevels 10 = .ok (.iconst 0, 1) := by decide +kernel
theorem d_makeLevels_11 : decode c_M_makeLevels 11 = .ok (.iload_n 1, 1) := by decide +kernel
theorem d_makeLevels_12 : decode c_M_makeLevels 12 = .ok (.invokevirtual 181, 3) := by decide +kernel
theorem d_makeLevels_15 : decode c_M_makeLevels 15 = .ok (.iconst 1, 1) := by decide +kernel
theorem d_makeLevels_16 : decode c_M_makeLevels 16 = .ok (.isub, 1) := by decide +kernel
theorem d_makeLevels_17 : decode c_M_makeLevels 17 = .ok (.istore 4, 2) := by decide +kernel
theorem d_makeLevels_19 : decode c_M_makeLevels 19 = .ok (.bipush 8, 2) := by decide +kernel
theorem d_makeLevels_21 : decode c_M_makeLevels 21 = .ok (.iload_n 2, 1) := by decide +kernel
theorem d_makeLevels_22 : decode c_M_makeLevels 22 = .ok (.aload_n 0, 1) := by decide +kernel
theorem d_makeLevels_23 : decode c_M_makeLevels 23 = .ok (.getfield 56, 3) := by decide +kernel
theorem d_makeLevels_26 : decode c_M_makeLevels 26 = .ok (.iload_n 1, 1) := by decide +kernel
theorem d_makeLevels_27 : decode c_M_makeLevels 27 = .ok (.iaload, 1) := by decide +kernel
theorem d_makeLevels_28 : decode c_M_makeLevels 28 = .ok (.irem, 1) := by decide +kernel
theorem d_makeLevels_29 : decode c_M_makeLevels 29 = .ok (.imul, 1) := by decide +kernel
theorem d_makeLevels_30 : decode c_M_makeLevels 30 = .ok (.istore 5, 2) := by decide +kernel
theorem d_makeLevels_32 : decode c_M_makeLevels 32 = .ok (.bipush 8, 2) := by decide +kernel
theorem d_makeLevels_34 : decode c_M_makeLevels 34 = .ok (.iload_n 2, 1) := by decide +kernel
theorem d_makeLevels_35 : decode c_M_makeLevels 35 = .ok (.aload_n 0, 1) := by decide +kernel
theorem d_makeLevels_36 : decode c_M_makeLevels 36 = .ok (.getfield 56, 3) := by decide +kernel
theorem d_makeLevels_39 : decode c_M_makeLevels 39 = .ok (.iload_n 1, 1) := by decide +kernel
theorem d_makeLevels_40 : decode c_M_makeLevels 40 = .ok (.iaload, 1) := by decide +kernel
theorem d_makeLevels_41 : decode c_M_makeLevels 41 = .ok (.idiv, 1) := by decide +kernel
theorem d_makeLevels_42 : decode c_M_makeLevels 42 = .ok (.imul, 1) := by decide +kernel
theorem d_makeLevels_43 : decode c_M_makeLevels 43 = .ok (.istore 6, 2) := by decide +kernel
theorem d_makeLevels_45 : decode c_M_makeLevels 45 = .ok (.iconst 0, 1) := by decide +kernel
theorem d_makeLevels_46 : decode c_M_makeLevels 46 = .ok (.istore 7, 2) := by decide +kernel
theorem d_makeLevels_48 : decode c_M_makeLevels 48 = .ok (.iload 7, 2) := by decide +kernel
theorem d_makeLevels_50 : decode c_M_makeLevels 50 = .ok (.bipush 64, 2) := by decide +kernel
theorem d_makeLevels_52 : decode c_M_makeLevels 52 = .ok (.if_icmp .ge 71, 3) := by decide +kernel
theorem d_makeLevels_55 : decode c_M_makeLevels 55 = .ok (.iload 5, 2) := by decide +kernel
theorem d_makeLevels_57 : decode c_M_makeLevels 57 = .ok (.iload 7, 2) := by decide +kernel
theorem d_makeLevels_59 : decode c_M_makeLevels 59 = .ok (.bipush 8, 2) := by decide +kernel
theorem d_makeLevels_61 : decode c_M_makeLevels 61 = .ok (.irem, 1) := by decide +kernel
theorem d_makeLevels_62 : decode c_M_makeLevels 62 = .ok (.iadd, 1) := by decide +kernel
theorem d_makeLevels_63 : decode c_M_makeLevels 63 = .ok (.istore 8, 2) := by decide +kernel
theorem d_makeLevels_65 : decode c_M_makeLevels 65 = .ok (.iload 6, 2) := by decide +kernel
theorem d_makeLevels_67 : decode c_M_makeLevels 67 = .ok (.iload 7, 2) := by decide +kernel
theorem d_makeLevels_69 : decode c_M_makeLevels 69 = .ok (.bipush 8, 2) := by decide +kernel
theorem d_makeLevels_71 : decode c_M_makeLevels 71 = .ok (.idiv, 1) := by decide +kernel
theorem d_makeLevels_72 : decode c_M_makeLevels 72 = .ok (.iadd, 1) := by decide +kernel
theorem d_makeLevels_73 : decode c_M_makeLevels 73 = .ok (.istore 9, 2) := by decide +kernel
theorem d_makeLevels_75 : decode c_M_makeLevels 75 = .ok (.aload_n 0, 1) := by decide +kernel
theorem d_makeLevels_76 : decode c_M_makeLevels 76 = .ok (.getfield 82, 3) := by decide +kernel
theorem d_makeLevels_79 : decode c_M_makeLevels 79 = .ok (.iload 7, 2) := by decide +kernel
theorem d_makeLevels_81 : decode c_M_makeLevels 81 = .ok (.aload_n 0, 1) := by decide +kernel
theorem d_makeLevels_82 : decode c_M_makeLevels 82 = .ok (.getfield 69, 3) := by decide +kernel
theorem d_makeLevels_85 : decode c_M_makeLevels 85 = .ok (.bipush 64, 2) := by decide +kernel
theorem d_makeLevels_87 : decode c_M_makeLevels 87 = .ok (.iload 9, 2) := by decide +kernel
theorem d_makeLevels_89 : decode c_M_makeLevels 89 = .ok (.iload 4, 2) := by decide +kernel
theorem d_makeLevels_91 : decode c_M_makeLevels 91 = .ok (.if_icmp .ge 8, 3) := by decide +kernel
theorem d_makeLevels_94 : decode c_M_makeLevels 94 = .ok (.iload 9, 2) := by decide +kernel
theorem d_makeLevels_96 : decode c_M_makeLevels 96 = .ok (.goto 5, 3) := by decide +kernel
theorem d_makeLevels_99 : decode c_M_makeLevels 99 = .ok (.iload 4, 2) := by decide +kernel
theorem d_makeLevels_101 : decode c_M_makeLevels 101 = .ok (.imul, 1) := by decide +kernel
theorem d_makeLevels_102 : decode c_M_makeLevels 102 = .ok (.iload 8, 2) := by decide +kernel
theorem d_makeLevels_104 : decode c_M_makeLevels 104 = .ok (.iload_n 3, 1) := by decide +kernel
theorem d_makeLevels_105 : decode c_M_makeLevels 105 = .ok (.if_icmp .ge 8, 3) := by decide +kernel
theorem d_makeLevels_108 : decode c_M_makeLevels 108 = .ok (.iload 8, 2) := by decide +kernel
theorem d_makeLevels_110 : decode c_M_makeLevels 110 = .ok (.goto 4, 3) := by decide +kernel
theorem d_makeLevels_113 : decode c_M_makeLevels 113 = .ok (.iload_n 3, 1) := by decide +kernel
theorem d_makeLevels_114 : decode c_M_makeLevels 114 = .ok (.iadd, 1) := by decide +kernel
theorem d_makeLevels_115 : decode c_M_makeLevels 115 = .ok (.iaload, 1) := by decide +kernel
theorem d_makeLevels_116 : decode c_M_makeLevels 116 = .ok (.iastore, 1) := by decide +kernel
theorem d_makeLevels_117 : decode c_M_makeLevels 117 = .ok (.iinc 7 1, 3) := by decide +kernel
theorem d_makeLevels_120 : decode c_M_makeLevels 120 = .ok (.goto (-72), 3) := by decide +kernel
theorem d_makeLevels_123 : decode c_M_makeLevels 123 = .ok (.aload_n 0, 1) := by decide +kernel
theorem d_makeLevels_124 : decode c_M_makeLevels 124 = .ok (.invokevirtual 190, 3) := by decide +kernel
theorem d_makeLevels_127 : decode c_M_makeLevels 127 = .ok (.iconst 0, 1) := by decide +kernel
theorem d_makeLevels_128 : decode c_M_makeLevels 128 = .ok (.istore 7, 2) := by decide +kernel
theorem d_makeLevels_130 : decode c_M_makeLevels 130 = .ok (.iload 7, 2) := by decide +kernel
theorem d_makeLevels_132 : decode c_M_makeLevels 132 = .ok (.bipush 64, 2) := by decide +kernel
theorem d_makeLevels_134 : decode c_M_makeLevels 134 = .ok (.if_icmp .ge 97, 3) := by decide +kernel
theorem d_makeLevels_137 : decode c_M_makeLevels 137 = .ok (.aload_n 0, 1) := by decide +kernel
theorem d_makeLevels_138 : decode c_M_makeLevels 138 = .ok (.getfield 82, 3) := by decide +kernel
theorem d_makeLevels_141 : decode c_M_makeLevels 141 = .ok (.aload_n 0, 1) := by decide +kernel
theorem d_makeLevels_142 : decode c_M_makeLevels 142 = .ok (.getfield 72, 3) := by decide +kernel
theorem d_makeLevels_145 : decode c_M_makeLevels 145 = .ok (.iload 7, 2) := by decide +kernel
theorem d_makeLevels_147 : decode c_M_makeLevels 147 = .ok (.iaload, 1) := by decide +kernel
theorem d_makeLevels_148 : decode c_M_makeLevels 148 = .ok (.iaload, 1) := by decide +kernel
theorem d_makeLevels_149 : decode c_M_makeLevels 149 = .ok (.istore 8, 2) := by decide +kernel
theorem d_makeLevels_151 : decode c_M_makeLevels 151 = .ok (.aload_n 0, 1) := by decide +kernel
theorem d_makeLevels_152 : decode c_M_makeLevels 152 = .ok (.getfield 23, 3) := by decide +kernel
theorem d_makeLevels_155 : decode c_M_makeLevels 155 = .ok (.iload_n 1, 1) := by decide +kernel
theorem d_makeLevels_156 : decode c_M_makeLevels 156 = .ok (.ifCond .ne 7, 3) := by decide +kernel
theorem d_makeLevels_159 : decode c_M_makeLevels 159 = .ok (.iconst 0, 1) := by decide +kernel
theorem d_makeLevels_160 : decode c_M_makeLevels 160 = .ok (.goto 5, 3) := by decide +kernel
theorem d_makeLevels_163 : decode c_M_makeLevels 163 = .ok (.bipush 64, 2) := by decide +kernel
theorem d_makeLevels_165 : decode c_M_makeLevels 165 = .ok (.aload_n 0, 1) := by decide +kernel
theorem d_makeLevels_166 : decode c_M_makeLevels 166 = .ok (.getfield 72, 3) := by decide +kernel
theorem d_makeLevels_169 : decode c_M_makeLevels 169 = .ok (.iload 7, 2) := by decide +kernel
theorem d_makeLevels_171 : decode c_M_makeLevels 171 = .ok (.iaload, 1) := by decide +kernel
theorem d_makeLevels_172 : decode c_M_makeLevels 172 = .ok (.iadd, 1) := by decide +kernel
theorem d_makeLevels_173 : decode c_M_makeLevels 173 = .ok (.iaload, 1) := by decide +kernel
theorem d_makeLevels_174 : decode c_M_makeLevels 174 = .ok (.istore 9, 2) := by decide +kernel
theorem d_makeLevels_176 : decode c_M_makeLevels 176 = .ok (.iload 8, 2) := by decide +kernel
theorem d_makeLevels_178 : decode c_M_makeLevels 178 = .ok (.ifCond .ge 9, 3) := by decide +kernel
theorem d_makeLevels_181 : decode c_M_makeLevels 181 = .ok (.iload 8, 2) := by decide +kernel
theorem d_makeLevels_183 : decode c_M_makeLevels 183 = .ok (.ineg, 1) := by decide +kernel
theorem d_makeLevels_184 : decode c_M_makeLevels 184 = .ok (.goto 5, 3) := by decide +kernel
theorem d_makeLevels_187 : decode c_M_makeLevels 187 = .ok (.iload 8, 2) := by decide +kernel
theorem d_makeLevels_189 : decode c_M_makeLevels 189 = .ok (.iload 9, 2) := by decide +kernel
theorem d_makeLevels_191 : decode c_M_makeLevels 191 = .ok (.iconst 2, 1) := by decide +kernel
theorem d_makeLevels_192 : decode c_M_makeLevels 192 = .ok (.idiv, 1) := by decide +kernel
theorem d_makeLevels_193 : decode c_M_makeLevels 193 = .ok (.iadd, 1) := by decide +kernel
theorem d_makeLevels_194 : decode c_M_makeLevels 194 = .ok (.iload 9, 2) := by decide +kernel
theorem d_makeLevels_196 : decode c_M_makeLevels 196 = .ok (.idiv, 1) := by decide +kernel
theorem d_makeLevels_197 : decode c_M_makeLevels 197 = .ok (.istore 10, 2) := by decide +kernel
theorem d_makeLevels_199 : decode c_M_makeLevels 199 = .ok (.aload_n 0, 1) := by decide +kernel
theorem d_makeLevels_200 : decode c_M_makeLevels 200 = .ok (.getfield 63, 3) := by decide +kernel
theorem d_makeLevels_203 : decode c_M_makeLevels 203 = .ok (.iconst 0, 1) := by decide +kernel
theorem d_makeLevels_204 : decode c_M_makeLevels 204 = .ok (.iload_n 1, 1) := by decide +kernel
theorem d_makeLevels_205 : decode c_M_makeLevels 205 = .ok (.iload_n 2, 1) := by decide +kernel
theorem d_makeLevels_206 : decode c_M_makeLevels 206 = .ok (.iload 7, 2) := by decide +kernel
theorem d_makeLevels_208 : decode c_M_makeLevels 208 = .ok (.invokestatic 193, 3) := by decide +kernel
theorem d_makeLevels_211 : decode c_M_makeLevels 211 = .ok (.iload 8, 2) := by decide +kernel
theorem d_makeLevels_213 : decode c_M_makeLevels 213 = .ok (.ifCond .ge 9, 3) := by decide +kernel
theorem d_makeLevels_216 : decode c_M_makeLevels 216 = .ok (.iload 10, 2) := by decide +kernel
theorem d_makeLevels_218 : decode c_M_makeLevels 218 = .ok (.ineg, 1) := by decide +kernel
theorem d_makeLevels_219 : decode c_M_makeLevels 219 = .ok (.goto 5, 3) := by decide +kernel
theorem d_makeLevels_222 : decode c_M_makeLevels 222 = .ok (.iload 10, 2) := by decide +kernel
theorem d_makeLevels_224 : decode c_M_makeLevels 224 = .ok (.iastore, 1) := by decide +kernel
theorem d_makeLevels_225 : decode c_M_makeLevels 225 = .ok (.iinc 7 1, 3) := by decide +kernel
theorem d_makeLevels_228 : decode c_M_makeLevels 228 = .ok (.goto (-98), 3) := by decide +kernel
theorem d_makeLevels_231 : decode c_M_makeLevels 231 = .ok (.return_, 1) := by decide +kernel
