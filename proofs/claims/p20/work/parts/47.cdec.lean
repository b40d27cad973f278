theorem dc_Li_takeThings_0 : decode c_C_Li_takeThings 0 = .ok (.iconst 0, 1) := by decide +kernel
theorem dc_Li_takeThings_1 : decode c_C_Li_takeThings 1 = .ok (.istore 4, 2) := by decide +kernel
theorem dc_Li_takeThings_3 : decode c_C_Li_takeThings 3 = .ok (.iconst 0, 1) := by decide +kernel
theorem dc_Li_takeThings_4 : decode c_C_Li_takeThings 4 = .ok (.istore 5, 2) := by decide +kernel
theorem dc_Li_takeThings_6 : decode c_C_Li_takeThings 6 = .ok (.iload 5, 2) := by decide +kernel
theorem dc_Li_takeThings_8 : decode c_C_Li_takeThings 8 = .ok (.iload_n 2, 1) := by decide +kernel
theorem dc_Li_takeThings_9 : decode c_C_Li_takeThings 9 = .ok (.if_icmp .ge 67, 3) := by decide +kernel
theorem dc_Li_takeThings_12 : decode c_C_Li_takeThings 12 = .ok (.iload 5, 2) := by decide +kernel
theorem dc_Li_takeThings_14 : decode c_C_Li_takeThings 14 = .ok (.sipush 514, 3) := by decide +kernel
theorem dc_Li_takeThings_17 : decode c_C_Li_takeThings 17 = .ok (.if_icmp .ge 59, 3) := by decide +kernel
theorem dc_Li_takeThings_20 : decode c_C_Li_takeThings 20 = .ok (.aload_n 0, 1) := by decide +kernel
theorem dc_Li_takeThings_21 : decode c_C_Li_takeThings 21 = .ok (.getfield 17, 3) := by decide +kernel
theorem dc_Li_takeThings_24 : decode c_C_Li_takeThings 24 = .ok (.sipush 514, 3) := by decide +kernel
theorem dc_Li_takeThings_27 : decode c_C_Li_takeThings 27 = .ok (.iload_n 1, 1) := by decide +kernel
theorem dc_Li_takeThings_28 : decode c_C_Li_takeThings 28 = .ok (.imul, 1) := by decide +kernel
theorem dc_Li_takeThings_29 : decode c_C_Li_takeThings 29 = .ok (.iload 5, 2) := by decide +kernel
theorem dc_Li_takeThings_31 : decode c_C_Li_takeThings 31 = .ok (.iadd, 1) := by decide +kernel
theorem dc_Li_takeThings_32 : decode c_C_Li_takeThings 32 = .ok (.baload, 1) := by decide +kernel
theorem dc_Li_takeThings_33 : decode c_C_Li_takeThings 33 = .ok (.ifCond .eq 9, 3) := by decide +kernel
theorem dc_Li_takeThings_36 : decode c_C_Li_takeThings 36 = .ok (.iinc 4 1, 3) := by decide +kernel
theorem dc_Li_takeThings_39 : decode c_C_Li_takeThings 39 = .ok (.goto 31, 3) := by decide +kernel
theorem dc_Li_takeThings_42 : decode c_C_Li_takeThings 42 = .ok (.iload 5, 2) := by decide +kernel
theorem dc_Li_takeThings_44 : decode c_C_Li_takeThings 44 = .ok (.iload 4, 2) := by decide +kernel
theorem dc_Li_takeThings_46 : decode c_C_Li_takeThings 46 = .ok (.isub, 1) := by decide +kernel
theorem dc_Li_takeThings_47 : decode c_C_Li_takeThings 47 = .ok (.aload_n 0, 1) := by decide +kernel
theorem dc_Li_takeThings_48 : decode c_C_Li_takeThings 48 = .ok (.getfield 34, 3) := by decide +kernel
theorem dc_Li_takeThings_51 : decode c_C_Li_takeThings 51 = .ok (.if_icmp .ge 19, 3) := by decide +kernel
theorem dc_Li_takeThings_54 : decode c_C_Li_takeThings 54 = .ok (.aload_n 3, 1) := by decide +kernel
theorem dc_Li_takeThings_55 : decode c_C_Li_takeThings 55 = .ok (.aload_n 0, 1) := by decide +kernel
theorem dc_Li_takeThings_56 : decode c_C_Li_takeThings 56 = .ok (.getfield 13, 3) := by decide +kernel
theorem dc_Li_takeThings_59 : decode c_C_Li_takeThings 59 = .ok (.iload 5, 2) := by decide +kernel
theorem dc_Li_takeThings_61 : decode c_C_Li_takeThings 61 = .ok (.iload 4, 2) := by decide +kernel
theorem dc_Li_takeThings_63 : decode c_C_Li_takeThings 63 = .ok (.isub, 1) := by decide +kernel
theorem dc_Li_takeThings_64 : decode c_C_Li_takeThings 64 = .ok (.iaload, 1) := by decide +kernel
theorem dc_Li_takeThings_65 : decode c_C_Li_takeThings 65 = .ok (.dup2, 1) := by decide +kernel
theorem dc_Li_takeThings_66 : decode c_C_Li_takeThings 66 = .ok (.iaload, 1) := by decide +kernel
theorem dc_Li_takeThings_67 : decode c_C_Li_takeThings 67 = .ok (.iconst 1, 1) := by decide +kernel
theorem dc_Li_takeThings_68 : decode c_C_Li_takeThings 68 = .ok (.iadd, 1) := by decide +kernel
theorem dc_Li_takeThings_69 : decode c_C_Li_takeThings 69 = .ok (.iastore, 1) := by decide +kernel
theorem dc_Li_takeThings_70 : decode c_C_Li_takeThings 70 = .ok (.iinc 5 1, 3) := by decide +kernel
theorem dc_Li_takeThings_73 : decode c_C_Li_takeThings 73 = .ok (.goto (-67), 3) := by decide +kernel
theorem dc_Li_takeThings_76 : decode c_C_Li_takeThings 76 = .ok (.iload 4, 2) := by decide +kernel
theorem dc_Li_takeThings_78 : decode c_C_Li_takeThings 78 = .ok (.ireturn, 1) := by decide +kernel
theorem dc_Li_setLengths_0 : decode c_C_Li_setLengths 0 = .ok (.aload_n 0, 1) := by decide +kernel
theorem dc_Li_setLengths_1 : decode c_C_Li_setLengths 1 = .ok (.aload_n 1, 1) := by decide +kernel
theorem dc_Li_setLengths_2 : decode c_C_Li_setLengths 2 = .ok (.getfield 27, 3) := by decide +kernel
theorem dc_Li_setLengths_5 : decode c_C_Li_setLengths 5 = .ok (.invokevirtual 30, 3) := by decide +kernel
theorem dc_Li_setLengths_8 : decode c_C_Li_setLengths 8 = .ok (.aload_n 0, 1) := by decide +kernel
theorem dc_Li_setLengths_9 : decode c_C_Li_setLengths 9 = .ok (.getfield 34, 3) := by decide +kernel
theorem dc_Li_setLengths_12 : decode c_C_Li_setLengths 12 = .ok (.istore_n 2, 1) := by decide +kernel
theorem dc_Li_setLengths_13 : decode c_C_Li_setLengths 13 = .ok (.iconst 0, 1) := by decide +kernel
theorem dc_Li_setLengths_14 : decode c_C_Li_setLengths 14 = .ok (.istore_n 3, 1) := by decide +kernel
theorem dc_Li_setLengths_15 : decode c_C_Li_setLengths 15 = .ok (.iload_n 3, 1) := by decide +kernel
theorem dc_Li_setLengths_16 : decode c_C_Li_setLengths 16 = .ok (.aload_n 0, 1) := by decide +kernel
theorem dc_Li_setLengths_17 : decode c_C_Li_setLengths 17 = .ok (.getfield 34, 3) := by decide +kernel
theorem dc_Li_setLengths_20 : decode c_C_Li_setLengths 20 = .ok (.if_icmp .ge 26, 3) := by decide +kernel
theorem dc_Li_setLengths_23 : decode c_C_Li_setLengths 23 = .ok (.aload_n 0, 1) := by decide +kernel
theorem dc_Li_setLengths_24 : decode c_C_Li_setLengths 24 = .ok (.getfield 21, 3) := by decide +kernel
theorem dc_Li_setLengths_27 : decode c_C_Li_setLengths 27 = .ok (.iload_n 3, 1) := by decide +kernel
theorem dc_Li_setLengths_28 : decode c_C_Li_setLengths 28 = .ok (.aload_n 1, 1) := by decide +kernel
theorem dc_Li_setLengths_29 : decode c_C_Li_setLengths 29 = .ok (.getfield 27, 3) := by decide +kernel
theorem dc_Li_setLengths_32 : decode c_C_Li_setLengths 32 = .ok (.aload_n 0, 1) := by decide +kernel
theorem dc_Li_setLengths_33 : decode c_C_Li_setLengths 33 = .ok (.getfield 13, 3) := by decide +kernel
theorem dc_Li_setLengths_36 : decode c_C_Li_setLengths 36 = .ok (.iload_n 3, 1) := by decide +kernel
theorem dc_Li_setLengths_37 : decode c_C_Li_setLengths 37 = .ok (.iaload, 1) := by decide +kernel
theorem dc_Li_setLengths_38 : decode c_C_Li_setLengths 38 = .ok (.iaload, 1) := by decide +kernel
theorem dc_Li_setLengths_39 : decode c_C_Li_setLengths 39 = .ok (.iastore, 1) := by decide +kernel
theorem dc_Li_setLengths_40 : decode c_C_Li_setLengths 40 = .ok (.iinc 3 1, 3) := by decide +kernel
theorem dc_Li_setLengths_43 : decode c_C_Li_setLengths 43 = .ok (.goto (-28), 3) := by decide +kernel
theorem dc_Li_setLengths_46 : decode c_C_Li_setLengths 46 = .ok (.iconst 1, 1) := by decide +kernel
theorem dc_Li_setLengths_47 : decode c_C_Li_setLengths 47 = .ok (.istore_n 3, 1) := by decide +kernel
theorem dc_Li_setLengths_48 : decode c_C_Li_setLengths 48 = .ok (.iload_n 3, 1) := by decide +kernel
theorem dc_Li_setLengths_49 : decode c_C_Li_setLengths 49 = .ok (.bipush 16, 2) := by decide +kernel
theorem dc_Li_setLengths_51 : decode c_C_Li_setLengths 51 = .ok (.if_icmp .ge 22, 3) := by decide +kernel
theorem dc_Li_setLengths_54 : decode c_C_Li_setLengths 54 = .ok (.aload_n 0, 1) := by decide +kernel
theorem dc_Li_setLengths_55 : decode c_C_Li_setLengths 55 = .ok (.iload_n 3, 1) := by decide +kernel
theorem dc_Li_setLengths_56 : decode c_C_Li_setLengths 56 = .ok (.iload_n 2, 1) := by decide +kernel
theorem dc_Li_setLengths_57 : decode c_C_Li_setLengths 57 = .ok (.iconst 2, 1) := by decide +kernel
theorem dc_Li_setLengths_58 : decode c_C_Li_setLengths 58 = .ok (.idiv, 1) := by decide +kernel
theorem dc_Li_setLengths_59 : decode c_C_Li_setLengths 59 = .ok (.aload_n 1, 1) := by decide +kernel
theorem dc_Li_setLengths_60 : decode c_C_Li_setLengths 60 = .ok (.getfield 27, 3) := by decide +kernel
theorem dc_Li_setLengths_63 : decode c_C_Li_setLengths 63 = .ok (.invokevirtual 38, 3) := by decide +kernel
theorem dc_Li_setLengths_66 : decode c_C_Li_setLengths 66 = .ok (.istore_n 2, 1) := by decide +kernel
theorem dc_Li_setLengths_67 : decode c_C_Li_setLengths 67 = .ok (.iinc 3 1, 3) := by decide +kernel
theorem dc_Li_setLengths_70 : decode c_C_Li_setLengths 70 = .ok (.goto (-22), 3) := by decide +kernel
theorem dc_Li_setLengths_73 : decode c_C_Li_setLengths 73 = .ok (.iconst 2, 1) := by decide +kernel
theorem dc_Li_setLengths_74 : decode c_C_Li_setLengths 74 = .ok (.aload_n 0, 1) := by decide +kernel
theorem dc_Li_setLengths_75 : decode c_C_Li_setLengths 75 = .ok (.getfield 34, 3) := by decide +kernel
theorem dc_Li_setLengths_78 : decode c_C_Li_setLengths 78 = .ok (.imul, 1) := by decide +kernel
theorem dc_Li_setLengths_79 : decode c_C_Li_setLengths 79 = .ok (.iconst 2, 1) := by decide +kernel
theorem dc_Li_setLengths_80 : decode c_C_Li_setLengths 80 = .ok (.isub, 1) := by decide +kernel
theorem dc_Li_setLengths_81 : decode c_C_Li_setLengths 81 = .ok (.istore_n 3, 1) := by decide +kernel
theorem dc_Li_setLengths_82 : decode c_C_Li_setLengths 82 = .ok (.bipush 15, 2) := by decide +kernel
theorem dc_Li_setLengths_84 : decode c_C_Li_setLengths 84 = .ok (.istore 4, 2) := by decide +kernel
theorem dc_Li_setLengths_86 : decode c_C_Li_setLengths 86 = .ok (.iload 4, 2) := by decide +kernel
theorem dc_Li_setLengths_88 : decode c_C_Li_setLengths 88 = .ok (.ifCond .lt 23, 3) := by decide +kernel
theorem dc_Li_setLengths_91 : decode c_C_Li_setLengths 91 = .ok (.iconst 2, 1) := by decide +kernel
theorem dc_Li_setLengths_92 : decode c_C_Li_setLengths 92 = .ok (.aload_n 0, 1) := by decide +kernel
theorem dc_Li_setLengths_93 : decode c_C_Li_setLengths 93 = .ok (.iload 4, 2) := by decide +kernel
theorem dc_Li_setLengths_95 : decode c_C_Li_setLengths 95 = .ok (.iload_n 3, 1) := by decide +kernel
theorem dc_Li_setLengths_96 : decode c_C_Li_setLengths 96 = .ok (.aload_n 1, 1) := by decide +kernel
theorem dc_Li_setLengths_97 : decode c_C_Li_setLengths 97 = .ok (.getfield 42, 3) := by decide +kernel
theorem dc_Li_setLengths_100 : decode c_C_Li_setLengths 100 = .ok (.invokevirtual 45, 3) := by decide +kernel
theorem dc_Li_setLengths_103 : decode c_C_Li_setLengths 103 = .ok (.imul, 1) := by decide +kernel
theorem dc_Li_setLengths_104 : decode c_C_Li_setLengths 104 = .ok (.istore_n 3, 1) := by decide +kernel
theorem dc_Li_setLengths_105 : decode c_C_Li_setLengths 105 = .ok (.iinc 4 (-1), 3) := by decide +kernel
theorem dc_Li_setLengths_108 : decode c_C_Li_setLengths 108 = .ok (.goto (-22), 3) := by decide +kernel
theorem dc_Li_setLengths_111 : decode c_C_Li_setLengths 111 = .ok (.return_, 1) := by decide +kernel
theorem dc_Oc_giveOut_0 : decode c_C_Oc_giveOut 0 = .ok (.iconst 0, 1) := by decide +kernel
theorem dc_Oc_giveOut_1 : decode c_C_Oc_giveOut 1 = .ok (.istore_n 1, 1) := by decide +kernel
theorem dc_Oc_giveOut_2 : decode c_C_Oc_giveOut 2 = .ok (.aload_n 0, 1) := by decide +kernel
theorem dc_Oc_giveOut_3 : decode c_C_Oc_giveOut 3 = .ok (.iconst 0, 1) := by decide +kernel
theorem dc_Oc_giveOut_4 : decode c_C_Oc_giveOut 4 = .ok (.putfield 33, 3) := by decide +kernel
theorem dc_Oc_giveOut_7 : decode c_C_Oc_giveOut 7 = .ok (.iconst 1, 1) := by decide +kernel
theorem dc_Oc_giveOut_8 : decode c_C_Oc_giveOut 8 = .ok (.istore_n 2, 1) := by decide +kernel
theorem dc_Oc_giveOut_9 : decode c_C_Oc_giveOut 9 = .ok (.iload_n 2, 1) := by decide +kernel
theorem dc_Oc_giveOut_10 : decode c_C_Oc_giveOut 10 = .ok (.bipush 16, 2) := by decide +kernel
theorem dc_Oc_giveOut_12 : decode c_C_Oc_giveOut 12 = .ok (.if_icmp .gt 90, 3) := by decide +kernel
theorem dc_Oc_giveOut_15 : decode c_C_Oc_giveOut 15 = .ok (.aload_n 0, 1) := by decide +kernel
theorem dc_Oc_giveOut_16 : decode c_C_Oc_giveOut 16 = .ok (.getfield 33, 3) := by decide +kernel
theorem dc_Oc_giveOut_19 : decode c_C_Oc_giveOut 19 = .ok (.istore_n 3, 1) := by decide +kernel
theorem dc_Oc_giveOut_20 : decode c_C_Oc_giveOut 20 = .ok (.iconst 0, 1) := by decide +kernel
theorem dc_Oc_giveOut_21 : decode c_C_Oc_giveOut 21 = .ok (.istore 4, 2) := by decide +kernel
theorem dc_Oc_giveOut_23 : decode c_C_Oc_giveOut 23 = .ok (.iload 4, 2) := by decide +kernel
theorem dc_Oc_giveOut_25 : decode c_C_Oc_giveOut 25 = .ok (.sipush 256, 3) := by decide +kernel
theorem dc_Oc_giveOut_28 : decode c_C_Oc_giveOut 28 = .ok (.if_icmp .ge 52, 3) := by decide +kernel
theorem dc_Oc_giveOut_31 : decode c_C_Oc_giveOut 31 = .ok (.aload_n 0, 1) := by decide +kernel
theorem dc_Oc_giveOut_32 : decode c_C_Oc_giveOut 32 = .ok (.getfield 15, 3) := by decide +kernel
theorem dc_Oc_giveOut_35 : decode c_C_Oc_giveOut 35 = .ok (.iload 4, 2) := by decide +kernel
theorem dc_Oc_giveOut_37 : decode c_C_Oc_giveOut 37 = .ok (.iaload, 1) := by decide +kernel
theorem dc_Oc_giveOut_38 : decode c_C_Oc_giveOut 38 = .ok (.iload_n 2, 1) := by decide +kernel
theorem dc_Oc_giveOut_39 : decode c_C_Oc_giveOut 39 = .ok (.if_icmp .ne 35, 3) := by decide +kernel
theorem dc_Oc_giveOut_42 : decode c_C_Oc_giveOut 42 = .ok (.aload_n 0, 1) := by decide +kernel
theorem dc_Oc_giveOut_43 : decode c_C_Oc_giveOut 43 = .ok (.getfield 18, 3) := by decide +kernel
theorem dc_Oc_giveOut_46 : decode c_C_Oc_giveOut 46 = .ok (.iload 4, 2) := by decide +kernel
theorem dc_Oc_giveOut_48 : decode c_C_Oc_giveOut 48 = .ok (.iload_n 1, 1) := by decide +kernel
theorem dc_Oc_giveOut_49 : decode c_C_Oc_giveOut 49 = .ok (.iastore, 1) := by decide +kernel
theorem dc_Oc_giveOut_50 : decode c_C_Oc_giveOut 50 = .ok (.aload_n 0, 1) := by decide +kernel
theorem dc_Oc_giveOut_51 : decode c_C_Oc_giveOut 51 = .ok (.getfield 21, 3) := by decide +kernel
theorem dc_Oc_giveOut_54 : decode c_C_Oc_giveOut 54 = .ok (.aload_n 0, 1) := by decide +kernel
theorem dc_Oc_giveOut_55 : decode c_C_Oc_giveOut 55 = .ok (.getfield 33, 3) := by decide +kernel
theorem dc_Oc_giveOut_58 : decode c_C_Oc_giveOut 58 = .ok (.iload 4, 2) := by decide +kernel
theorem dc_Oc_giveOut_60 : decode c_C_Oc_giveOut 60 = .ok (.iastore, 1) := by decide +kernel
theorem dc_Oc_giveOut_61 : decode c_C_Oc_giveOut 61 = .ok (.iinc 1 1, 3) := by decide +kernel
theorem dc_Oc_giveOut_64 : decode c_C_Oc_giveOut 64 = .ok (.aload_n 0, 1) := by decide +kernel
theorem dc_Oc_giveOut_65 : decode c_C_Oc_giveOut 65 = .ok (.dup, 1) := by decide +kernel
theorem dc_Oc_giveOut_66 : decode c_C_Oc_giveOut 66 = .ok (.getfield 33, 3) := by decide +kernel
theorem dc_Oc_giveOut_69 : decode c_C_Oc_giveOut 69 = .ok (.iconst 1, 1) := by decide +kernel
theorem dc_Oc_giveOut_70 : decode c_C_Oc_giveOut 70 = .ok (.iadd, 1) := by decide +kernel
theorem dc_Oc_giveOut_71 : decode c_C_Oc_giveOut 71 = .ok (.putfield 33, 3) := by decide +kernel
theorem dc_Oc_giveOut_74 : decode c_C_Oc_giveOut 74 = .ok (.iinc 4 1, 3) := by decide +kernel
theorem dc_Oc_giveOut_77 : decode c_C_Oc_giveOut 77 = .ok (.goto (-54), 3) := by decide +kernel
theorem dc_Oc_giveOut_80 : decode c_C_Oc_giveOut 80 = .ok (.aload_n 0, 1) := by decide +kernel
theorem dc_Oc_giveOut_81 : decode c_C_Oc_giveOut 81 = .ok (.getfield 24, 3) := by decide +kernel
theorem dc_Oc_giveOut_84 : decode c_C_Oc_giveOut 84 = .ok (.iload_n 2, 1) := by decide +kernel
theorem dc_Oc_giveOut_85 : decode c_C_Oc_giveOut 85 = .ok (.aload_n 0, 1) := by decide +kernel
theorem dc_Oc_giveOut_86 : decode c_C_Oc_giveOut 86 = .ok (.getfield 33, 3) := by decide +kernel
theorem dc_Oc_giveOut_89 : decode c_C_Oc_giveOut 89 = .ok (.iload_n 3, 1) := by decide +kernel
theorem dc_Oc_giveOut_90 : decode c_C_Oc_giveOut 90 = .ok (.isub, 1) := by decide +kernel
theorem dc_Oc_giveOut_91 : decode c_C_Oc_giveOut 91 = .ok (.iastore, 1) := by decide +kernel
theorem dc_Oc_giveOut_92 : decode c_C_Oc_giveOut 92 = .ok (.iload_n 1, 1) := by decide +kernel
theorem dc_Oc_giveOut_93 : decode c_C_Oc_giveOut 93 = .ok (.iconst 2, 1) := by decide +kernel
theorem dc_Oc_giveOut_94 : decode c_C_Oc_giveOut 94 = .ok (.imul, 1) := by decide +kernel
theorem dc_Oc_giveOut_95 : decode c_C_Oc_giveOut 95 = .ok (.istore_n 1, 1) := by decide +kernel
theorem dc_Oc_giveOut_96 : decode c_C_Oc_giveOut 96 = .ok (.iinc 2 1, 3) := by decide +kernel
theorem dc_Oc_giveOut_99 : decode c_C_Oc_giveOut 99 = .ok (.goto (-90), 3) := by decide +kernel
theorem dc_Oc_giveOut_102 : decode c_C_Oc_giveOut 102 = .ok (.return_, 1) := by decide +kernel
theorem dc_Pa_makeCodes_0 : decode c_C_Pa_makeCodes 0 = .ok (.iconst 0, 1) := by decide +kernel
theorem dc_Pa_makeCodes_1 : decode c_C_Pa_makeCodes 1 = .ok (.istore_n 2, 1) := by decide +kernel
theorem dc_Pa_makeCodes_2 : decode c_C_Pa_makeCodes 2 = .ok (.iload_n 2, 1) := by decide +kernel
theorem dc_Pa_makeCodes_3 : decode c_C_Pa_makeCodes 3 = .ok (.aload_n 0, 1) := by decide +kernel
theorem dc_Pa_makeCodes_4 : decode c_C_Pa_makeCodes 4 = .ok (.getfield 69, 3) := by decide +kernel
theorem dc_Pa_makeCodes_7 : decode c_C_Pa_makeCodes 7 = .ok (.if_icmp .ge 27, 3) := by decide +kernel
theorem dc_Pa_makeCodes_10 : decode c_C_Pa_makeCodes 10 = .ok (.aload_n 0, 1) := by decide +kernel
theorem dc_Pa_makeCodes_11 : decode c_C_Pa_makeCodes 11 = .ok (.getfield 52, 3) := by decide +kernel
theorem dc_Pa_makeCodes_14 : decode c_C_Pa_makeCodes 14 = .ok (.iload_n 2, 1) := by decide +kernel
theorem dc_Pa_makeCodes_15 : decode c_C_Pa_makeCodes 15 = .ok (.aaload, 1) := by decide +kernel
theorem dc_Pa_makeCodes_16 : decode c_C_Pa_makeCodes 16 = .ok (.invokevirtual 177, 3) := by decide +kernel
theorem dc_Pa_makeCodes_19 : decode c_C_Pa_makeCodes 19 = .ok (.aload_n 0, 1) := by decide +kernel
theorem dc_Pa_makeCodes_20 : decode c_C_Pa_makeCodes 20 = .ok (.getfield 56, 3) := by decide +kernel
theorem dc_Pa_makeCodes_23 : decode c_C_Pa_makeCodes 23 = .ok (.iload_n 2, 1) := by decide +kernel
theorem dc_Pa_makeCodes_24 : decode c_C_Pa_makeCodes 24 = .ok (.aaload, 1) := by decide +kernel
theorem dc_Pa_makeCodes_25 : decode c_C_Pa_makeCodes 25 = .ok (.invokevirtual 177, 3) := by decide +kernel
theorem dc_Pa_makeCodes_28 : decode c_C_Pa_makeCodes 28 = .ok (.iinc 2 1, 3) := by decide +kernel
theorem dc_Pa_makeCodes_31 : decode c_C_Pa_makeCodes 31 = .ok (.goto (-29), 3) := by decide +kernel
theorem dc_Pa_makeCodes_34 : decode c_C_Pa_makeCodes 34 = .ok (.aload_n 0, 1) := by decide +kernel
theorem dc_Pa_makeCodes_35 : decode c_C_Pa_makeCodes 35 = .ok (.iconst 1, 1) := by decide +kernel
theorem dc_Pa_makeCodes_36 : decode c_C_Pa_makeCodes 36 = .ok (.putfield 179, 3) := by decide +kernel
theorem dc_Pa_makeCodes_39 : decode c_C_Pa_makeCodes 39 = .ok (.aload_n 0, 1) := by decide +kernel
theorem dc_Pa_makeCodes_40 : decode c_C_Pa_makeCodes 40 = .ok (.iload_n 1, 1) := by decide +kernel
theorem dc_Pa_makeCodes_41 : decode c_C_Pa_makeCodes 41 = .ok (.invokevirtual 182, 3) := by decide +kernel
theorem dc_Pa_makeCodes_44 : decode c_C_Pa_makeCodes 44 = .ok (.aload_n 0, 1) := by decide +kernel
theorem dc_Pa_makeCodes_45 : decode c_C_Pa_makeCodes 45 = .ok (.iconst 0, 1) := by decide +kernel
theorem dc_Pa_makeCodes_46 : decode c_C_Pa_makeCodes 46 = .ok (.putfield 179, 3) := by decide +kernel
theorem dc_Pa_makeCodes_49 : decode c_C_Pa_makeCodes 49 = .ok (.iconst 0, 1) := by decide +kernel
theorem dc_Pa_makeCodes_50 : decode c_C_Pa_makeCodes 50 = .ok (.istore_n 2, 1) := by decide +kernel
theorem dc_Pa_makeCodes_51 : decode c_C_Pa_makeCodes 51 = .ok (.iload_n 2, 1) := by decide +kernel
theorem dc_Pa_makeCodes_52 : decode c_C_Pa_makeCodes 52 = .ok (.aload_n 0, 1) := by decide +kernel
theorem dc_Pa_makeCodes_53 : decode c_C_Pa_makeCodes 53 = .ok (.getfield 69, 3) := by decide +kernel
theorem dc_Pa_makeCodes_56 : decode c_C_Pa_makeCodes 56 = .ok (.if_icmp .ge 53, 3) := by decide +kernel
theorem dc_Pa_makeCodes_59 : decode c_C_Pa_makeCodes 59 = .ok (.aload_n 0, 1) := by decide +kernel
theorem dc_Pa_makeCodes_60 : decode c_C_Pa_makeCodes 60 = .ok (.getfield 45, 3) := by decide +kernel
theorem dc_Pa_makeCodes_63 : decode c_C_Pa_makeCodes 63 = .ok (.aload_n 0, 1) := by decide +kernel
theorem dc_Pa_makeCodes_64 : decode c_C_Pa_makeCodes 64 = .ok (.getfield 52, 3) := by decide +kernel
theorem dc_Pa_makeCodes_67 : decode c_C_Pa_makeCodes 67 = .ok (.iload_n 2, 1) := by decide +kernel
theorem dc_Pa_makeCodes_68 : decode c_C_Pa_makeCodes 68 = .ok (.aaload, 1) := by decide +kernel
theorem dc_Pa_makeCodes_69 : decode c_C_Pa_makeCodes 69 = .ok (.invokevirtual 185, 3) := by decide +kernel
theorem dc_Pa_makeCodes_72 : decode c_C_Pa_makeCodes 72 = .ok (.aload_n 0, 1) := by decide +kernel
theorem dc_Pa_makeCodes_73 : decode c_C_Pa_makeCodes 73 = .ok (.getfield 52, 3) := by decide +kernel
theorem dc_Pa_makeCodes_76 : decode c_C_Pa_makeCodes 76 = .ok (.iload_n 2, 1) := by decide +kernel
theorem dc_Pa_makeCodes_77 : decode c_C_Pa_makeCodes 77 = .ok (.aaload, 1) := by decide +kernel
theorem dc_Pa_makeCodes_78 : decode c_C_Pa_makeCodes 78 = .ok (.invokevirtual 189, 3) := by decide +kernel
theorem dc_Pa_makeCodes_81 : decode c_C_Pa_makeCodes 81 = .ok (.aload_n 0, 1) := by decide +kernel
theorem dc_Pa_makeCodes_82 : decode c_C_Pa_makeCodes 82 = .ok (.getfield 45, 3) := by decide +kernel
theorem dc_Pa_makeCodes_85 : decode c_C_Pa_makeCodes 85 = .ok (.aload_n 0, 1) := by decide +kernel
theorem dc_Pa_makeCodes_86 : decode c_C_Pa_makeCodes 86 = .ok (.getfield 56, 3) := by decide +kernel
theorem dc_Pa_makeCodes_89 : decode c_C_Pa_makeCodes 89 = .ok (.iload_n 2, 1) := by decide +kernel
theorem dc_Pa_makeCodes_90 : decode c_C_Pa_makeCodes 90 = .ok (.aaload, 1) := by decide +kernel
theorem dc_Pa_makeCodes_91 : decode c_C_Pa_makeCodes 91 = .ok (.invokevirtual 185, 3) := by decide +kernel
theorem dc_Pa_makeCodes_94 : decode c_C_Pa_makeCodes 94 = .ok (.aload_n 0, 1) := by decide +kernel
theorem dc_Pa_makeCodes_95 : decode c_C_Pa_makeCodes 95 = .ok (.getfield 56, 3) := by decide +kernel
theorem dc_Pa_makeCodes_98 : decode c_C_Pa_makeCodes 98 = .ok (.iload_n 2, 1) := by decide +kernel
theorem dc_Pa_makeCodes_99 : decode c_C_Pa_makeCodes 99 = .ok (.aaload, 1) := by decide +kernel
theorem dc_Pa_makeCodes_100 : decode c_C_Pa_makeCodes 100 = .ok (.invokevirtual 189, 3) := by decide +kernel
theorem dc_Pa_makeCodes_103 : decode c_C_Pa_makeCodes 103 = .ok (.iinc 2 1, 3) := by decide +kernel
theorem dc_Pa_makeCodes_106 : decode c_C_Pa_makeCodes 106 = .ok (.goto (-55), 3) := by decide +kernel
theorem dc_Pa_makeCodes_109 : decode c_C_Pa_makeCodes 109 = .ok (.return_, 1) := by decide +kernel
theorem dc_Ro_addTwo_0 : decode c_C_Ro_addTwo 0 = .ok (.aload_n 0, 1) := by decide +kernel
theorem dc_Ro_addTwo_1 : decode c_C_Ro_addTwo 1 = .ok (.iload_n 1, 1) := by decide +kernel
theorem dc_Ro_addTwo_2 : decode c_C_Ro_addTwo 2 = .ok (.bipush 8, 2) := by decide +kernel
theorem dc_Ro_addTwo_4 : decode c_C_Ro_addTwo 4 = .ok (.ishr, 1) := by decide +kernel
theorem dc_Ro_addTwo_5 : decode c_C_Ro_addTwo 5 = .ok (.invokevirtual 23, 3) := by decide +kernel
theorem dc_Ro_addTwo_8 : decode c_C_Ro_addTwo 8 = .ok (.aload_n 0, 1) := by decide +kernel
theorem dc_Ro_addTwo_9 : decode c_C_Ro_addTwo 9 = .ok (.iload_n 1, 1) := by decide +kernel
theorem dc_Ro_addTwo_10 : decode c_C_Ro_addTwo 10 = .ok (.invokevirtual 23, 3) := by decide +kernel
theorem dc_Ro_addTwo_13 : decode c_C_Ro_addTwo 13 = .ok (.return_, 1) := by decide +kernel
theorem dc_Pa_writeTables_0 : decode c_C_Pa_writeTables 0 = .ok (.aload_n 0, 1) := by decide +kernel
theorem dc_Pa_writeTables_1 : decode c_C_Pa_writeTables 1 = .ok (.sipush 219, 3) := by decide +kernel
theorem dc_Pa_writeTables_4 : decode c_C_Pa_writeTables 4 = .ok (.invokevirtual 195, 3) := by decide +kernel
theorem dc_Pa_writeTables_7 : decode c_C_Pa_writeTables 7 = .ok (.aload_n 0, 1) := by decide +kernel
theorem dc_Pa_writeTables_8 : decode c_C_Pa_writeTables 8 = .ok (.getfield 15, 3) := by decide +kernel
theorem dc_Pa_writeTables_11 : decode c_C_Pa_writeTables 11 = .ok (.iconst 2, 1) := by decide +kernel
theorem dc_Pa_writeTables_12 : decode c_C_Pa_writeTables 12 = .ok (.bipush 65, 2) := by decide +kernel
theorem dc_Pa_writeTables_14 : decode c_C_Pa_writeTables 14 = .ok (.aload_n 0, 1) := by decide +kernel
theorem dc_Pa_writeTables_15 : decode c_C_Pa_writeTables 15 = .ok (.getfield 69, 3) := by decide +kernel
theorem dc_Pa_writeTables_18 : decode c_C_Pa_writeTables 18 = .ok (.imul, 1) := by decide +kernel
theorem dc_Pa_writeTables_19 : decode c_C_Pa_writeTables 19 = .ok (.iadd, 1) := by decide +kernel
theorem dc_Pa_writeTables_20 : decode c_C_Pa_writeTables 20 = .ok (.invokevirtual 208, 3) := by decide +kernel
theorem dc_Pa_writeTables_23 : decode c_C_Pa_writeTables 23 = .ok (.iconst 0, 1) := by decide +kernel
theorem dc_Pa_writeTables_24 : decode c_C_Pa_writeTables 24 = .ok (.istore_n 2, 1) := by decide +kernel
theorem dc_Pa_writeTables_25 : decode c_C_Pa_writeTables 25 = .ok (.iload_n 2, 1) := by decide +kernel
theorem dc_Pa_writeTables_26 : decode c_C_Pa_writeTables 26 = .ok (.aload_n 0, 1) := by decide +kernel
theorem dc_Pa_writeTables_27 : decode c_C_Pa_writeTables 27 = .ok (.getfield 69, 3) := by decide +kernel
theorem dc_Pa_writeTables_30 : decode c_C_Pa_writeTables 30 = .ok (.if_icmp .ge 50, 3) := by decide +kernel
theorem dc_Pa_writeTables_33 : decode c_C_Pa_writeTables 33 = .ok (.aload_n 0, 1) := by decide +kernel
theorem dc_Pa_writeTables_34 : decode c_C_Pa_writeTables 34 = .ok (.getfield 15, 3) := by decide +kernel
theorem dc_Pa_writeTables_37 : decode c_C_Pa_writeTables 37 = .ok (.iload_n 2, 1) := by decide +kernel
theorem dc_Pa_writeTables_38 : decode c_C_Pa_writeTables 38 = .ok (.invokevirtual 214, 3) := by decide +kernel
theorem dc_Pa_writeTables_41 : decode c_C_Pa_writeTables 41 = .ok (.iconst 0, 1) := by decide +kernel
theorem dc_Pa_writeTables_42 : decode c_C_Pa_writeTables 42 = .ok (.istore_n 3, 1) := by decide +kernel
theorem dc_Pa_writeTables_43 : decode c_C_Pa_writeTables 43 = .ok (.iload_n 3, 1) := by decide +kernel
theorem dc_Pa_writeTables_44 : decode c_C_Pa_writeTables 44 = .ok (.bipush 64, 2) := by decide +kernel
theorem dc_Pa_writeTables_46 : decode c_C_Pa_writeTables 46 = .ok (.if_icmp .ge 28, 3) := by decide +kernel
theorem dc_Pa_writeTables_49 : decode c_C_Pa_writeTables 49 = .ok (.aload_n 0, 1) := by decide +kernel
theorem dc_Pa_writeTables_50 : decode c_C_Pa_writeTables 50 = .ok (.getfield 15, 3) := by decide +kernel
theorem dc_Pa_writeTables_53 : decode c_C_Pa_writeTables 53 = .ok (.aload_n 1, 1) := by decide +kernel
theorem dc_Pa_writeTables_54 : decode c_C_Pa_writeTables 54 = .ok (.bipush 64, 2) := by decide +kernel
theorem dc_Pa_writeTables_56 : decode c_C_Pa_writeTables 56 = .ok (.iload_n 2, 1) := by decide +kernel
theorem dc_Pa_writeTables_57 : decode c_C_Pa_writeTables 57 = .ok (.imul, 1) := by decide +kernel
theorem dc_Pa_writeTables_58 : decode c_C_Pa_writeTables 58 = .ok (.getstatic 168, 3) := by decide +kernel
theorem dc_Pa_writeTables_61 : decode c_C_Pa_writeTables 61 = .ok (.iload_n 3, 1) := by decide +kernel
theorem dc_Pa_writeTables_62 : decode c_C_Pa_writeTables 62 = .ok (.iaload, 1) := by decide +kernel
theorem dc_Pa_writeTables_63 : decode c_C_Pa_writeTables 63 = .ok (.iadd, 1) := by decide +kernel
theorem dc_Pa_writeTables_64 : decode c_C_Pa_writeTables 64 = .ok (.iaload, 1) := by decide +kernel
theorem dc_Pa_writeTables_65 : decode c_C_Pa_writeTables 65 = .ok (.invokevirtual 214, 3) := by decide +kernel
theorem dc_Pa_writeTables_68 : decode c_C_Pa_writeTables 68 = .ok (.iinc 3 1, 3) := by decide +kernel
theorem dc_Pa_writeTables_71 : decode c_C_Pa_writeTables 71 = .ok (.goto (-28), 3) := by decide +kernel
theorem dc_Pa_writeTables_74 : decode c_C_Pa_writeTables 74 = .ok (.iinc 2 1, 3) := by decide +kernel
theorem dc_Pa_writeTables_77 : decode c_C_Pa_writeTables 77 = .ok (.goto (-52), 3) := by decide +kernel
theorem dc_Pa_writeTables_80 : decode c_C_Pa_writeTables 80 = .ok (.return_, 1) := by decide +kernel
theorem dc_Pa_writeFrame_0 : decode c_C_Pa_writeFrame 0 = .ok (.aload_n 0, 1) := by decide +kernel
theorem dc_Pa_writeFrame_1 : decode c_C_Pa_writeFrame 1 = .ok (.sipush 192, 3) := by decide +kernel
theorem dc_Pa_writeFrame_4 : decode c_C_Pa_writeFrame 4 = .ok (.invokevirtual 195, 3) := by decide +kernel
theorem dc_Pa_writeFrame_7 : decode c_C_Pa_writeFrame 7 = .ok (.aload_n 0, 1) := by decide +kernel
theorem dc_Pa_writeFrame_8 : decode c_C_Pa_writeFrame 8 = .ok (.getfield 15, 3) := by decide +kernel
theorem dc_Pa_writeFrame_11 : decode c_C_Pa_writeFrame 11 = .ok (.bipush 8, 2) := by decide +kernel
theorem dc_Pa_writeFrame_13 : decode c_C_Pa_writeFrame 13 = .ok (.iconst 3, 1) := by decide +kernel
theorem dc_Pa_writeFrame_14 : decode c_C_Pa_writeFrame 14 = .ok (.aload_n 0, 1) := by decide +kernel
theorem dc_Pa_writeFrame_15 : decode c_C_Pa_writeFrame 15 = .ok (.getfield 31, 3) := by decide +kernel
theorem dc_Pa_writeFrame_18 : decode c_C_Pa_writeFrame 18 = .ok (.getfield 85, 3) := by decide +kernel
theorem dc_Pa_writeFrame_21 : decode c_C_Pa_writeFrame 21 = .ok (.imul, 1) := by decide +kernel
theorem dc_Pa_writeFrame_22 : decode c_C_Pa_writeFrame 22 = .ok (.iadd, 1) := by decide +kernel
theorem dc_Pa_writeFrame_23 : decode c_C_Pa_writeFrame 23 = .ok (.invokevirtual 208, 3) := by decide +kernel
theorem dc_Pa_writeFrame_26 : decode c_C_Pa_writeFrame 26 = .ok (.aload_n 0, 1) := by decide +kernel
theorem dc_Pa_writeFrame_27 : decode c_C_Pa_writeFrame 27 = .ok (.getfield 15, 3) := by decide +kernel
theorem dc_Pa_writeFrame_30 : decode c_C_Pa_writeFrame 30 = .ok (.bipush 8, 2) := by decide +kernel
theorem dc_Pa_writeFrame_32 : decode c_C_Pa_writeFrame 32 = .ok (.invokevirtual 214, 3) := by decide +kernel
theorem dc_Pa_writeFrame_35 : decode c_C_Pa_writeFrame 35 = .ok (.aload_n 0, 1) := by decide +kernel
theorem dc_Pa_writeFrame_36 : decode c_C_Pa_writeFrame 36 = .ok (.getfield 15, 3) := by decide +kernel
theorem dc_Pa_writeFrame_39 : decode c_C_Pa_writeFrame 39 = .ok (.aload_n 0, 1) := by decide +kernel
theorem dc_Pa_writeFrame_40 : decode c_C_Pa_writeFrame 40 = .ok (.getfield 31, 3) := by decide +kernel
theorem dc_Pa_writeFrame_43 : decode c_C_Pa_writeFrame 43 = .ok (.getfield 217, 3) := by decide +kernel
theorem dc_Pa_writeFrame_46 : decode c_C_Pa_writeFrame 46 = .ok (.invokevirtual 208, 3) := by decide +kernel
theorem dc_Pa_writeFrame_49 : decode c_C_Pa_writeFrame 49 = .ok (.aload_n 0, 1) := by decide +kernel
theorem dc_Pa_writeFrame_50 : decode c_C_Pa_writeFrame 50 = .ok (.getfield 15, 3) := by decide +kernel
theorem dc_Pa_writeFrame_53 : decode c_C_Pa_writeFrame 53 = .ok (.aload_n 0, 1) := by decide +kernel
theorem dc_Pa_writeFrame_54 : decode c_C_Pa_writeFrame 54 = .ok (.getfield 31, 3) := by decide +kernel
theorem dc_Pa_writeFrame_57 : decode c_C_Pa_writeFrame 57 = .ok (.getfield 218, 3) := by decide +kernel
theorem dc_Pa_writeFrame_60 : decode c_C_Pa_writeFrame 60 = .ok (.invokevirtual 208, 3) := by decide +kernel
theorem dc_Pa_writeFrame_63 : decode c_C_Pa_writeFrame 63 = .ok (.aload_n 0, 1) := by decide +kernel
theorem dc_Pa_writeFrame_64 : decode c_C_Pa_writeFrame 64 = .ok (.getfield 15, 3) := by decide +kernel
theorem dc_Pa_writeFrame_67 : decode c_C_Pa_writeFrame 67 = .ok (.aload_n 0, 1) := by decide +kernel
theorem dc_Pa_writeFrame_68 : decode c_C_Pa_writeFrame 68 = .ok (.getfield 31, 3) := by decide +kernel
theorem dc_Pa_writeFrame_71 : decode c_C_Pa_writeFrame 71 = .ok (.getfield 85, 3) := by decide +kernel
theorem dc_Pa_writeFrame_74 : decode c_C_Pa_writeFrame 74 = .ok (.invokevirtual 214, 3) := by decide +kernel
theorem dc_Pa_writeFrame_77 : decode c_C_Pa_writeFrame 77 = .ok (.iconst 0, 1) := by decide +kernel
theorem dc_Pa_writeFrame_78 : decode c_C_Pa_writeFrame 78 = .ok (.istore_n 1, 1) := by decide +kernel
theorem dc_Pa_writeFrame_79 : decode c_C_Pa_writeFrame 79 = .ok (.iload_n 1, 1) := by decide +kernel
theorem dc_Pa_writeFrame_80 : decode c_C_Pa_writeFrame 80 = .ok (.aload_n 0, 1) := by decide +kernel
theorem dc_Pa_writeFrame_81 : decode c_C_Pa_writeFrame 81 = .ok (.getfield 31, 3) := by decide +kernel
theorem dc_Pa_writeFrame_84 : decode c_C_Pa_writeFrame 84 = .ok (.getfield 85, 3) := by decide +kernel
theorem dc_Pa_writeFrame_87 : decode c_C_Pa_writeFrame 87 = .ok (.if_icmp .ge 59, 3) := by decide +kernel
theorem dc_Pa_writeFrame_90 : decode c_C_Pa_writeFrame 90 = .ok (.aload_n 0, 1) := by decide +kernel
theorem dc_Pa_writeFrame_91 : decode c_C_Pa_writeFrame 91 = .ok (.getfield 15, 3) := by decide +kernel
theorem dc_Pa_writeFrame_94 : decode c_C_Pa_writeFrame 94 = .ok (.iload_n 1, 1) := by decide +kernel
theorem dc_Pa_writeFrame_95 : decode c_C_Pa_writeFrame 95 = .ok (.iconst 1, 1) := by decide +kernel
theorem dc_Pa_writeFrame_96 : decode c_C_Pa_writeFrame 96 = .ok (.iadd, 1) := by decide +kernel
theorem dc_Pa_writeFrame_97 : decode c_C_Pa_writeFrame 97 = .ok (.invokevirtual 214, 3) := by decide +kernel
theorem dc_Pa_writeFrame_100 : decode c_C_Pa_writeFrame 100 = .ok (.aload_n 0, 1) := by decide +kernel
theorem dc_Pa_writeFrame_101 : decode c_C_Pa_writeFrame 101 = .ok (.getfield 15, 3) := by decide +kernel
theorem dc_Pa_writeFrame_104 : decode c_C_Pa_writeFrame 104 = .ok (.bipush 16, 2) := by decide +kernel
theorem dc_Pa_writeFrame_106 : decode c_C_Pa_writeFrame 106 = .ok (.aload_n 0, 1) := by decide +kernel
theorem dc_Pa_writeFrame_107 : decode c_C_Pa_writeFrame 107 = .ok (.getfield 31, 3) := by decide +kernel
theorem dc_Pa_writeFrame_110 : decode c_C_Pa_writeFrame 110 = .ok (.getfield 121, 3) := by decide +kernel
theorem dc_Pa_writeFrame_113 : decode c_C_Pa_writeFrame 113 = .ok (.iload_n 1, 1) := by decide +kernel
theorem dc_Pa_writeFrame_114 : decode c_C_Pa_writeFrame 114 = .ok (.iaload, 1) := by decide +kernel
theorem dc_Pa_writeFrame_115 : decode c_C_Pa_writeFrame 115 = .ok (.imul, 1) := by decide +kernel
theorem dc_Pa_writeFrame_116 : decode c_C_Pa_writeFrame 116 = .ok (.aload_n 0, 1) := by decide +kernel
theorem dc_Pa_writeFrame_117 : decode c_C_Pa_writeFrame 117 = .ok (.getfield 31, 3) := by decide +kernel
theorem dc_Pa_writeFrame_120 : decode c_C_Pa_writeFrame 120 = .ok (.getfield 127, 3) := by decide +kernel
theorem dc_Pa_writeFrame_123 : decode c_C_Pa_writeFrame 123 = .ok (.iload_n 1, 1) := by decide +kernel
theorem dc_Pa_writeFrame_124 : decode c_C_Pa_writeFrame 124 = .ok (.iaload, 1) := by decide +kernel
theorem dc_Pa_writeFrame_125 : decode c_C_Pa_writeFrame 125 = .ok (.iadd, 1) := by decide +kernel
theorem dc_Pa_writeFrame_126 : decode c_C_Pa_writeFrame 126 = .ok (.invokevirtual 214, 3) := by decide +kernel
theorem dc_Pa_writeFrame_129 : decode c_C_Pa_writeFrame 129 = .ok (.aload_n 0, 1) := by decide +kernel
theorem dc_Pa_writeFrame_130 : decode c_C_Pa_writeFrame 130 = .ok (.getfield 15, 3) := by decide +kernel
theorem dc_Pa_writeFrame_133 : decode c_C_Pa_writeFrame 133 = .ok (.iload_n 1, 1) := by decide +kernel
theorem dc_Pa_writeFrame_134 : decode c_C_Pa_writeFrame 134 = .ok (.invokestatic 89, 3) := by decide +kernel
theorem dc_Pa_writeFrame_137 : decode c_C_Pa_writeFrame 137 = .ok (.invokevirtual 214, 3) := by decide +kernel
theorem dc_Pa_writeFrame_140 : decode c_C_Pa_writeFrame 140 = .ok (.iinc 1 1, 3) := by decide +kernel
theorem dc_Pa_writeFrame_143 : decode c_C_Pa_writeFrame 143 = .ok (.goto (-64), 3) := by decide +kernel
theorem dc_Pa_writeFrame_146 : decode c_C_Pa_writeFrame 146 = .ok (.return_, 1) := by decide +kernel
theorem dc_Pa_writeOwnCodes_0 : decode c_C_Pa_writeOwnCodes 0 = .ok (.aload_n 0, 1) := by decide +kernel
theorem dc_Pa_writeOwnCodes_1 : decode c_C_Pa_writeOwnCodes 1 = .ok (.getfield 15, 3) := by decide +kernel
theorem dc_Pa_writeOwnCodes_4 : decode c_C_Pa_writeOwnCodes 4 = .ok (.iload_n 1, 1) := by decide +kernel
theorem dc_Pa_writeOwnCodes_5 : decode c_C_Pa_writeOwnCodes 5 = .ok (.invokevirtual 214, 3) := by decide +kernel
theorem dc_Pa_writeOwnCodes_8 : decode c_C_Pa_writeOwnCodes 8 = .ok (.iconst 1, 1) := by decide +kernel
theorem dc_Pa_writeOwnCodes_9 : decode c_C_Pa_writeOwnCodes 9 = .ok (.istore_n 3, 1) := by decide +kernel
theorem dc_Pa_writeOwnCodes_10 : decode c_C_Pa_writeOwnCodes 10 = .ok (.iload_n 3, 1) := by decide +kernel
theorem dc_Pa_writeOwnCodes_11 : decode c_C_Pa_writeOwnCodes 11 = .ok (.bipush 16, 2) := by decide +kernel
theorem dc_Pa_writeOwnCodes_13 : decode c_C_Pa_writeOwnCodes 13 = .ok (.if_icmp .gt 22, 3) := by decide +kernel
theorem dc_Pa_writeOwnCodes_16 : decode c_C_Pa_writeOwnCodes 16 = .ok (.aload_n 0, 1) := by decide +kernel
theorem dc_Pa_writeOwnCodes_17 : decode c_C_Pa_writeOwnCodes 17 = .ok (.getfield 15, 3) := by decide +kernel
theorem dc_Pa_writeOwnCodes_20 : decode c_C_Pa_writeOwnCodes 20 = .ok (.aload_n 2, 1) := by decide +kernel
theorem dc_Pa_writeOwnCodes_21 : decode c_C_Pa_writeOwnCodes 21 = .ok (.getfield 224, 3) := by decide +kernel
theorem dc_Pa_writeOwnCodes_24 : decode c_C_Pa_writeOwnCodes 24 = .ok (.iload_n 3, 1) := by decide +kernel
theorem dc_Pa_writeOwnCodes_25 : decode c_C_Pa_writeOwnCodes 25 = .ok (.iaload, 1) := by decide +kernel
theorem dc_Pa_writeOwnCodes_26 : decode c_C_Pa_writeOwnCodes 26 = .ok (.invokevirtual 214, 3) := by decide +kernel
theorem dc_Pa_writeOwnCodes_29 : decode c_C_Pa_writeOwnCodes 29 = .ok (.iinc 3 1, 3) := by decide +kernel
theorem dc_Pa_writeOwnCodes_32 : decode c_C_Pa_writeOwnCodes 32 = .ok (.goto (-22), 3) := by decide +kernel
theorem dc_Pa_writeOwnCodes_35 : decode c_C_Pa_writeOwnCodes 35 = .ok (.iconst 0, 1) := by decide +kernel
theorem dc_Pa_writeOwnCodes_36 : decode c_C_Pa_writeOwnCodes 36 = .ok (.istore_n 3, 1) := by decide +kernel
theorem dc_Pa_writeOwnCodes_37 : decode c_C_Pa_writeOwnCodes 37 = .ok (.iload_n 3, 1) := by decide +kernel
theorem dc_Pa_writeOwnCodes_38 : decode c_C_Pa_writeOwnCodes 38 = .ok (.aload_n 2, 1) := by decide +kernel
theorem dc_Pa_writeOwnCodes_39 : decode c_C_Pa_writeOwnCodes 39 = .ok (.getfield 219, 3) := by decide +kernel
theorem dc_Pa_writeOwnCodes_42 : decode c_C_Pa_writeOwnCodes 42 = .ok (.if_icmp .ge 22, 3) := by decide +kernel
theorem dc_Pa_writeOwnCodes_45 : decode c_C_Pa_writeOwnCodes 45 = .ok (.aload_n 0, 1) := by decide +kernel
theorem dc_Pa_writeOwnCodes_46 : decode c_C_Pa_writeOwnCodes 46 = .ok (.getfield 15, 3) := by decide +kernel
theorem dc_Pa_writeOwnCodes_49 : decode c_C_Pa_writeOwnCodes 49 = .ok (.aload_n 2, 1) := by decide +kernel
theorem dc_Pa_writeOwnCodes_50 : decode c_C_Pa_writeOwnCodes 50 = .ok (.getfield 227, 3) := by decide +kernel
theorem dc_Pa_writeOwnCodes_53 : decode c_C_Pa_writeOwnCodes 53 = .ok (.iload_n 3, 1) := by decide +kernel
theorem dc_Pa_writeOwnCodes_54 : decode c_C_Pa_writeOwnCodes 54 = .ok (.iaload, 1) := by decide +kernel
theorem dc_Pa_writeOwnCodes_55 : decode c_C_Pa_writeOwnCodes 55 = .ok (.invokevirtual 214, 3) := by decide +kernel
theorem dc_Pa_writeOwnCodes_58 : decode c_C_Pa_writeOwnCodes 58 = .ok (.iinc 3 1, 3) := by decide +kernel
theorem dc_Pa_writeOwnCodes_61 : decode c_C_Pa_writeOwnCodes 61 = .ok (.goto (-24), 3) := by decide +kernel
theorem dc_Pa_writeOwnCodes_64 : decode c_C_Pa_writeOwnCodes 64 = .ok (.return_, 1) := by decide +kernel
theorem dc_Pa_writeCodes_0 : decode c_C_Pa_writeCodes 0 = .ok (.iconst 2, 1) := by decide +kernel
theorem dc_Pa_writeCodes_1 : decode c_C_Pa_writeCodes 1 = .ok (.istore_n 1, 1) := by decide +kernel
theorem dc_Pa_writeCodes_2 : decode c_C_Pa_writeCodes 2 = .ok (.iconst 0, 1) := by decide +kernel
theorem dc_Pa_writeCodes_3 : decode c_C_Pa_writeCodes 3 = .ok (.istore_n 2, 1) := by decide +kernel
theorem dc_Pa_writeCodes_4 : decode c_C_Pa_writeCodes 4 = .ok (.iload_n 2, 1) := by decide +kernel
theorem dc_Pa_writeCodes_5 : decode c_C_Pa_writeCodes 5 = .ok (.aload_n 0, 1) := by decide +kernel
theorem dc_Pa_writeCodes_6 : decode c_C_Pa_writeCodes 6 = .ok (.getfield 69, 3) := by decide +kernel
theorem dc_Pa_writeCodes_9 : decode c_C_Pa_writeCodes 9 = .ok (.if_icmp .ge 34, 3) := by decide +kernel
theorem dc_Pa_writeCodes_12 : decode c_C_Pa_writeCodes 12 = .ok (.iload_n 1, 1) := by decide +kernel
theorem dc_Pa_writeCodes_13 : decode c_C_Pa_writeCodes 13 = .ok (.bipush 34, 2) := by decide +kernel
theorem dc_Pa_writeCodes_15 : decode c_C_Pa_writeCodes 15 = .ok (.aload_n 0, 1) := by decide +kernel
theorem dc_Pa_writeCodes_16 : decode c_C_Pa_writeCodes 16 = .ok (.getfield 52, 3) := by decide +kernel
theorem dc_Pa_writeCodes_19 : decode c_C_Pa_writeCodes 19 = .ok (.iload_n 2, 1) := by decide +kernel
theorem dc_Pa_writeCodes_20 : decode c_C_Pa_writeCodes 20 = .ok (.aaload, 1) := by decide +kernel
theorem dc_Pa_writeCodes_21 : decode c_C_Pa_writeCodes 21 = .ok (.getfield 219, 3) := by decide +kernel
theorem dc_Pa_writeCodes_24 : decode c_C_Pa_writeCodes 24 = .ok (.iadd, 1) := by decide +kernel
theorem dc_Pa_writeCodes_25 : decode c_C_Pa_writeCodes 25 = .ok (.aload_n 0, 1) := by decide +kernel
theorem dc_Pa_writeCodes_26 : decode c_C_Pa_writeCodes 26 = .ok (.getfield 56, 3) := by decide +kernel
theorem dc_Pa_writeCodes_29 : decode c_C_Pa_writeCodes 29 = .ok (.iload_n 2, 1) := by decide +kernel
theorem dc_Pa_writeCodes_30 : decode c_C_Pa_writeCodes 30 = .ok (.aaload, 1) := by decide +kernel
theorem dc_Pa_writeCodes_31 : decode c_C_Pa_writeCodes 31 = .ok (.getfield 219, 3) := by decide +kernel
theorem dc_Pa_writeCodes_34 : decode c_C_Pa_writeCodes 34 = .ok (.iadd, 1) := by decide +kernel
theorem dc_Pa_writeCodes_35 : decode c_C_Pa_writeCodes 35 = .ok (.iadd, 1) := by decide +kernel
theorem dc_Pa_writeCodes_36 : decode c_C_Pa_writeCodes 36 = .ok (.istore_n 1, 1) := by decide +kernel
theorem dc_Pa_writeCodes_37 : decode c_C_Pa_writeCodes 37 = .ok (.iinc 2 1, 3) := by decide +kernel
theorem dc_Pa_writeCodes_40 : decode c_C_Pa_writeCodes 40 = .ok (.goto (-36), 3) := by decide +kernel
theorem dc_Pa_writeCodes_43 : decode c_C_Pa_writeCodes 43 = .ok (.aload_n 0, 1) := by decide +kernel
theorem dc_Pa_writeCodes_44 : decode c_C_Pa_writeCodes 44 = .ok (.sipush 196, 3) := by decide +kernel
theorem dc_Pa_writeCodes_47 : decode c_C_Pa_writeCodes 47 = .ok (.invokevirtual 195, 3) := by decide +kernel
theorem dc_Pa_writeCodes_50 : decode c_C_Pa_writeCodes 50 = .ok (.aload_n 0, 1) := by decide +kernel
theorem dc_Pa_writeCodes_51 : decode c_C_Pa_writeCodes 51 = .ok (.getfield 15, 3) := by decide +kernel
theorem dc_Pa_writeCodes_54 : decode c_C_Pa_writeCodes 54 = .ok (.iload_n 1, 1) := by decide +kernel
theorem dc_Pa_writeCodes_55 : decode c_C_Pa_writeCodes 55 = .ok (.invokevirtual 208, 3) := by decide +kernel
theorem dc_Pa_writeCodes_58 : decode c_C_Pa_writeCodes 58 = .ok (.iconst 0, 1) := by decide +kernel
theorem dc_Pa_writeCodes_59 : decode c_C_Pa_writeCodes 59 = .ok (.istore_n 2, 1) := by decide +kernel
theorem dc_Pa_writeCodes_60 : decode c_C_Pa_writeCodes 60 = .ok (.iload_n 2, 1) := by decide +kernel
theorem dc_Pa_writeCodes_61 : decode c_C_Pa_writeCodes 61 = .ok (.aload_n 0, 1) := by decide +kernel
theorem dc_Pa_writeCodes_62 : decode c_C_Pa_writeCodes 62 = .ok (.getfield 69, 3) := by decide +kernel
theorem dc_Pa_writeCodes_65 : decode c_C_Pa_writeCodes 65 = .ok (.if_icmp .ge 34, 3) := by decide +kernel
theorem dc_Pa_writeCodes_68 : decode c_C_Pa_writeCodes 68 = .ok (.aload_n 0, 1) := by decide +kernel
theorem dc_Pa_writeCodes_69 : decode c_C_Pa_writeCodes 69 = .ok (.iload_n 2, 1) := by decide +kernel
theorem dc_Pa_writeCodes_70 : decode c_C_Pa_writeCodes 70 = .ok (.aload_n 0, 1) := by decide +kernel
theorem dc_Pa_writeCodes_71 : decode c_C_Pa_writeCodes 71 = .ok (.getfield 52, 3) := by decide +kernel
theorem dc_Pa_writeCodes_74 : decode c_C_Pa_writeCodes 74 = .ok (.iload_n 2, 1) := by decide +kernel
theorem dc_Pa_writeCodes_75 : decode c_C_Pa_writeCodes 75 = .ok (.aaload, 1) := by decide +kernel
theorem dc_Pa_writeCodes_76 : decode c_C_Pa_writeCodes 76 = .ok (.invokevirtual 220, 3) := by decide +kernel
theorem dc_Pa_writeCodes_79 : decode c_C_Pa_writeCodes 79 = .ok (.aload_n 0, 1) := by decide +kernel
theorem dc_Pa_writeCodes_80 : decode c_C_Pa_writeCodes 80 = .ok (.bipush 16, 2) := by decide +kernel
theorem dc_Pa_writeCodes_82 : decode c_C_Pa_writeCodes 82 = .ok (.iload_n 2, 1) := by decide +kernel
theorem dc_Pa_writeCodes_83 : decode c_C_Pa_writeCodes 83 = .ok (.iadd, 1) := by decide +kernel
theorem dc_Pa_writeCodes_84 : decode c_C_Pa_writeCodes 84 = .ok (.aload_n 0, 1) := by decide +kernel
theorem dc_Pa_writeCodes_85 : decode c_C_Pa_writeCodes 85 = .ok (.getfield 56, 3) := by decide +kernel
theorem dc_Pa_writeCodes_88 : decode c_C_Pa_writeCodes 88 = .ok (.iload_n 2, 1) := by decide +kernel
theorem dc_Pa_writeCodes_89 : decode c_C_Pa_writeCodes 89 = .ok (.aaload, 1) := by decide +kernel
theorem dc_Pa_writeCodes_90 : decode c_C_Pa_writeCodes 90 = .ok (.invokevirtual 220, 3) := by decide +kernel
theorem dc_Pa_writeCodes_93 : decode c_C_Pa_writeCodes 93 = .ok (.iinc 2 1, 3) := by decide +kernel
theorem dc_Pa_writeCodes_96 : decode c_C_Pa_writeCodes 96 = .ok (.goto (-36), 3) := by decide +kernel
theorem dc_Pa_writeCodes_99 : decode c_C_Pa_writeCodes 99 = .ok (.return_, 1) := by decide +kernel
theorem dc_Pa_writeScan_0 : decode c_C_Pa_writeScan 0 = .ok (.aload_n 0, 1) := by decide +kernel
theorem dc_Pa_writeScan_1 : decode c_C_Pa_writeScan 1 = .ok (.sipush 218, 3) := by decide +kernel
theorem dc_Pa_writeScan_4 : decode c_C_Pa_writeScan 4 = .ok (.invokevirtual 195, 3) := by decide +kernel
theorem dc_Pa_writeScan_7 : decode c_C_Pa_writeScan 7 = .ok (.aload_n 0, 1) := by decide +kernel
theorem dc_Pa_writeScan_8 : decode c_C_Pa_writeScan 8 = .ok (.getfield 15, 3) := by decide +kernel
theorem dc_Pa_writeScan_11 : decode c_C_Pa_writeScan 11 = .ok (.bipush 6, 2) := by decide +kernel
theorem dc_Pa_writeScan_13 : decode c_C_Pa_writeScan 13 = .ok (.iconst 2, 1) := by decide +kernel
theorem dc_Pa_writeScan_14 : decode c_C_Pa_writeScan 14 = .ok (.aload_n 0, 1) := by decide +kernel
theorem dc_Pa_writeScan_15 : decode c_C_Pa_writeScan 15 = .ok (.getfield 31, 3) := by decide +kernel
theorem dc_Pa_writeScan_18 : decode c_C_Pa_writeScan 18 = .ok (.getfield 85, 3) := by decide +kernel
theorem dc_Pa_writeScan_21 : decode c_C_Pa_writeScan 21 = .ok (.imul, 1) := by decide +kernel
theorem dc_Pa_writeScan_22 : decode c_C_Pa_writeScan 22 = .ok (.iadd, 1) := by decide +kernel
theorem dc_Pa_writeScan_23 : decode c_C_Pa_writeScan 23 = .ok (.invokevirtual 208, 3) := by decide +kernel
theorem dc_Pa_writeScan_26 : decode c_C_Pa_writeScan 26 = .ok (.aload_n 0, 1) := by decide +kernel
theorem dc_Pa_writeScan_27 : decode c_C_Pa_writeScan 27 = .ok (.getfield 15, 3) := by decide +kernel
theorem dc_Pa_writeScan_30 : decode c_C_Pa_writeScan 30 = .ok (.aload_n 0, 1) := by decide +kernel
theorem dc_Pa_writeScan_31 : decode c_C_Pa_writeScan 31 = .ok (.getfield 31, 3) := by decide +kernel
theorem dc_Pa_writeScan_34 : decode c_C_Pa_writeScan 34 = .ok (.getfield 85, 3) := by decide +kernel
theorem dc_Pa_writeScan_37 : decode c_C_Pa_writeScan 37 = .ok (.invokevirtual 214, 3) := by decide +kernel
theorem dc_Pa_writeScan_40 : decode c_C_Pa_writeScan 40 = .ok (.iconst 0, 1) := by decide +kernel
theorem dc_Pa_writeScan_41 : decode c_C_Pa_writeScan 41 = .ok (.istore_n 1, 1) := by decide +kernel
theorem dc_Pa_writeScan_42 : decode c_C_Pa_writeScan 42 = .ok (.iload_n 1, 1) := by decide +kernel
theorem dc_Pa_writeScan_43 : decode c_C_Pa_writeScan 43 = .ok (.aload_n 0, 1) := by decide +kernel
theorem dc_Pa_writeScan_44 : decode c_C_Pa_writeScan 44 = .ok (.getfield 31, 3) := by decide +kernel
theorem dc_Pa_writeScan_47 : decode c_C_Pa_writeScan 47 = .ok (.getfield 85, 3) := by decide +kernel
theorem dc_Pa_writeScan_50 : decode c_C_Pa_writeScan 50 = .ok (.if_icmp .ge 33, 3) := by decide +kernel
theorem dc_Pa_writeScan_53 : decode c_C_Pa_writeScan 53 = .ok (.aload_n 0, 1) := by decide +kernel
theorem dc_Pa_writeScan_54 : decode c_C_Pa_writeScan 54 = .ok (.getfield 15, 3) := by decide +kernel
theorem dc_Pa_writeScan_57 : decode c_C_Pa_writeScan 57 = .ok (.iload_n 1, 1) := by decide +kernel
theorem dc_Pa_writeScan_58 : decode c_C_Pa_writeScan 58 = .ok (.iconst 1, 1) := by decide +kernel
theorem dc_Pa_writeScan_59 : decode c_C_Pa_writeScan 59 = .ok (.iadd, 1) := by decide +kernel
theorem dc_Pa_writeScan_60 : decode c_C_Pa_writeScan 60 = .ok (.invokevirtual 214, 3) := by decide +kernel
theorem dc_Pa_writeScan_63 : decode c_C_Pa_writeScan 63 = .ok (.aload_n 0, 1) := by decide +kernel
theorem dc_Pa_writeScan_64 : decode c_C_Pa_writeScan 64 = .ok (.getfield 15, 3) := by decide +kernel
theorem dc_Pa_writeScan_67 : decode c_C_Pa_writeScan 67 = .ok (.bipush 17, 2) := by decide +kernel
theorem dc_Pa_writeScan_69 : decode c_C_Pa_writeScan 69 = .ok (.iload_n 1, 1) := by decide +kernel
theorem dc_Pa_writeScan_70 : decode c_C_Pa_writeScan 70 = .ok (.invokestatic 89, 3) := by decide +kernel
theorem dc_Pa_writeScan_73 : decode c_C_Pa_writeScan 73 = .ok (.imul, 1) := by decide +kernel
theorem dc_Pa_writeScan_74 : decode c_C_Pa_writeScan 74 = .ok (.invokevirtual 214, 3) := by decide +kernel
theorem dc_Pa_writeScan_77 : decode c_C_Pa_writeScan 77 = .ok (.iinc 1 1, 3) := by decide +kernel
theorem dc_Pa_writeScan_80 : decode c_C_Pa_writeScan 80 = .ok (.goto (-38), 3) := by decide +kernel
theorem dc_Pa_writeScan_83 : decode c_C_Pa_writeScan 83 = .ok (.aload_n 0, 1) := by decide +kernel
theorem dc_Pa_writeScan_84 : decode c_C_Pa_writeScan 84 = .ok (.getfield 15, 3) := by decide +kernel
theorem dc_Pa_writeScan_87 : decode c_C_Pa_writeScan 87 = .ok (.iconst 0, 1) := by decide +kernel
theorem dc_Pa_writeScan_88 : decode c_C_Pa_writeScan 88 = .ok (.invokevirtual 214, 3) := by decide +kernel
theorem dc_Pa_writeScan_91 : decode c_C_Pa_writeScan 91 = .ok (.aload_n 0, 1) := by decide +kernel
theorem dc_Pa_writeScan_92 : decode c_C_Pa_writeScan 92 = .ok (.getfield 15, 3) := by decide +kernel
theorem dc_Pa_writeScan_95 : decode c_C_Pa_writeScan 95 = .ok (.bipush 63, 2) := by decide +kernel
theorem dc_Pa_writeScan_97 : decode c_C_Pa_writeScan 97 = .ok (.invokevirtual 214, 3) := by decide +kernel
theorem dc_Pa_writeScan_100 : decode c_C_Pa_writeScan 100 = .ok (.aload_n 0, 1) := by decide +kernel
theorem dc_Pa_writeScan_101 : decode c_C_Pa_writeScan 101 = .ok (.getfield 15, 3) := by decide +kernel
theorem dc_Pa_writeScan_104 : decode c_C_Pa_writeScan 104 = .ok (.iconst 0, 1) := by decide +kernel
theorem dc_Pa_writeScan_105 : decode c_C_Pa_writeScan 105 = .ok (.invokevirtual 214, 3) := by decide +kernel
theorem dc_Pa_writeScan_108 : decode c_C_Pa_writeScan 108 = .ok (.return_, 1) := by decide +kernel
theorem dc_Pa_write_0 : decode c_C_Pa_write 0 = .ok (.aload_n 0, 1) := by decide +kernel
theorem dc_Pa_write_1 : decode c_C_Pa_write 1 = .ok (.getfield 15, 3) := by decide +kernel
theorem dc_Pa_write_4 : decode c_C_Pa_write 4 = .ok (.iconst 0, 1) := by decide +kernel
theorem dc_Pa_write_5 : decode c_C_Pa_write 5 = .ok (.putfield 192, 3) := by decide +kernel
theorem dc_Pa_write_8 : decode c_C_Pa_write 8 = .ok (.aload_n 0, 1) := by decide +kernel
theorem dc_Pa_write_9 : decode c_C_Pa_write 9 = .ok (.sipush 216, 3) := by decide +kernel
theorem dc_Pa_write_12 : decode c_C_Pa_write 12 = .ok (.invokevirtual 195, 3) := by decide +kernel
theorem dc_Pa_write_15 : decode c_C_Pa_write 15 = .ok (.aload_n 0, 1) := by decide +kernel
theorem dc_Pa_write_16 : decode c_C_Pa_write 16 = .ok (.aload_n 1, 1) := by decide +kernel
theorem dc_Pa_write_17 : decode c_C_Pa_write 17 = .ok (.invokevirtual 198, 3) := by decide +kernel
theorem dc_Pa_write_20 : decode c_C_Pa_write 20 = .ok (.aload_n 0, 1) := by decide +kernel
theorem dc_Pa_write_21 : decode c_C_Pa_write 21 = .ok (.invokevirtual 202, 3) := by decide +kernel
theorem dc_Pa_write_24 : decode c_C_Pa_write 24 = .ok (.aload_n 0, 1) := by decide +kernel
theorem dc_Pa_write_25 : decode c_C_Pa_write 25 = .ok (.invokevirtual 205, 3) := by decide +kernel
theorem dc_Pa_write_28 : decode c_C_Pa_write 28 = .ok (.iload_n 2, 1) := by decide +kernel
theorem dc_Pa_write_29 : decode c_C_Pa_write 29 = .ok (.ifCond .le 26, 3) := by decide +kernel
theorem dc_Pa_write_32 : decode c_C_Pa_write 32 = .ok (.aload_n 0, 1) := by decide +kernel
theorem dc_Pa_write_33 : decode c_C_Pa_write 33 = .ok (.sipush 221, 3) := by decide +kernel
theorem dc_Pa_write_36 : decode c_C_Pa_write 36 = .ok (.invokevirtual 195, 3) := by decide +kernel
theorem dc_Pa_write_39 : decode c_C_Pa_write 39 = .ok (.aload_n 0, 1) := by decide +kernel
theorem dc_Pa_write_40 : decode c_C_Pa_write 40 = .ok (.getfield 15, 3) := by decide +kernel
theorem dc_Pa_write_43 : decode c_C_Pa_write 43 = .ok (.iconst 4, 1) := by decide +kernel
theorem dc_Pa_write_44 : decode c_C_Pa_write 44 = .ok (.invokevirtual 208, 3) := by decide +kernel
theorem dc_Pa_write_47 : decode c_C_Pa_write 47 = .ok (.aload_n 0, 1) := by decide +kernel
theorem dc_Pa_write_48 : decode c_C_Pa_write 48 = .ok (.getfield 15, 3) := by decide +kernel
theorem dc_Pa_write_51 : decode c_C_Pa_write 51 = .ok (.iload_n 2, 1) := by decide +kernel
theorem dc_Pa_write_52 : decode c_C_Pa_write 52 = .ok (.invokevirtual 208, 3) := by decide +kernel
theorem dc_Pa_write_55 : decode c_C_Pa_write 55 = .ok (.aload_n 0, 1) := by decide +kernel
theorem dc_Pa_write_56 : decode c_C_Pa_write 56 = .ok (.invokevirtual 211, 3) := by decide +kernel
theorem dc_Pa_write_59 : decode c_C_Pa_write 59 = .ok (.aload_n 0, 1) := by decide +kernel
theorem dc_Pa_write_60 : decode c_C_Pa_write 60 = .ok (.iload_n 2, 1) := by decide +kernel
theorem dc_Pa_write_61 : decode c_C_Pa_write 61 = .ok (.invokevirtual 182, 3) := by decide +kernel
theorem dc_Pa_write_64 : decode c_C_Pa_write 64 = .ok (.aload_n 0, 1) := by decide +kernel
theorem dc_Pa_write_65 : decode c_C_Pa_write 65 = .ok (.sipush 217, 3) := by decide +kernel
theorem dc_Pa_write_68 : decode c_C_Pa_write 68 = .ok (.invokevirtual 195, 3) := by decide +kernel
theorem dc_Pa_write_71 : decode c_C_Pa_write 71 = .ok (.return_, 1) := by decide +kernel
theorem dc_B_pack_0 : decode c_C_B_pack 0 = .ok (.iload_n 1, 1) := by decide +kernel
theorem dc_B_pack_1 : decode c_C_B_pack 1 = .ok (.iconst 1, 1) := by decide +kernel
theorem dc_B_pack_2 : decode c_C_B_pack 2 = .ok (.iconst 2, 1) := by decide +kernel
theorem dc_B_pack_3 : decode c_C_B_pack 3 = .ok (.invokestatic 71, 3) := by decide +kernel
theorem dc_B_pack_6 : decode c_C_B_pack 6 = .ok (.ifCond .eq 22, 3) := by decide +kernel
theorem dc_B_pack_9 : decode c_C_B_pack 9 = .ok (.iload_n 2, 1) := by decide +kernel
theorem dc_B_pack_10 : decode c_C_B_pack 10 = .ok (.iconst 1, 1) := by decide +kernel
theorem dc_B_pack_11 : decode c_C_B_pack 11 = .ok (.iconst 2, 1) := by decide +kernel
theorem dc_B_pack_12 : decode c_C_B_pack 12 = .ok (.invokestatic 71, 3) := by decide +kernel
theorem dc_B_pack_15 : decode c_C_B_pack 15 = .ok (.ifCond .eq 13, 3) := by decide +kernel
theorem dc_B_pack_18 : decode c_C_B_pack 18 = .ok (.iload_n 3, 1) := by decide +kernel
theorem dc_B_pack_19 : decode c_C_B_pack 19 = .ok (.iconst 0, 1) := by decide +kernel
theorem dc_B_pack_20 : decode c_C_B_pack 20 = .ok (.ldc 120, 2) := by decide +kernel
theorem dc_B_pack_22 : decode c_C_B_pack 22 = .ok (.invokestatic 71, 3) := by decide +kernel
theorem dc_B_pack_25 : decode c_C_B_pack 25 = .ok (.ifCond .ne 13, 3) := by decide +kernel
theorem dc_B_pack_28 : decode c_C_B_pack 28 = .ok (.new 75, 3) := by decide +kernel
theorem dc_B_pack_31 : decode c_C_B_pack 31 = .ok (.dup, 1) := by decide +kernel
theorem dc_B_pack_32 : decode c_C_B_pack 32 = .ok (.ldc 121, 2) := by decide +kernel
theorem dc_B_pack_34 : decode c_C_B_pack 34 = .ok (.invokespecial 79, 3) := by decide +kernel
theorem dc_B_pack_37 : decode c_C_B_pack 37 = .ok (.athrow, 1) := by decide +kernel
theorem dc_B_pack_38 : decode c_C_B_pack 38 = .ok (.aload_n 0, 1) := by decide +kernel
theorem dc_B_pack_39 : decode c_C_B_pack 39 = .ok (.getfield 23, 3) := by decide +kernel
theorem dc_B_pack_42 : decode c_C_B_pack 42 = .ok (.aload_n 0, 1) := by decide +kernel
theorem dc_B_pack_43 : decode c_C_B_pack 43 = .ok (.getfield 12, 3) := by decide +kernel
theorem dc_B_pack_46 : decode c_C_B_pack 46 = .ok (.aload_n 0, 1) := by decide +kernel
theorem dc_B_pack_47 : decode c_C_B_pack 47 = .ok (.getfield 16, 3) := by decide +kernel
theorem dc_B_pack_50 : decode c_C_B_pack 50 = .ok (.iload_n 1, 1) := by decide +kernel
theorem dc_B_pack_51 : decode c_C_B_pack 51 = .ok (.iload_n 2, 1) := by decide +kernel
theorem dc_B_pack_52 : decode c_C_B_pack 52 = .ok (.invokevirtual 123, 3) := by decide +kernel
theorem dc_B_pack_55 : decode c_C_B_pack 55 = .ok (.aload_n 0, 1) := by decide +kernel
theorem dc_B_pack_56 : decode c_C_B_pack 56 = .ok (.getfield 23, 3) := by decide +kernel
theorem dc_B_pack_59 : decode c_C_B_pack 59 = .ok (.iload_n 3, 1) := by decide +kernel
theorem dc_B_pack_60 : decode c_C_B_pack 60 = .ok (.invokevirtual 127, 3) := by decide +kernel
theorem dc_B_pack_63 : decode c_C_B_pack 63 = .ok (.aload_n 0, 1) := by decide +kernel
theorem dc_B_pack_64 : decode c_C_B_pack 64 = .ok (.getfield 23, 3) := by decide +kernel
theorem dc_B_pack_67 : decode c_C_B_pack 67 = .ok (.aload_n 0, 1) := by decide +kernel
theorem dc_B_pack_68 : decode c_C_B_pack 68 = .ok (.getfield 16, 3) := by decide +kernel
theorem dc_B_pack_71 : decode c_C_B_pack 71 = .ok (.iload_n 3, 1) := by decide +kernel
theorem dc_B_pack_72 : decode c_C_B_pack 72 = .ok (.invokevirtual 131, 3) := by decide +kernel
theorem dc_B_pack_75 : decode c_C_B_pack 75 = .ok (.aload_n 0, 1) := by decide +kernel
theorem dc_B_pack_76 : decode c_C_B_pack 76 = .ok (.getfield 38, 3) := by decide +kernel
theorem dc_B_pack_79 : decode c_C_B_pack 79 = .ok (.getfield 134, 3) := by decide +kernel
theorem dc_B_pack_82 : decode c_C_B_pack 82 = .ok (.ireturn, 1) := by decide +kernel
theorem dc_B_size_0 : decode c_C_B_size 0 = .ok (.aload_n 0, 1) := by decide +kernel
theorem dc_B_size_1 : decode c_C_B_size 1 = .ok (.getfield 38, 3) := by decide +kernel
theorem dc_B_size_4 : decode c_C_B_size 4 = .ok (.getfield 134, 3) := by decide +kernel
theorem dc_B_size_7 : decode c_C_B_size 7 = .ok (.ireturn, 1) := by decide +kernel
theorem dc_Ro_has_0 : decode c_C_Ro_has 0 = .ok (.iload_n 1, 1) := by decide +kernel
theorem dc_Ro_has_1 : decode c_C_Ro_has 1 = .ok (.ifCond .lt 15, 3) := by decide +kernel
theorem dc_Ro_has_4 : decode c_C_Ro_has 4 = .ok (.iload_n 1, 1) := by decide +kernel
theorem dc_Ro_has_5 : decode c_C_Ro_has 5 = .ok (.aload_n 0, 1) := by decide +kernel
theorem dc_Ro_has_6 : decode c_C_Ro_has 6 = .ok (.getfield 19, 3) := by decide +kernel
theorem dc_Ro_has_9 : decode c_C_Ro_has 9 = .ok (.if_icmp .ge 7, 3) := by decide +kernel
theorem dc_Ro_has_12 : decode c_C_Ro_has 12 = .ok (.iconst 1, 1) := by decide +kernel
theorem dc_Ro_has_13 : decode c_C_Ro_has 13 = .ok (.goto 4, 3) := by decide +kernel
theorem dc_Ro_has_16 : decode c_C_Ro_has 16 = .ok (.iconst 0, 1) := by decide +kernel
theorem dc_Ro_has_17 : decode c_C_Ro_has 17 = .ok (.ireturn, 1) := by decide +kernel
