theorem dc_Ca_init_0 : decode c_C_Ca_init 0 = .ok (.aload_n 0, 1) := by decide +kernel
theorem dc_Ca_init_1 : decode c_C_Ca_init 1 = .ok (.invokespecial 3, 3) := by decide +kernel
theorem dc_Ca_init_4 : decode c_C_Ca_init 4 = .ok (.aload_n 0, 1) := by decide +kernel
theorem dc_Ca_init_5 : decode c_C_Ca_init 5 = .ok (.bipush 8, 2) := by decide +kernel
theorem dc_Ca_init_7 : decode c_C_Ca_init 7 = .ok (.putfield 9, 3) := by decide +kernel
theorem dc_Ca_init_10 : decode c_C_Ca_init 10 = .ok (.aload_n 0, 1) := by decide +kernel
theorem dc_Ca_init_11 : decode c_C_Ca_init 11 = .ok (.bipush 8, 2) := by decide +kernel
theorem dc_Ca_init_13 : decode c_C_Ca_init 13 = .ok (.putfield 15, 3) := by decide +kernel
theorem dc_Ca_init_16 : decode c_C_Ca_init 16 = .ok (.aload_n 0, 1) := by decide +kernel
theorem dc_Ca_init_17 : decode c_C_Ca_init 17 = .ok (.iconst 1, 1) := by decide +kernel
theorem dc_Ca_init_18 : decode c_C_Ca_init 18 = .ok (.putfield 18, 3) := by decide +kernel
theorem dc_Ca_init_21 : decode c_C_Ca_init 21 = .ok (.aload_n 0, 1) := by decide +kernel
theorem dc_Ca_init_22 : decode c_C_Ca_init 22 = .ok (.sipush 12288, 3) := by decide +kernel
theorem dc_Ca_init_25 : decode c_C_Ca_init 25 = .ok (.newarray .int, 2) := by decide +kernel
theorem dc_Ca_init_27 : decode c_C_Ca_init 27 = .ok (.putfield 21, 3) := by decide +kernel
theorem dc_Ca_init_30 : decode c_C_Ca_init 30 = .ok (.return_, 1) := by decide +kernel
theorem dc_Ro_init_0 : decode c_C_Ro_init 0 = .ok (.aload_n 0, 1) := by decide +kernel
theorem dc_Ro_init_1 : decode c_C_Ro_init 1 = .ok (.invokespecial 1, 3) := by decide +kernel
theorem dc_Ro_init_4 : decode c_C_Ro_init 4 = .ok (.aload_n 0, 1) := by decide +kernel
theorem dc_Ro_init_5 : decode c_C_Ro_init 5 = .ok (.iconst 0, 1) := by decide +kernel
theorem dc_Ro_init_6 : decode c_C_Ro_init 6 = .ok (.iload_n 1, 1) := by decide +kernel
theorem dc_Ro_init_7 : decode c_C_Ro_init 7 = .ok (.invokestatic 7, 3) := by decide +kernel
theorem dc_Ro_init_10 : decode c_C_Ro_init 10 = .ok (.newarray .int, 2) := by decide +kernel
theorem dc_Ro_init_12 : decode c_C_Ro_init 12 = .ok (.putfield 13, 3) := by decide +kernel
theorem dc_Ro_init_15 : decode c_C_Ro_init 15 = .ok (.return_, 1) := by decide +kernel
theorem dc_Wa_init_0 : decode c_C_Wa_init 0 = .ok (.aload_n 0, 1) := by decide +kernel
theorem dc_Wa_init_1 : decode c_C_Wa_init 1 = .ok (.invokespecial 3, 3) := by decide +kernel
theorem dc_Wa_init_4 : decode c_C_Wa_init 4 = .ok (.aload_n 0, 1) := by decide +kernel
theorem dc_Wa_init_5 : decode c_C_Wa_init 5 = .ok (.bipush 64, 2) := by decide +kernel
theorem dc_Wa_init_7 : decode c_C_Wa_init 7 = .ok (.newarray .int, 2) := by decide +kernel
theorem dc_Wa_init_9 : decode c_C_Wa_init 9 = .ok (.putfield 9, 3) := by decide +kernel
theorem dc_Wa_init_12 : decode c_C_Wa_init 12 = .ok (.aload_n 0, 1) := by decide +kernel
theorem dc_Wa_init_13 : decode c_C_Wa_init 13 = .ok (.bipush 64, 2) := by decide +kernel
theorem dc_Wa_init_15 : decode c_C_Wa_init 15 = .ok (.newarray .int, 2) := by decide +kernel
theorem dc_Wa_init_17 : decode c_C_Wa_init 17 = .ok (.putfield 15, 3) := by decide +kernel
theorem dc_Wa_init_20 : decode c_C_Wa_init 20 = .ok (.aload_n 0, 1) := by decide +kernel
theorem dc_Wa_init_21 : decode c_C_Wa_init 21 = .ok (.bipush 64, 2) := by decide +kernel
theorem dc_Wa_init_23 : decode c_C_Wa_init 23 = .ok (.newarray .int, 2) := by decide +kernel
theorem dc_Wa_init_25 : decode c_C_Wa_init 25 = .ok (.putfield 18, 3) := by decide +kernel
theorem dc_Wa_init_28 : decode c_C_Wa_init 28 = .ok (.aload_n 0, 1) := by decide +kernel
theorem dc_Wa_init_29 : decode c_C_Wa_init 29 = .ok (.bipush 64, 2) := by decide +kernel
theorem dc_Wa_init_31 : decode c_C_Wa_init 31 = .ok (.newarray .long, 2) := by decide +kernel
theorem dc_Wa_init_33 : decode c_C_Wa_init 33 = .ok (.putfield 21, 3) := by decide +kernel
theorem dc_Wa_init_36 : decode c_C_Wa_init 36 = .ok (.iconst 0, 1) := by decide +kernel
theorem dc_Wa_init_37 : decode c_C_Wa_init 37 = .ok (.istore_n 1, 1) := by decide +kernel
theorem dc_Wa_init_38 : decode c_C_Wa_init 38 = .ok (.iload_n 1, 1) := by decide +kernel
theorem dc_Wa_init_39 : decode c_C_Wa_init 39 = .ok (.bipush 64, 2) := by decide +kernel
theorem dc_Wa_init_41 : decode c_C_Wa_init 41 = .ok (.if_icmp .ge 48, 3) := by decide +kernel
theorem dc_Wa_init_44 : decode c_C_Wa_init 44 = .ok (.iload_n 1, 1) := by decide +kernel
theorem dc_Wa_init_45 : decode c_C_Wa_init 45 = .ok (.bipush 8, 2) := by decide +kernel
theorem dc_Wa_init_47 : decode c_C_Wa_init 47 = .ok (.idiv, 1) := by decide +kernel
theorem dc_Wa_init_48 : decode c_C_Wa_init 48 = .ok (.istore_n 2, 1) := by decide +kernel
theorem dc_Wa_init_49 : decode c_C_Wa_init 49 = .ok (.aload_n 0, 1) := by decide +kernel
theorem dc_Wa_init_50 : decode c_C_Wa_init 50 = .ok (.getfield 9, 3) := by decide +kernel
theorem dc_Wa_init_53 : decode c_C_Wa_init 53 = .ok (.iload_n 1, 1) := by decide +kernel
theorem dc_Wa_init_54 : decode c_C_Wa_init 54 = .ok (.iload_n 2, 1) := by decide +kernel
theorem dc_Wa_init_55 : decode c_C_Wa_init 55 = .ok (.ifCond .ne 11, 3) := by decide +kernel
theorem dc_Wa_init_58 : decode c_C_Wa_init 58 = .ok (.getstatic 25, 3) := by decide +kernel
theorem dc_Wa_init_61 : decode c_C_Wa_init 61 = .ok (.iconst 4, 1) := by decide +kernel
theorem dc_Wa_init_62 : decode c_C_Wa_init 62 = .ok (.iaload, 1) := by decide +kernel
theorem dc_Wa_init_63 : decode c_C_Wa_init 63 = .ok (.goto 19, 3) := by decide +kernel
theorem dc_Wa_init_66 : decode c_C_Wa_init 66 = .ok (.iconst 2, 1) := by decide +kernel
theorem dc_Wa_init_67 : decode c_C_Wa_init 67 = .ok (.iload_n 1, 1) := by decide +kernel
theorem dc_Wa_init_68 : decode c_C_Wa_init 68 = .ok (.bipush 8, 2) := by decide +kernel
theorem dc_Wa_init_70 : decode c_C_Wa_init 70 = .ok (.irem, 1) := by decide +kernel
theorem dc_Wa_init_71 : decode c_C_Wa_init 71 = .ok (.imul, 1) := by decide +kernel
theorem dc_Wa_init_72 : decode c_C_Wa_init 72 = .ok (.iconst 1, 1) := by decide +kernel
theorem dc_Wa_init_73 : decode c_C_Wa_init 73 = .ok (.iadd, 1) := by decide +kernel
theorem dc_Wa_init_74 : decode c_C_Wa_init 74 = .ok (.iload_n 2, 1) := by decide +kernel
theorem dc_Wa_init_75 : decode c_C_Wa_init 75 = .ok (.imul, 1) := by decide +kernel
theorem dc_Wa_init_76 : decode c_C_Wa_init 76 = .ok (.bipush 32, 2) := by decide +kernel
theorem dc_Wa_init_78 : decode c_C_Wa_init 78 = .ok (.irem, 1) := by decide +kernel
theorem dc_Wa_init_79 : decode c_C_Wa_init 79 = .ok (.invokestatic 28, 3) := by decide +kernel
theorem dc_Wa_init_82 : decode c_C_Wa_init 82 = .ok (.iastore, 1) := by decide +kernel
theorem dc_Wa_init_83 : decode c_C_Wa_init 83 = .ok (.iinc 1 1, 3) := by decide +kernel
theorem dc_Wa_init_86 : decode c_C_Wa_init 86 = .ok (.goto (-48), 3) := by decide +kernel
theorem dc_Wa_init_89 : decode c_C_Wa_init 89 = .ok (.return_, 1) := by decide +kernel
theorem dc_Pi_init_0 : decode c_C_Pi_init 0 = .ok (.aload_n 0, 1) := by decide +kernel
theorem dc_Pi_init_1 : decode c_C_Pi_init 1 = .ok (.invokespecial 3, 3) := by decide +kernel
theorem dc_Pi_init_4 : decode c_C_Pi_init 4 = .ok (.aload_n 0, 1) := by decide +kernel
theorem dc_Pi_init_5 : decode c_C_Pi_init 5 = .ok (.iconst 1, 1) := by decide +kernel
theorem dc_Pi_init_6 : decode c_C_Pi_init 6 = .ok (.putfield 9, 3) := by decide +kernel
theorem dc_Pi_init_9 : decode c_C_Pi_init 9 = .ok (.aload_n 0, 1) := by decide +kernel
theorem dc_Pi_init_10 : decode c_C_Pi_init 10 = .ok (.iconst 1, 1) := by decide +kernel
theorem dc_Pi_init_11 : decode c_C_Pi_init 11 = .ok (.putfield 15, 3) := by decide +kernel
theorem dc_Pi_init_14 : decode c_C_Pi_init 14 = .ok (.aload_n 0, 1) := by decide +kernel
theorem dc_Pi_init_15 : decode c_C_Pi_init 15 = .ok (.iconst 1, 1) := by decide +kernel
theorem dc_Pi_init_16 : decode c_C_Pi_init 16 = .ok (.putfield 18, 3) := by decide +kernel
theorem dc_Pi_init_19 : decode c_C_Pi_init 19 = .ok (.aload_n 0, 1) := by decide +kernel
theorem dc_Pi_init_20 : decode c_C_Pi_init 20 = .ok (.iconst 3, 1) := by decide +kernel
theorem dc_Pi_init_21 : decode c_C_Pi_init 21 = .ok (.newarray .int, 2) := by decide +kernel
theorem dc_Pi_init_23 : decode c_C_Pi_init 23 = .ok (.dup, 1) := by decide +kernel
theorem dc_Pi_init_24 : decode c_C_Pi_init 24 = .ok (.iconst 0, 1) := by decide +kernel
theorem dc_Pi_init_25 : decode c_C_Pi_init 25 = .ok (.iconst 1, 1) := by decide +kernel
theorem dc_Pi_init_26 : decode c_C_Pi_init 26 = .ok (.iastore, 1) := by decide +kernel
theorem dc_Pi_init_27 : decode c_C_Pi_init 27 = .ok (.dup, 1) := by decide +kernel
theorem dc_Pi_init_28 : decode c_C_Pi_init 28 = .ok (.iconst 1, 1) := by decide +kernel
theorem dc_Pi_init_29 : decode c_C_Pi_init 29 = .ok (.iconst 1, 1) := by decide +kernel
theorem dc_Pi_init_30 : decode c_C_Pi_init 30 = .ok (.iastore, 1) := by decide +kernel
theorem dc_Pi_init_31 : decode c_C_Pi_init 31 = .ok (.dup, 1) := by decide +kernel
theorem dc_Pi_init_32 : decode c_C_Pi_init 32 = .ok (.iconst 2, 1) := by decide +kernel
theorem dc_Pi_init_33 : decode c_C_Pi_init 33 = .ok (.iconst 1, 1) := by decide +kernel
theorem dc_Pi_init_34 : decode c_C_Pi_init 34 = .ok (.iastore, 1) := by decide +kernel
theorem dc_Pi_init_35 : decode c_C_Pi_init 35 = .ok (.putfield 21, 3) := by decide +kernel
theorem dc_Pi_init_38 : decode c_C_Pi_init 38 = .ok (.aload_n 0, 1) := by decide +kernel
theorem dc_Pi_init_39 : decode c_C_Pi_init 39 = .ok (.iconst 3, 1) := by decide +kernel
theorem dc_Pi_init_40 : decode c_C_Pi_init 40 = .ok (.newarray .int, 2) := by decide +kernel
theorem dc_Pi_init_42 : decode c_C_Pi_init 42 = .ok (.dup, 1) := by decide +kernel
theorem dc_Pi_init_43 : decode c_C_Pi_init 43 = .ok (.iconst 0, 1) := by decide +kernel
theorem dc_Pi_init_44 : decode c_C_Pi_init 44 = .ok (.iconst 1, 1) := by decide +kernel
theorem dc_Pi_init_45 : decode c_C_Pi_init 45 = .ok (.iastore, 1) := by decide +kernel
theorem dc_Pi_init_46 : decode c_C_Pi_init 46 = .ok (.dup, 1) := by decide +kernel
theorem dc_Pi_init_47 : decode c_C_Pi_init 47 = .ok (.iconst 1, 1) := by decide +kernel
theorem dc_Pi_init_48 : decode c_C_Pi_init 48 = .ok (.iconst 1, 1) := by decide +kernel
theorem dc_Pi_init_49 : decode c_C_Pi_init 49 = .ok (.iastore, 1) := by decide +kernel
theorem dc_Pi_init_50 : decode c_C_Pi_init 50 = .ok (.dup, 1) := by decide +kernel
theorem dc_Pi_init_51 : decode c_C_Pi_init 51 = .ok (.iconst 2, 1) := by decide +kernel
theorem dc_Pi_init_52 : decode c_C_Pi_init 52 = .ok (.iconst 1, 1) := by decide +kernel
theorem dc_Pi_init_53 : decode c_C_Pi_init 53 = .ok (.iastore, 1) := by decide +kernel
theorem dc_Pi_init_54 : decode c_C_Pi_init 54 = .ok (.putfield 25, 3) := by decide +kernel
theorem dc_Pi_init_57 : decode c_C_Pi_init 57 = .ok (.aload_n 0, 1) := by decide +kernel
theorem dc_Pi_init_58 : decode c_C_Pi_init 58 = .ok (.iconst 1, 1) := by decide +kernel
theorem dc_Pi_init_59 : decode c_C_Pi_init 59 = .ok (.putfield 28, 3) := by decide +kernel
theorem dc_Pi_init_62 : decode c_C_Pi_init 62 = .ok (.aload_n 0, 1) := by decide +kernel
theorem dc_Pi_init_63 : decode c_C_Pi_init 63 = .ok (.iconst 1, 1) := by decide +kernel
theorem dc_Pi_init_64 : decode c_C_Pi_init 64 = .ok (.putfield 31, 3) := by decide +kernel
theorem dc_Pi_init_67 : decode c_C_Pi_init 67 = .ok (.aload_n 0, 1) := by decide +kernel
theorem dc_Pi_init_68 : decode c_C_Pi_init 68 = .ok (.iconst 1, 1) := by decide +kernel
theorem dc_Pi_init_69 : decode c_C_Pi_init 69 = .ok (.putfield 34, 3) := by decide +kernel
theorem dc_Pi_init_72 : decode c_C_Pi_init 72 = .ok (.aload_n 0, 1) := by decide +kernel
theorem dc_Pi_init_73 : decode c_C_Pi_init 73 = .ok (.iconst 1, 1) := by decide +kernel
theorem dc_Pi_init_74 : decode c_C_Pi_init 74 = .ok (.putfield 37, 3) := by decide +kernel
theorem dc_Pi_init_77 : decode c_C_Pi_init 77 = .ok (.aload_n 0, 1) := by decide +kernel
theorem dc_Pi_init_78 : decode c_C_Pi_init 78 = .ok (.iconst 3, 1) := by decide +kernel
theorem dc_Pi_init_79 : decode c_C_Pi_init 79 = .ok (.newarray .int, 2) := by decide +kernel
theorem dc_Pi_init_81 : decode c_C_Pi_init 81 = .ok (.putfield 40, 3) := by decide +kernel
theorem dc_Pi_init_84 : decode c_C_Pi_init 84 = .ok (.aload_n 0, 1) := by decide +kernel
theorem dc_Pi_init_85 : decode c_C_Pi_init 85 = .ok (.iconst 3, 1) := by decide +kernel
theorem dc_Pi_init_86 : decode c_C_Pi_init 86 = .ok (.newarray .int, 2) := by decide +kernel
theorem dc_Pi_init_88 : decode c_C_Pi_init 88 = .ok (.putfield 43, 3) := by decide +kernel
theorem dc_Pi_init_91 : decode c_C_Pi_init 91 = .ok (.aload_n 0, 1) := by decide +kernel
theorem dc_Pi_init_92 : decode c_C_Pi_init 92 = .ok (.iconst 3, 1) := by decide +kernel
theorem dc_Pi_init_93 : decode c_C_Pi_init 93 = .ok (.newarray .int, 2) := by decide +kernel
theorem dc_Pi_init_95 : decode c_C_Pi_init 95 = .ok (.putfield 46, 3) := by decide +kernel
theorem dc_Pi_init_98 : decode c_C_Pi_init 98 = .ok (.aload_n 0, 1) := by decide +kernel
theorem dc_Pi_init_99 : decode c_C_Pi_init 99 = .ok (.iconst 3, 1) := by decide +kernel
theorem dc_Pi_init_100 : decode c_C_Pi_init 100 = .ok (.newarray .int, 2) := by decide +kernel
theorem dc_Pi_init_102 : decode c_C_Pi_init 102 = .ok (.putfield 49, 3) := by decide +kernel
theorem dc_Pi_init_105 : decode c_C_Pi_init 105 = .ok (.aload_n 0, 1) := by decide +kernel
theorem dc_Pi_init_106 : decode c_C_Pi_init 106 = .ok (.sipush 12288, 3) := by decide +kernel
theorem dc_Pi_init_109 : decode c_C_Pi_init 109 = .ok (.newarray .int, 2) := by decide +kernel
theorem dc_Pi_init_111 : decode c_C_Pi_init 111 = .ok (.putfield 52, 3) := by decide +kernel
theorem dc_Pi_init_114 : decode c_C_Pi_init 114 = .ok (.aload_n 0, 1) := by decide +kernel
theorem dc_Pi_init_115 : decode c_C_Pi_init 115 = .ok (.sipush 192, 3) := by decide +kernel
theorem dc_Pi_init_118 : decode c_C_Pi_init 118 = .ok (.newarray .int, 2) := by decide +kernel
theorem dc_Pi_init_120 : decode c_C_Pi_init 120 = .ok (.putfield 55, 3) := by decide +kernel
theorem dc_Pi_init_123 : decode c_C_Pi_init 123 = .ok (.aload_n 0, 1) := by decide +kernel
theorem dc_Pi_init_124 : decode c_C_Pi_init 124 = .ok (.sipush 12288, 3) := by decide +kernel
theorem dc_Pi_init_127 : decode c_C_Pi_init 127 = .ok (.newarray .int, 2) := by decide +kernel
theorem dc_Pi_init_129 : decode c_C_Pi_init 129 = .ok (.putfield 58, 3) := by decide +kernel
theorem dc_Pi_init_132 : decode c_C_Pi_init 132 = .ok (.return_, 1) := by decide +kernel
theorem dc_Sc_init_0 : decode c_C_Sc_init 0 = .ok (.aload_n 0, 1) := by decide +kernel
theorem dc_Sc_init_1 : decode c_C_Sc_init 1 = .ok (.invokespecial 3, 3) := by decide +kernel
theorem dc_Sc_init_4 : decode c_C_Sc_init 4 = .ok (.aload_n 0, 1) := by decide +kernel
theorem dc_Sc_init_5 : decode c_C_Sc_init 5 = .ok (.iconst 3, 1) := by decide +kernel
theorem dc_Sc_init_6 : decode c_C_Sc_init 6 = .ok (.newarray .int, 2) := by decide +kernel
theorem dc_Sc_init_8 : decode c_C_Sc_init 8 = .ok (.putfield 9, 3) := by decide +kernel
theorem dc_Sc_init_11 : decode c_C_Sc_init 11 = .ok (.aload_n 0, 1) := by decide +kernel
theorem dc_Sc_init_12 : decode c_C_Sc_init 12 = .ok (.iconst 3, 1) := by decide +kernel
theorem dc_Sc_init_13 : decode c_C_Sc_init 13 = .ok (.newarray .int, 2) := by decide +kernel
theorem dc_Sc_init_15 : decode c_C_Sc_init 15 = .ok (.putfield 15, 3) := by decide +kernel
theorem dc_Sc_init_18 : decode c_C_Sc_init 18 = .ok (.aload_n 0, 1) := by decide +kernel
theorem dc_Sc_init_19 : decode c_C_Sc_init 19 = .ok (.iconst 3, 1) := by decide +kernel
theorem dc_Sc_init_20 : decode c_C_Sc_init 20 = .ok (.newarray .int, 2) := by decide +kernel
theorem dc_Sc_init_22 : decode c_C_Sc_init 22 = .ok (.putfield 18, 3) := by decide +kernel
theorem dc_Sc_init_25 : decode c_C_Sc_init 25 = .ok (.aload_n 0, 1) := by decide +kernel
theorem dc_Sc_init_26 : decode c_C_Sc_init 26 = .ok (.sipush 192, 3) := by decide +kernel
theorem dc_Sc_init_29 : decode c_C_Sc_init 29 = .ok (.newarray .int, 2) := by decide +kernel
theorem dc_Sc_init_31 : decode c_C_Sc_init 31 = .ok (.putfield 21, 3) := by decide +kernel
theorem dc_Sc_init_34 : decode c_C_Sc_init 34 = .ok (.return_, 1) := by decide +kernel
theorem dc_Li_init_0 : decode c_C_Li_init 0 = .ok (.aload_n 0, 1) := by decide +kernel
theorem dc_Li_init_1 : decode c_C_Li_init 1 = .ok (.invokespecial 7, 3) := by decide +kernel
theorem dc_Li_init_4 : decode c_C_Li_init 4 = .ok (.aload_n 0, 1) := by decide +kernel
theorem dc_Li_init_5 : decode c_C_Li_init 5 = .ok (.sipush 257, 3) := by decide +kernel
theorem dc_Li_init_8 : decode c_C_Li_init 8 = .ok (.newarray .int, 2) := by decide +kernel
theorem dc_Li_init_10 : decode c_C_Li_init 10 = .ok (.putfield 13, 3) := by decide +kernel
theorem dc_Li_init_13 : decode c_C_Li_init 13 = .ok (.aload_n 0, 1) := by decide +kernel
theorem dc_Li_init_14 : decode c_C_Li_init 14 = .ok (.sipush 8224, 3) := by decide +kernel
theorem dc_Li_init_17 : decode c_C_Li_init 17 = .ok (.newarray .boolean, 2) := by decide +kernel
theorem dc_Li_init_19 : decode c_C_Li_init 19 = .ok (.putfield 17, 3) := by decide +kernel
theorem dc_Li_init_22 : decode c_C_Li_init 22 = .ok (.aload_n 0, 1) := by decide +kernel
theorem dc_Li_init_23 : decode c_C_Li_init 23 = .ok (.sipush 514, 3) := by decide +kernel
theorem dc_Li_init_26 : decode c_C_Li_init 26 = .ok (.newarray .int, 2) := by decide +kernel
theorem dc_Li_init_28 : decode c_C_Li_init 28 = .ok (.putfield 21, 3) := by decide +kernel
theorem dc_Li_init_31 : decode c_C_Li_init 31 = .ok (.aload_n 0, 1) := by decide +kernel
theorem dc_Li_init_32 : decode c_C_Li_init 32 = .ok (.sipush 514, 3) := by decide +kernel
theorem dc_Li_init_35 : decode c_C_Li_init 35 = .ok (.newarray .int, 2) := by decide +kernel
theorem dc_Li_init_37 : decode c_C_Li_init 37 = .ok (.putfield 24, 3) := by decide +kernel
theorem dc_Li_init_40 : decode c_C_Li_init 40 = .ok (.return_, 1) := by decide +kernel
theorem dc_Oc_init_0 : decode c_C_Oc_init 0 = .ok (.aload_n 0, 1) := by decide +kernel
theorem dc_Oc_init_1 : decode c_C_Oc_init 1 = .ok (.invokespecial 3, 3) := by decide +kernel
theorem dc_Oc_init_4 : decode c_C_Oc_init 4 = .ok (.aload_n 0, 1) := by decide +kernel
theorem dc_Oc_init_5 : decode c_C_Oc_init 5 = .ok (.sipush 257, 3) := by decide +kernel
theorem dc_Oc_init_8 : decode c_C_Oc_init 8 = .ok (.newarray .int, 2) := by decide +kernel
theorem dc_Oc_init_10 : decode c_C_Oc_init 10 = .ok (.putfield 11, 3) := by decide +kernel
theorem dc_Oc_init_13 : decode c_C_Oc_init 13 = .ok (.aload_n 0, 1) := by decide +kernel
theorem dc_Oc_init_14 : decode c_C_Oc_init 14 = .ok (.sipush 257, 3) := by decide +kernel
theorem dc_Oc_init_17 : decode c_C_Oc_init 17 = .ok (.newarray .int, 2) := by decide +kernel
theorem dc_Oc_init_19 : decode c_C_Oc_init 19 = .ok (.putfield 15, 3) := by decide +kernel
theorem dc_Oc_init_22 : decode c_C_Oc_init 22 = .ok (.aload_n 0, 1) := by decide +kernel
theorem dc_Oc_init_23 : decode c_C_Oc_init 23 = .ok (.sipush 256, 3) := by decide +kernel
theorem dc_Oc_init_26 : decode c_C_Oc_init 26 = .ok (.newarray .int, 2) := by decide +kernel
theorem dc_Oc_init_28 : decode c_C_Oc_init 28 = .ok (.putfield 18, 3) := by decide +kernel
theorem dc_Oc_init_31 : decode c_C_Oc_init 31 = .ok (.aload_n 0, 1) := by decide +kernel
theorem dc_Oc_init_32 : decode c_C_Oc_init 32 = .ok (.sipush 256, 3) := by decide +kernel
theorem dc_Oc_init_35 : decode c_C_Oc_init 35 = .ok (.newarray .int, 2) := by decide +kernel
theorem dc_Oc_init_37 : decode c_C_Oc_init 37 = .ok (.putfield 21, 3) := by decide +kernel
theorem dc_Oc_init_40 : decode c_C_Oc_init 40 = .ok (.aload_n 0, 1) := by decide +kernel
theorem dc_Oc_init_41 : decode c_C_Oc_init 41 = .ok (.bipush 17, 2) := by decide +kernel
theorem dc_Oc_init_43 : decode c_C_Oc_init 43 = .ok (.newarray .int, 2) := by decide +kernel
theorem dc_Oc_init_45 : decode c_C_Oc_init 45 = .ok (.putfield 24, 3) := by decide +kernel
theorem dc_Oc_init_48 : decode c_C_Oc_init 48 = .ok (.return_, 1) := by decide +kernel
theorem dc_Pa_init_0 : decode c_C_Pa_init 0 = .ok (.aload_n 0, 1) := by decide +kernel
theorem dc_Pa_init_1 : decode c_C_Pa_init 1 = .ok (.invokespecial 3, 3) := by decide +kernel
theorem dc_Pa_init_4 : decode c_C_Pa_init 4 = .ok (.aload_n 0, 1) := by decide +kernel
theorem dc_Pa_init_5 : decode c_C_Pa_init 5 = .ok (.new 9, 3) := by decide +kernel
theorem dc_Pa_init_8 : decode c_C_Pa_init 8 = .ok (.dup, 1) := by decide +kernel
theorem dc_Pa_init_9 : decode c_C_Pa_init 9 = .ok (.ldc 11, 2) := by decide +kernel
theorem dc_Pa_init_11 : decode c_C_Pa_init 11 = .ok (.invokespecial 12, 3) := by decide +kernel
theorem dc_Pa_init_14 : decode c_C_Pa_init 14 = .ok (.putfield 15, 3) := by decide +kernel
theorem dc_Pa_init_17 : decode c_C_Pa_init 17 = .ok (.aload_n 0, 1) := by decide +kernel
theorem dc_Pa_init_18 : decode c_C_Pa_init 18 = .ok (.new 21, 3) := by decide +kernel
theorem dc_Pa_init_21 : decode c_C_Pa_init 21 = .ok (.dup, 1) := by decide +kernel
theorem dc_Pa_init_22 : decode c_C_Pa_init 22 = .ok (.invokespecial 23, 3) := by decide +kernel
theorem dc_Pa_init_25 : decode c_C_Pa_init 25 = .ok (.putfield 24, 3) := by decide +kernel
theorem dc_Pa_init_28 : decode c_C_Pa_init 28 = .ok (.aload_n 0, 1) := by decide +kernel
theorem dc_Pa_init_29 : decode c_C_Pa_init 29 = .ok (.new 28, 3) := by decide +kernel
theorem dc_Pa_init_32 : decode c_C_Pa_init 32 = .ok (.dup, 1) := by decide +kernel
theorem dc_Pa_init_33 : decode c_C_Pa_init 33 = .ok (.invokespecial 30, 3) := by decide +kernel
theorem dc_Pa_init_36 : decode c_C_Pa_init 36 = .ok (.putfield 31, 3) := by decide +kernel
theorem dc_Pa_init_39 : decode c_C_Pa_init 39 = .ok (.aload_n 0, 1) := by decide +kernel
theorem dc_Pa_init_40 : decode c_C_Pa_init 40 = .ok (.new 35, 3) := by decide +kernel
theorem dc_Pa_init_43 : decode c_C_Pa_init 43 = .ok (.dup, 1) := by decide +kernel
theorem dc_Pa_init_44 : decode c_C_Pa_init 44 = .ok (.invokespecial 37, 3) := by decide +kernel
theorem dc_Pa_init_47 : decode c_C_Pa_init 47 = .ok (.putfield 38, 3) := by decide +kernel
theorem dc_Pa_init_50 : decode c_C_Pa_init 50 = .ok (.aload_n 0, 1) := by decide +kernel
theorem dc_Pa_init_51 : decode c_C_Pa_init 51 = .ok (.new 42, 3) := by decide +kernel
theorem dc_Pa_init_54 : decode c_C_Pa_init 54 = .ok (.dup, 1) := by decide +kernel
theorem dc_Pa_init_55 : decode c_C_Pa_init 55 = .ok (.invokespecial 44, 3) := by decide +kernel
theorem dc_Pa_init_58 : decode c_C_Pa_init 58 = .ok (.putfield 45, 3) := by decide +kernel
theorem dc_Pa_init_61 : decode c_C_Pa_init 61 = .ok (.aload_n 0, 1) := by decide +kernel
theorem dc_Pa_init_62 : decode c_C_Pa_init 62 = .ok (.iconst 2, 1) := by decide +kernel
theorem dc_Pa_init_63 : decode c_C_Pa_init 63 = .ok (.anewarray 49, 3) := by decide +kernel
theorem dc_Pa_init_66 : decode c_C_Pa_init 66 = .ok (.dup, 1) := by decide +kernel
theorem dc_Pa_init_67 : decode c_C_Pa_init 67 = .ok (.iconst 0, 1) := by decide +kernel
theorem dc_Pa_init_68 : decode c_C_Pa_init 68 = .ok (.new 49, 3) := by decide +kernel
theorem dc_Pa_init_71 : decode c_C_Pa_init 71 = .ok (.dup, 1) := by decide +kernel
theorem dc_Pa_init_72 : decode c_C_Pa_init 72 = .ok (.invokespecial 51, 3) := by decide +kernel
theorem dc_Pa_init_75 : decode c_C_Pa_init 75 = .ok (.aastore, 1) := by decide +kernel
theorem dc_Pa_init_76 : decode c_C_Pa_init 76 = .ok (.dup, 1) := by decide +kernel
theorem dc_Pa_init_77 : decode c_C_Pa_init 77 = .ok (.iconst 1, 1) := by decide +kernel
theorem dc_Pa_init_78 : decode c_C_Pa_init 78 = .ok (.new 49, 3) := by decide +kernel
theorem dc_Pa_init_81 : decode c_C_Pa_init 81 = .ok (.dup, 1) := by decide +kernel
theorem dc_Pa_init_82 : decode c_C_Pa_init 82 = .ok (.invokespecial 51, 3) := by decide +kernel
theorem dc_Pa_init_85 : decode c_C_Pa_init 85 = .ok (.aastore, 1) := by decide +kernel
theorem dc_Pa_init_86 : decode c_C_Pa_init 86 = .ok (.putfield 52, 3) := by decide +kernel
theorem dc_Pa_init_89 : decode c_C_Pa_init 89 = .ok (.aload_n 0, 1) := by decide +kernel
theorem dc_Pa_init_90 : decode c_C_Pa_init 90 = .ok (.iconst 2, 1) := by decide +kernel
theorem dc_Pa_init_91 : decode c_C_Pa_init 91 = .ok (.anewarray 49, 3) := by decide +kernel
theorem dc_Pa_init_94 : decode c_C_Pa_init 94 = .ok (.dup, 1) := by decide +kernel
theorem dc_Pa_init_95 : decode c_C_Pa_init 95 = .ok (.iconst 0, 1) := by decide +kernel
theorem dc_Pa_init_96 : decode c_C_Pa_init 96 = .ok (.new 49, 3) := by decide +kernel
theorem dc_Pa_init_99 : decode c_C_Pa_init 99 = .ok (.dup, 1) := by decide +kernel
theorem dc_Pa_init_100 : decode c_C_Pa_init 100 = .ok (.invokespecial 51, 3) := by decide +kernel
theorem dc_Pa_init_103 : decode c_C_Pa_init 103 = .ok (.aastore, 1) := by decide +kernel
theorem dc_Pa_init_104 : decode c_C_Pa_init 104 = .ok (.dup, 1) := by decide +kernel
theorem dc_Pa_init_105 : decode c_C_Pa_init 105 = .ok (.iconst 1, 1) := by decide +kernel
theorem dc_Pa_init_106 : decode c_C_Pa_init 106 = .ok (.new 49, 3) := by decide +kernel
theorem dc_Pa_init_109 : decode c_C_Pa_init 109 = .ok (.dup, 1) := by decide +kernel
theorem dc_Pa_init_110 : decode c_C_Pa_init 110 = .ok (.invokespecial 51, 3) := by decide +kernel
theorem dc_Pa_init_113 : decode c_C_Pa_init 113 = .ok (.aastore, 1) := by decide +kernel
theorem dc_Pa_init_114 : decode c_C_Pa_init 114 = .ok (.putfield 56, 3) := by decide +kernel
theorem dc_Pa_init_117 : decode c_C_Pa_init 117 = .ok (.aload_n 0, 1) := by decide +kernel
theorem dc_Pa_init_118 : decode c_C_Pa_init 118 = .ok (.iconst 3, 1) := by decide +kernel
theorem dc_Pa_init_119 : decode c_C_Pa_init 119 = .ok (.newarray .int, 2) := by decide +kernel
theorem dc_Pa_init_121 : decode c_C_Pa_init 121 = .ok (.putfield 59, 3) := by decide +kernel
theorem dc_Pa_init_124 : decode c_C_Pa_init 124 = .ok (.return_, 1) := by decide +kernel
theorem dc_Re_init_0 : decode c_C_Re_init 0 = .ok (.aload_n 0, 1) := by decide +kernel
theorem dc_Re_init_1 : decode c_C_Re_init 1 = .ok (.invokespecial 3, 3) := by decide +kernel
theorem dc_Re_init_4 : decode c_C_Re_init 4 = .ok (.aload_n 0, 1) := by decide +kernel
theorem dc_Re_init_5 : decode c_C_Re_init 5 = .ok (.new 9, 3) := by decide +kernel
theorem dc_Re_init_8 : decode c_C_Re_init 8 = .ok (.dup, 1) := by decide +kernel
theorem dc_Re_init_9 : decode c_C_Re_init 9 = .ok (.ldc 11, 2) := by decide +kernel
theorem dc_Re_init_11 : decode c_C_Re_init 11 = .ok (.invokespecial 12, 3) := by decide +kernel
theorem dc_Re_init_14 : decode c_C_Re_init 14 = .ok (.putfield 15, 3) := by decide +kernel
theorem dc_Re_init_17 : decode c_C_Re_init 17 = .ok (.return_, 1) := by decide +kernel
theorem dc_Co_init_0 : decode c_C_Co_init 0 = .ok (.aload_n 0, 1) := by decide +kernel
theorem dc_Co_init_1 : decode c_C_Co_init 1 = .ok (.invokespecial 3, 3) := by decide +kernel
theorem dc_Co_init_4 : decode c_C_Co_init 4 = .ok (.aload_n 0, 1) := by decide +kernel
theorem dc_Co_init_5 : decode c_C_Co_init 5 = .ok (.bipush 17, 2) := by decide +kernel
theorem dc_Co_init_7 : decode c_C_Co_init 7 = .ok (.newarray .int, 2) := by decide +kernel
theorem dc_Co_init_9 : decode c_C_Co_init 9 = .ok (.putfield 9, 3) := by decide +kernel
theorem dc_Co_init_12 : decode c_C_Co_init 12 = .ok (.aload_n 0, 1) := by decide +kernel
theorem dc_Co_init_13 : decode c_C_Co_init 13 = .ok (.bipush 17, 2) := by decide +kernel
theorem dc_Co_init_15 : decode c_C_Co_init 15 = .ok (.newarray .int, 2) := by decide +kernel
theorem dc_Co_init_17 : decode c_C_Co_init 17 = .ok (.putfield 15, 3) := by decide +kernel
theorem dc_Co_init_20 : decode c_C_Co_init 20 = .ok (.aload_n 0, 1) := by decide +kernel
theorem dc_Co_init_21 : decode c_C_Co_init 21 = .ok (.bipush 17, 2) := by decide +kernel
theorem dc_Co_init_23 : decode c_C_Co_init 23 = .ok (.newarray .int, 2) := by decide +kernel
theorem dc_Co_init_25 : decode c_C_Co_init 25 = .ok (.putfield 18, 3) := by decide +kernel
theorem dc_Co_init_28 : decode c_C_Co_init 28 = .ok (.aload_n 0, 1) := by decide +kernel
theorem dc_Co_init_29 : decode c_C_Co_init 29 = .ok (.sipush 256, 3) := by decide +kernel
theorem dc_Co_init_32 : decode c_C_Co_init 32 = .ok (.newarray .int, 2) := by decide +kernel
theorem dc_Co_init_34 : decode c_C_Co_init 34 = .ok (.putfield 21, 3) := by decide +kernel
theorem dc_Co_init_37 : decode c_C_Co_init 37 = .ok (.return_, 1) := by decide +kernel
theorem dc_Un_init_0 : decode c_C_Un_init 0 = .ok (.aload_n 0, 1) := by decide +kernel
theorem dc_Un_init_1 : decode c_C_Un_init 1 = .ok (.invokespecial 3, 3) := by decide +kernel
theorem dc_Un_init_4 : decode c_C_Un_init 4 = .ok (.aload_n 0, 1) := by decide +kernel
theorem dc_Un_init_5 : decode c_C_Un_init 5 = .ok (.new 9, 3) := by decide +kernel
theorem dc_Un_init_8 : decode c_C_Un_init 8 = .ok (.dup, 1) := by decide +kernel
theorem dc_Un_init_9 : decode c_C_Un_init 9 = .ok (.invokespecial 11, 3) := by decide +kernel
theorem dc_Un_init_12 : decode c_C_Un_init 12 = .ok (.putfield 12, 3) := by decide +kernel
theorem dc_Un_init_15 : decode c_C_Un_init 15 = .ok (.aload_n 0, 1) := by decide +kernel
theorem dc_Un_init_16 : decode c_C_Un_init 16 = .ok (.new 18, 3) := by decide +kernel
theorem dc_Un_init_19 : decode c_C_Un_init 19 = .ok (.dup, 1) := by decide +kernel
theorem dc_Un_init_20 : decode c_C_Un_init 20 = .ok (.invokespecial 20, 3) := by decide +kernel
theorem dc_Un_init_23 : decode c_C_Un_init 23 = .ok (.putfield 21, 3) := by decide +kernel
theorem dc_Un_init_26 : decode c_C_Un_init 26 = .ok (.aload_n 0, 1) := by decide +kernel
theorem dc_Un_init_27 : decode c_C_Un_init 27 = .ok (.new 25, 3) := by decide +kernel
theorem dc_Un_init_30 : decode c_C_Un_init 30 = .ok (.dup, 1) := by decide +kernel
theorem dc_Un_init_31 : decode c_C_Un_init 31 = .ok (.invokespecial 27, 3) := by decide +kernel
theorem dc_Un_init_34 : decode c_C_Un_init 34 = .ok (.putfield 28, 3) := by decide +kernel
theorem dc_Un_init_37 : decode c_C_Un_init 37 = .ok (.aload_n 0, 1) := by decide +kernel
theorem dc_Un_init_38 : decode c_C_Un_init 38 = .ok (.sipush 256, 3) := by decide +kernel
theorem dc_Un_init_41 : decode c_C_Un_init 41 = .ok (.newarray .int, 2) := by decide +kernel
theorem dc_Un_init_43 : decode c_C_Un_init 43 = .ok (.putfield 32, 3) := by decide +kernel
theorem dc_Un_init_46 : decode c_C_Un_init 46 = .ok (.aload_n 0, 1) := by decide +kernel
theorem dc_Un_init_47 : decode c_C_Un_init 47 = .ok (.iconst 4, 1) := by decide +kernel
theorem dc_Un_init_48 : decode c_C_Un_init 48 = .ok (.newarray .boolean, 2) := by decide +kernel
theorem dc_Un_init_50 : decode c_C_Un_init 50 = .ok (.putfield 36, 3) := by decide +kernel
theorem dc_Un_init_53 : decode c_C_Un_init 53 = .ok (.aload_n 0, 1) := by decide +kernel
theorem dc_Un_init_54 : decode c_C_Un_init 54 = .ok (.iconst 4, 1) := by decide +kernel
theorem dc_Un_init_55 : decode c_C_Un_init 55 = .ok (.anewarray 40, 3) := by decide +kernel
theorem dc_Un_init_58 : decode c_C_Un_init 58 = .ok (.dup, 1) := by decide +kernel
theorem dc_Un_init_59 : decode c_C_Un_init 59 = .ok (.iconst 0, 1) := by decide +kernel
theorem dc_Un_init_60 : decode c_C_Un_init 60 = .ok (.new 40, 3) := by decide +kernel
theorem dc_Un_init_63 : decode c_C_Un_init 63 = .ok (.dup, 1) := by decide +kernel
theorem dc_Un_init_64 : decode c_C_Un_init 64 = .ok (.invokespecial 42, 3) := by decide +kernel
theorem dc_Un_init_67 : decode c_C_Un_init 67 = .ok (.aastore, 1) := by decide +kernel
theorem dc_Un_init_68 : decode c_C_Un_init 68 = .ok (.dup, 1) := by decide +kernel
theorem dc_Un_init_69 : decode c_C_Un_init 69 = .ok (.iconst 1, 1) := by decide +kernel
theorem dc_Un_init_70 : decode c_C_Un_init 70 = .ok (.new 40, 3) := by decide +kernel
theorem dc_Un_init_73 : decode c_C_Un_init 73 = .ok (.dup, 1) := by decide +kernel
theorem dc_Un_init_74 : decode c_C_Un_init 74 = .ok (.invokespecial 42, 3) := by decide +kernel
theorem dc_Un_init_77 : decode c_C_Un_init 77 = .ok (.aastore, 1) := by decide +kernel
theorem dc_Un_init_78 : decode c_C_Un_init 78 = .ok (.dup, 1) := by decide +kernel
theorem dc_Un_init_79 : decode c_C_Un_init 79 = .ok (.iconst 2, 1) := by decide +kernel
theorem dc_Un_init_80 : decode c_C_Un_init 80 = .ok (.new 40, 3) := by decide +kernel
theorem dc_Un_init_83 : decode c_C_Un_init 83 = .ok (.dup, 1) := by decide +kernel
theorem dc_Un_init_84 : decode c_C_Un_init 84 = .ok (.invokespecial 42, 3) := by decide +kernel
theorem dc_Un_init_87 : decode c_C_Un_init 87 = .ok (.aastore, 1) := by decide +kernel
theorem dc_Un_init_88 : decode c_C_Un_init 88 = .ok (.dup, 1) := by decide +kernel
theorem dc_Un_init_89 : decode c_C_Un_init 89 = .ok (.iconst 3, 1) := by decide +kernel
theorem dc_Un_init_90 : decode c_C_Un_init 90 = .ok (.new 40, 3) := by decide +kernel
theorem dc_Un_init_93 : decode c_C_Un_init 93 = .ok (.dup, 1) := by decide +kernel
theorem dc_Un_init_94 : decode c_C_Un_init 94 = .ok (.invokespecial 42, 3) := by decide +kernel
theorem dc_Un_init_97 : decode c_C_Un_init 97 = .ok (.aastore, 1) := by decide +kernel
theorem dc_Un_init_98 : decode c_C_Un_init 98 = .ok (.putfield 43, 3) := by decide +kernel
theorem dc_Un_init_101 : decode c_C_Un_init 101 = .ok (.aload_n 0, 1) := by decide +kernel
theorem dc_Un_init_102 : decode c_C_Un_init 102 = .ok (.iconst 3, 1) := by decide +kernel
theorem dc_Un_init_103 : decode c_C_Un_init 103 = .ok (.newarray .int, 2) := by decide +kernel
theorem dc_Un_init_105 : decode c_C_Un_init 105 = .ok (.putfield 47, 3) := by decide +kernel
theorem dc_Un_init_108 : decode c_C_Un_init 108 = .ok (.aload_n 0, 1) := by decide +kernel
theorem dc_Un_init_109 : decode c_C_Un_init 109 = .ok (.iconst 3, 1) := by decide +kernel
theorem dc_Un_init_110 : decode c_C_Un_init 110 = .ok (.newarray .int, 2) := by decide +kernel
theorem dc_Un_init_112 : decode c_C_Un_init 112 = .ok (.putfield 50, 3) := by decide +kernel
theorem dc_Un_init_115 : decode c_C_Un_init 115 = .ok (.aload_n 0, 1) := by decide +kernel
theorem dc_Un_init_116 : decode c_C_Un_init 116 = .ok (.iconst 3, 1) := by decide +kernel
theorem dc_Un_init_117 : decode c_C_Un_init 117 = .ok (.newarray .boolean, 2) := by decide +kernel
theorem dc_Un_init_119 : decode c_C_Un_init 119 = .ok (.putfield 53, 3) := by decide +kernel
theorem dc_Un_init_122 : decode c_C_Un_init 122 = .ok (.aload_n 0, 1) := by decide +kernel
theorem dc_Un_init_123 : decode c_C_Un_init 123 = .ok (.iconst 3, 1) := by decide +kernel
theorem dc_Un_init_124 : decode c_C_Un_init 124 = .ok (.newarray .int, 2) := by decide +kernel
theorem dc_Un_init_126 : decode c_C_Un_init 126 = .ok (.putfield 56, 3) := by decide +kernel
theorem dc_Un_init_129 : decode c_C_Un_init 129 = .ok (.return_, 1) := by decide +kernel
theorem dc_B_init_0 : decode c_C_B_init 0 = .ok (.aload_n 0, 1) := by decide +kernel
theorem dc_B_init_1 : decode c_C_B_init 1 = .ok (.invokespecial 3, 3) := by decide +kernel
theorem dc_B_init_4 : decode c_C_B_init 4 = .ok (.aload_n 0, 1) := by decide +kernel
theorem dc_B_init_5 : decode c_C_B_init 5 = .ok (.new 9, 3) := by decide +kernel
theorem dc_B_init_8 : decode c_C_B_init 8 = .ok (.dup, 1) := by decide +kernel
theorem dc_B_init_9 : decode c_C_B_init 9 = .ok (.invokespecial 11, 3) := by decide +kernel
theorem dc_B_init_12 : decode c_C_B_init 12 = .ok (.putfield 12, 3) := by decide +kernel
theorem dc_B_init_15 : decode c_C_B_init 15 = .ok (.aload_n 0, 1) := by decide +kernel
theorem dc_B_init_16 : decode c_C_B_init 16 = .ok (.sipush 128, 3) := by decide +kernel
theorem dc_B_init_19 : decode c_C_B_init 19 = .ok (.newarray .int, 2) := by decide +kernel
theorem dc_B_init_21 : decode c_C_B_init 21 = .ok (.putfield 16, 3) := by decide +kernel
theorem dc_B_init_24 : decode c_C_B_init 24 = .ok (.aload_n 0, 1) := by decide +kernel
theorem dc_B_init_25 : decode c_C_B_init 25 = .ok (.new 20, 3) := by decide +kernel
theorem dc_B_init_28 : decode c_C_B_init 28 = .ok (.dup, 1) := by decide +kernel
theorem dc_B_init_29 : decode c_C_B_init 29 = .ok (.invokespecial 22, 3) := by decide +kernel
theorem dc_B_init_32 : decode c_C_B_init 32 = .ok (.putfield 23, 3) := by decide +kernel
theorem dc_B_init_35 : decode c_C_B_init 35 = .ok (.aload_n 0, 1) := by decide +kernel
theorem dc_B_init_36 : decode c_C_B_init 36 = .ok (.new 27, 3) := by decide +kernel
theorem dc_B_init_39 : decode c_C_B_init 39 = .ok (.dup, 1) := by decide +kernel
theorem dc_B_init_40 : decode c_C_B_init 40 = .ok (.invokespecial 29, 3) := by decide +kernel
theorem dc_B_init_43 : decode c_C_B_init 43 = .ok (.putfield 30, 3) := by decide +kernel
theorem dc_B_init_46 : decode c_C_B_init 46 = .ok (.aload_n 0, 1) := by decide +kernel
theorem dc_B_init_47 : decode c_C_B_init 47 = .ok (.aload_n 0, 1) := by decide +kernel
theorem dc_B_init_48 : decode c_C_B_init 48 = .ok (.getfield 23, 3) := by decide +kernel
theorem dc_B_init_51 : decode c_C_B_init 51 = .ok (.getfield 34, 3) := by decide +kernel
theorem dc_B_init_54 : decode c_C_B_init 54 = .ok (.putfield 38, 3) := by decide +kernel
theorem dc_B_init_57 : decode c_C_B_init 57 = .ok (.aload_n 0, 1) := by decide +kernel
theorem dc_B_init_58 : decode c_C_B_init 58 = .ok (.aload_n 0, 1) := by decide +kernel
theorem dc_B_init_59 : decode c_C_B_init 59 = .ok (.getfield 23, 3) := by decide +kernel
theorem dc_B_init_62 : decode c_C_B_init 62 = .ok (.getfield 39, 3) := by decide +kernel
theorem dc_B_init_65 : decode c_C_B_init 65 = .ok (.putfield 43, 3) := by decide +kernel
theorem dc_B_init_68 : decode c_C_B_init 68 = .ok (.aload_n 0, 1) := by decide +kernel
theorem dc_B_init_69 : decode c_C_B_init 69 = .ok (.aload_n 0, 1) := by decide +kernel
theorem dc_B_init_70 : decode c_C_B_init 70 = .ok (.getfield 30, 3) := by decide +kernel
theorem dc_B_init_73 : decode c_C_B_init 73 = .ok (.getfield 44, 3) := by decide +kernel
theorem dc_B_init_76 : decode c_C_B_init 76 = .ok (.getfield 48, 3) := by decide +kernel
theorem dc_B_init_79 : decode c_C_B_init 79 = .ok (.putfield 53, 3) := by decide +kernel
theorem dc_B_init_82 : decode c_C_B_init 82 = .ok (.aload_n 0, 1) := by decide +kernel
theorem dc_B_init_83 : decode c_C_B_init 83 = .ok (.new 54, 3) := by decide +kernel
theorem dc_B_init_86 : decode c_C_B_init 86 = .ok (.dup, 1) := by decide +kernel
theorem dc_B_init_87 : decode c_C_B_init 87 = .ok (.invokespecial 56, 3) := by decide +kernel
theorem dc_B_init_90 : decode c_C_B_init 90 = .ok (.putfield 57, 3) := by decide +kernel
theorem dc_B_init_93 : decode c_C_B_init 93 = .ok (.aload_n 0, 1) := by decide +kernel
theorem dc_B_init_94 : decode c_C_B_init 94 = .ok (.iconst (-1), 1) := by decide +kernel
theorem dc_B_init_95 : decode c_C_B_init 95 = .ok (.putfield 61, 3) := by decide +kernel
theorem dc_B_init_98 : decode c_C_B_init 98 = .ok (.aload_n 0, 1) := by decide +kernel
theorem dc_B_init_99 : decode c_C_B_init 99 = .ok (.getfield 16, 3) := by decide +kernel
theorem dc_B_init_102 : decode c_C_B_init 102 = .ok (.iconst 1, 1) := by decide +kernel
theorem dc_B_init_103 : decode c_C_B_init 103 = .ok (.invokestatic 65, 3) := by decide +kernel
theorem dc_B_init_106 : decode c_C_B_init 106 = .ok (.return_, 1) := by decide +kernel
