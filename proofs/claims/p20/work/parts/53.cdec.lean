theorem dc_Re_readBit_0 : decode c_C_Re_readBit 0 = .ok (.aload_n 0, 1) := by decide +kernel
theorem dc_Re_readBit_1 : decode c_C_Re_readBit 1 = .ok (.getfield 55, 3) := by decide +kernel
theorem dc_Re_readBit_4 : decode c_C_Re_readBit 4 = .ok (.ifCond .ne 52, 3) := by decide +kernel
theorem dc_Re_readBit_7 : decode c_C_Re_readBit 7 = .ok (.aload_n 0, 1) := by decide +kernel
theorem dc_Re_readBit_8 : decode c_C_Re_readBit 8 = .ok (.aload_n 0, 1) := by decide +kernel
theorem dc_Re_readBit_9 : decode c_C_Re_readBit 9 = .ok (.getfield 35, 3) := by decide +kernel
theorem dc_Re_readBit_12 : decode c_C_Re_readBit 12 = .ok (.putfield 58, 3) := by decide +kernel
theorem dc_Re_readBit_15 : decode c_C_Re_readBit 15 = .ok (.aload_n 0, 1) := by decide +kernel
theorem dc_Re_readBit_16 : decode c_C_Re_readBit 16 = .ok (.aload_n 0, 1) := by decide +kernel
theorem dc_Re_readBit_17 : decode c_C_Re_readBit 17 = .ok (.invokevirtual 47, 3) := by decide +kernel
theorem dc_Re_readBit_20 : decode c_C_Re_readBit 20 = .ok (.putfield 61, 3) := by decide +kernel
theorem dc_Re_readBit_23 : decode c_C_Re_readBit 23 = .ok (.aload_n 0, 1) := by decide +kernel
theorem dc_Re_readBit_24 : decode c_C_Re_readBit 24 = .ok (.getfield 61, 3) := by decide +kernel
theorem dc_Re_readBit_27 : decode c_C_Re_readBit 27 = .ok (.sipush 255, 3) := by decide +kernel
theorem dc_Re_readBit_30 : decode c_C_Re_readBit 30 = .ok (.if_icmp .ne 20, 3) := by decide +kernel
theorem dc_Re_readBit_33 : decode c_C_Re_readBit 33 = .ok (.aload_n 0, 1) := by decide +kernel
theorem dc_Re_readBit_34 : decode c_C_Re_readBit 34 = .ok (.invokevirtual 47, 3) := by decide +kernel
theorem dc_Re_readBit_37 : decode c_C_Re_readBit 37 = .ok (.ifCond .eq 13, 3) := by decide +kernel
theorem dc_Re_readBit_40 : decode c_C_Re_readBit 40 = .ok (.aload_n 0, 1) := by decide +kernel
theorem dc_Re_readBit_41 : decode c_C_Re_readBit 41 = .ok (.bipush 7, 2) := by decide +kernel
theorem dc_Re_readBit_43 : decode c_C_Re_readBit 43 = .ok (.aload_n 0, 1) := by decide +kernel
theorem dc_Re_readBit_44 : decode c_C_Re_readBit 44 = .ok (.getfield 58, 3) := by decide +kernel
theorem dc_Re_readBit_47 : decode c_C_Re_readBit 47 = .ok (.invokevirtual 51, 3) := by decide +kernel
theorem dc_Re_readBit_50 : decode c_C_Re_readBit 50 = .ok (.aload_n 0, 1) := by decide +kernel
theorem dc_Re_readBit_51 : decode c_C_Re_readBit 51 = .ok (.bipush 8, 2) := by decide +kernel
theorem dc_Re_readBit_53 : decode c_C_Re_readBit 53 = .ok (.putfield 55, 3) := by decide +kernel
theorem dc_Re_readBit_56 : decode c_C_Re_readBit 56 = .ok (.aload_n 0, 1) := by decide +kernel
theorem dc_Re_readBit_57 : decode c_C_Re_readBit 57 = .ok (.dup, 1) := by decide +kernel
theorem dc_Re_readBit_58 : decode c_C_Re_readBit 58 = .ok (.getfield 55, 3) := by decide +kernel
theorem dc_Re_readBit_61 : decode c_C_Re_readBit 61 = .ok (.iconst 1, 1) := by decide +kernel
theorem dc_Re_readBit_62 : decode c_C_Re_readBit 62 = .ok (.isub, 1) := by decide +kernel
theorem dc_Re_readBit_63 : decode c_C_Re_readBit 63 = .ok (.putfield 55, 3) := by decide +kernel
theorem dc_Re_readBit_66 : decode c_C_Re_readBit 66 = .ok (.aload_n 0, 1) := by decide +kernel
theorem dc_Re_readBit_67 : decode c_C_Re_readBit 67 = .ok (.getfield 61, 3) := by decide +kernel
theorem dc_Re_readBit_70 : decode c_C_Re_readBit 70 = .ok (.aload_n 0, 1) := by decide +kernel
theorem dc_Re_readBit_71 : decode c_C_Re_readBit 71 = .ok (.getfield 55, 3) := by decide +kernel
theorem dc_Re_readBit_74 : decode c_C_Re_readBit 74 = .ok (.ishr, 1) := by decide +kernel
theorem dc_Re_readBit_75 : decode c_C_Re_readBit 75 = .ok (.iconst 1, 1) := by decide +kernel
theorem dc_Re_readBit_76 : decode c_C_Re_readBit 76 = .ok (.iand, 1) := by decide +kernel
theorem dc_Re_readBit_77 : decode c_C_Re_readBit 77 = .ok (.ireturn, 1) := by decide +kernel
theorem dc_Co_symbolOf_0 : decode c_C_Co_symbolOf 0 = .ok (.iload_n 1, 1) := by decide +kernel
theorem dc_Co_symbolOf_1 : decode c_C_Co_symbolOf 1 = .ok (.aload_n 0, 1) := by decide +kernel
theorem dc_Co_symbolOf_2 : decode c_C_Co_symbolOf 2 = .ok (.getfield 15, 3) := by decide +kernel
theorem dc_Co_symbolOf_5 : decode c_C_Co_symbolOf 5 = .ok (.iload_n 2, 1) := by decide +kernel
theorem dc_Co_symbolOf_6 : decode c_C_Co_symbolOf 6 = .ok (.iaload, 1) := by decide +kernel
theorem dc_Co_symbolOf_7 : decode c_C_Co_symbolOf 7 = .ok (.isub, 1) := by decide +kernel
theorem dc_Co_symbolOf_8 : decode c_C_Co_symbolOf 8 = .ok (.istore_n 3, 1) := by decide +kernel
theorem dc_Co_symbolOf_9 : decode c_C_Co_symbolOf 9 = .ok (.iload_n 3, 1) := by decide +kernel
theorem dc_Co_symbolOf_10 : decode c_C_Co_symbolOf 10 = .ok (.ifCond .lt 29, 3) := by decide +kernel
theorem dc_Co_symbolOf_13 : decode c_C_Co_symbolOf 13 = .ok (.iload_n 3, 1) := by decide +kernel
theorem dc_Co_symbolOf_14 : decode c_C_Co_symbolOf 14 = .ok (.aload_n 0, 1) := by decide +kernel
theorem dc_Co_symbolOf_15 : decode c_C_Co_symbolOf 15 = .ok (.getfield 9, 3) := by decide +kernel
theorem dc_Co_symbolOf_18 : decode c_C_Co_symbolOf 18 = .ok (.iload_n 2, 1) := by decide +kernel
theorem dc_Co_symbolOf_19 : decode c_C_Co_symbolOf 19 = .ok (.iaload, 1) := by decide +kernel
theorem dc_Co_symbolOf_20 : decode c_C_Co_symbolOf 20 = .ok (.if_icmp .ge 19, 3) := by decide +kernel
theorem dc_Co_symbolOf_23 : decode c_C_Co_symbolOf 23 = .ok (.aload_n 0, 1) := by decide +kernel
theorem dc_Co_symbolOf_24 : decode c_C_Co_symbolOf 24 = .ok (.getfield 21, 3) := by decide +kernel
theorem dc_Co_symbolOf_27 : decode c_C_Co_symbolOf 27 = .ok (.aload_n 0, 1) := by decide +kernel
theorem dc_Co_symbolOf_28 : decode c_C_Co_symbolOf 28 = .ok (.getfield 18, 3) := by decide +kernel
theorem dc_Co_symbolOf_31 : decode c_C_Co_symbolOf 31 = .ok (.iload_n 2, 1) := by decide +kernel
theorem dc_Co_symbolOf_32 : decode c_C_Co_symbolOf 32 = .ok (.iaload, 1) := by decide +kernel
theorem dc_Co_symbolOf_33 : decode c_C_Co_symbolOf 33 = .ok (.iload_n 3, 1) := by decide +kernel
theorem dc_Co_symbolOf_34 : decode c_C_Co_symbolOf 34 = .ok (.iadd, 1) := by decide +kernel
theorem dc_Co_symbolOf_35 : decode c_C_Co_symbolOf 35 = .ok (.iaload, 1) := by decide +kernel
theorem dc_Co_symbolOf_36 : decode c_C_Co_symbolOf 36 = .ok (.goto 4, 3) := by decide +kernel
theorem dc_Co_symbolOf_39 : decode c_C_Co_symbolOf 39 = .ok (.iconst (-1), 1) := by decide +kernel
theorem dc_Co_symbolOf_40 : decode c_C_Co_symbolOf 40 = .ok (.ireturn, 1) := by decide +kernel
theorem dc_Re_readSymbol_0 : decode c_C_Re_readSymbol 0 = .ok (.aload_n 0, 1) := by decide +kernel
theorem dc_Re_readSymbol_1 : decode c_C_Re_readSymbol 1 = .ok (.invokevirtual 64, 3) := by decide +kernel
theorem dc_Re_readSymbol_4 : decode c_C_Re_readSymbol 4 = .ok (.istore_n 2, 1) := by decide +kernel
theorem dc_Re_readSymbol_5 : decode c_C_Re_readSymbol 5 = .ok (.aload_n 0, 1) := by decide +kernel
theorem dc_Re_readSymbol_6 : decode c_C_Re_readSymbol 6 = .ok (.aload_n 0, 1) := by decide +kernel
theorem dc_Re_readSymbol_7 : decode c_C_Re_readSymbol 7 = .ok (.getfield 58, 3) := by decide +kernel
theorem dc_Re_readSymbol_10 : decode c_C_Re_readSymbol 10 = .ok (.putfield 67, 3) := by decide +kernel
theorem dc_Re_readSymbol_13 : decode c_C_Re_readSymbol 13 = .ok (.aload_n 1, 1) := by decide +kernel
theorem dc_Re_readSymbol_14 : decode c_C_Re_readSymbol 14 = .ok (.iload_n 2, 1) := by decide +kernel
theorem dc_Re_readSymbol_15 : decode c_C_Re_readSymbol 15 = .ok (.iconst 1, 1) := by decide +kernel
theorem dc_Re_readSymbol_16 : decode c_C_Re_readSymbol 16 = .ok (.invokevirtual 70, 3) := by decide +kernel
theorem dc_Re_readSymbol_19 : decode c_C_Re_readSymbol 19 = .ok (.istore_n 3, 1) := by decide +kernel
theorem dc_Re_readSymbol_20 : decode c_C_Re_readSymbol 20 = .ok (.iconst 2, 1) := by decide +kernel
theorem dc_Re_readSymbol_21 : decode c_C_Re_readSymbol 21 = .ok (.istore 4, 2) := by decide +kernel
theorem dc_Re_readSymbol_23 : decode c_C_Re_readSymbol 23 = .ok (.iload 4, 2) := by decide +kernel
theorem dc_Re_readSymbol_25 : decode c_C_Re_readSymbol 25 = .ok (.bipush 16, 2) := by decide +kernel
theorem dc_Re_readSymbol_27 : decode c_C_Re_readSymbol 27 = .ok (.if_icmp .gt 31, 3) := by decide +kernel
theorem dc_Re_readSymbol_30 : decode c_C_Re_readSymbol 30 = .ok (.iload_n 3, 1) := by decide +kernel
theorem dc_Re_readSymbol_31 : decode c_C_Re_readSymbol 31 = .ok (.iconst (-1), 1) := by decide +kernel
theorem dc_Re_readSymbol_32 : decode c_C_Re_readSymbol 32 = .ok (.if_icmp .ne 26, 3) := by decide +kernel
theorem dc_Re_readSymbol_35 : decode c_C_Re_readSymbol 35 = .ok (.iconst 2, 1) := by decide +kernel
theorem dc_Re_readSymbol_36 : decode c_C_Re_readSymbol 36 = .ok (.iload_n 2, 1) := by decide +kernel
theorem dc_Re_readSymbol_37 : decode c_C_Re_readSymbol 37 = .ok (.imul, 1) := by decide +kernel
theorem dc_Re_readSymbol_38 : decode c_C_Re_readSymbol 38 = .ok (.aload_n 0, 1) := by decide +kernel
theorem dc_Re_readSymbol_39 : decode c_C_Re_readSymbol 39 = .ok (.invokevirtual 64, 3) := by decide +kernel
theorem dc_Re_readSymbol_42 : decode c_C_Re_readSymbol 42 = .ok (.iadd, 1) := by decide +kernel
theorem dc_Re_readSymbol_43 : decode c_C_Re_readSymbol 43 = .ok (.istore_n 2, 1) := by decide +kernel
theorem dc_Re_readSymbol_44 : decode c_C_Re_readSymbol 44 = .ok (.aload_n 1, 1) := by decide +kernel
theorem dc_Re_readSymbol_45 : decode c_C_Re_readSymbol 45 = .ok (.iload_n 2, 1) := by decide +kernel
theorem dc_Re_readSymbol_46 : decode c_C_Re_readSymbol 46 = .ok (.iload 4, 2) := by decide +kernel
theorem dc_Re_readSymbol_48 : decode c_C_Re_readSymbol 48 = .ok (.invokevirtual 70, 3) := by decide +kernel
theorem dc_Re_readSymbol_51 : decode c_C_Re_readSymbol 51 = .ok (.istore_n 3, 1) := by decide +kernel
theorem dc_Re_readSymbol_52 : decode c_C_Re_readSymbol 52 = .ok (.iinc 4 1, 3) := by decide +kernel
theorem dc_Re_readSymbol_55 : decode c_C_Re_readSymbol 55 = .ok (.goto (-32), 3) := by decide +kernel
theorem dc_Re_readSymbol_58 : decode c_C_Re_readSymbol 58 = .ok (.iload_n 3, 1) := by decide +kernel
theorem dc_Re_readSymbol_59 : decode c_C_Re_readSymbol 59 = .ok (.iconst (-1), 1) := by decide +kernel
theorem dc_Re_readSymbol_60 : decode c_C_Re_readSymbol 60 = .ok (.if_icmp .ne 13, 3) := by decide +kernel
theorem dc_Re_readSymbol_63 : decode c_C_Re_readSymbol 63 = .ok (.aload_n 0, 1) := by decide +kernel
theorem dc_Re_readSymbol_64 : decode c_C_Re_readSymbol 64 = .ok (.bipush 7, 2) := by decide +kernel
theorem dc_Re_readSymbol_66 : decode c_C_Re_readSymbol 66 = .ok (.aload_n 0, 1) := by decide +kernel
theorem dc_Re_readSymbol_67 : decode c_C_Re_readSymbol 67 = .ok (.getfield 67, 3) := by decide +kernel
theorem dc_Re_readSymbol_70 : decode c_C_Re_readSymbol 70 = .ok (.invokevirtual 51, 3) := by decide +kernel
theorem dc_Re_readSymbol_73 : decode c_C_Re_readSymbol 73 = .ok (.iload_n 3, 1) := by decide +kernel
theorem dc_Re_readSymbol_74 : decode c_C_Re_readSymbol 74 = .ok (.ireturn, 1) := by decide +kernel
theorem dc_Re_readNumber_0 : decode c_C_Re_readNumber 0 = .ok (.iconst 0, 1) := by decide +kernel
theorem dc_Re_readNumber_1 : decode c_C_Re_readNumber 1 = .ok (.istore_n 2, 1) := by decide +kernel
theorem dc_Re_readNumber_2 : decode c_C_Re_readNumber 2 = .ok (.iconst 0, 1) := by decide +kernel
theorem dc_Re_readNumber_3 : decode c_C_Re_readNumber 3 = .ok (.istore_n 3, 1) := by decide +kernel
theorem dc_Re_readNumber_4 : decode c_C_Re_readNumber 4 = .ok (.iload_n 3, 1) := by decide +kernel
theorem dc_Re_readNumber_5 : decode c_C_Re_readNumber 5 = .ok (.iload_n 1, 1) := by decide +kernel
theorem dc_Re_readNumber_6 : decode c_C_Re_readNumber 6 = .ok (.if_icmp .ge 18, 3) := by decide +kernel
theorem dc_Re_readNumber_9 : decode c_C_Re_readNumber 9 = .ok (.iconst 2, 1) := by decide +kernel
theorem dc_Re_readNumber_10 : decode c_C_Re_readNumber 10 = .ok (.iload_n 2, 1) := by decide +kernel
theorem dc_Re_readNumber_11 : decode c_C_Re_readNumber 11 = .ok (.imul, 1) := by decide +kernel
theorem dc_Re_readNumber_12 : decode c_C_Re_readNumber 12 = .ok (.aload_n 0, 1) := by decide +kernel
theorem dc_Re_readNumber_13 : decode c_C_Re_readNumber 13 = .ok (.invokevirtual 64, 3) := by decide +kernel
theorem dc_Re_readNumber_16 : decode c_C_Re_readNumber 16 = .ok (.iadd, 1) := by decide +kernel
theorem dc_Re_readNumber_17 : decode c_C_Re_readNumber 17 = .ok (.istore_n 2, 1) := by decide +kernel
theorem dc_Re_readNumber_18 : decode c_C_Re_readNumber 18 = .ok (.iinc 3 1, 3) := by decide +kernel
theorem dc_Re_readNumber_21 : decode c_C_Re_readNumber 21 = .ok (.goto (-17), 3) := by decide +kernel
theorem dc_Re_readNumber_24 : decode c_C_Re_readNumber 24 = .ok (.iconst 2, 1) := by decide +kernel
theorem dc_Re_readNumber_25 : decode c_C_Re_readNumber 25 = .ok (.iload_n 2, 1) := by decide +kernel
theorem dc_Re_readNumber_26 : decode c_C_Re_readNumber 26 = .ok (.imul, 1) := by decide +kernel
theorem dc_Re_readNumber_27 : decode c_C_Re_readNumber 27 = .ok (.iconst 1, 1) := by decide +kernel
theorem dc_Re_readNumber_28 : decode c_C_Re_readNumber 28 = .ok (.iload_n 1, 1) := by decide +kernel
theorem dc_Re_readNumber_29 : decode c_C_Re_readNumber 29 = .ok (.ishl, 1) := by decide +kernel
theorem dc_Re_readNumber_30 : decode c_C_Re_readNumber 30 = .ok (.if_icmp .ge 13, 3) := by decide +kernel
theorem dc_Re_readNumber_33 : decode c_C_Re_readNumber 33 = .ok (.iload_n 2, 1) := by decide +kernel
theorem dc_Re_readNumber_34 : decode c_C_Re_readNumber 34 = .ok (.iconst 1, 1) := by decide +kernel
theorem dc_Re_readNumber_35 : decode c_C_Re_readNumber 35 = .ok (.iload_n 1, 1) := by decide +kernel
theorem dc_Re_readNumber_36 : decode c_C_Re_readNumber 36 = .ok (.ishl, 1) := by decide +kernel
theorem dc_Re_readNumber_37 : decode c_C_Re_readNumber 37 = .ok (.isub, 1) := by decide +kernel
theorem dc_Re_readNumber_38 : decode c_C_Re_readNumber 38 = .ok (.iconst 1, 1) := by decide +kernel
theorem dc_Re_readNumber_39 : decode c_C_Re_readNumber 39 = .ok (.iadd, 1) := by decide +kernel
theorem dc_Re_readNumber_40 : decode c_C_Re_readNumber 40 = .ok (.goto 4, 3) := by decide +kernel
theorem dc_Re_readNumber_43 : decode c_C_Re_readNumber 43 = .ok (.iload_n 2, 1) := by decide +kernel
theorem dc_Re_readNumber_44 : decode c_C_Re_readNumber 44 = .ok (.ireturn, 1) := by decide +kernel
theorem dc_Un_readBlock_0 : decode c_C_Un_readBlock 0 = .ok (.iload_n 1, 1) := by decide +kernel
theorem dc_Un_readBlock_1 : decode c_C_Un_readBlock 1 = .ok (.bipush 64, 2) := by decide +kernel
theorem dc_Un_readBlock_3 : decode c_C_Un_readBlock 3 = .ok (.idiv, 1) := by decide +kernel
theorem dc_Un_readBlock_4 : decode c_C_Un_readBlock 4 = .ok (.istore_n 2, 1) := by decide +kernel
theorem dc_Un_readBlock_5 : decode c_C_Un_readBlock 5 = .ok (.bipush 64, 2) := by decide +kernel
theorem dc_Un_readBlock_7 : decode c_C_Un_readBlock 7 = .ok (.iload_n 1, 1) := by decide +kernel
theorem dc_Un_readBlock_8 : decode c_C_Un_readBlock 8 = .ok (.imul, 1) := by decide +kernel
theorem dc_Un_readBlock_9 : decode c_C_Un_readBlock 9 = .ok (.istore_n 3, 1) := by decide +kernel
theorem dc_Un_readBlock_10 : decode c_C_Un_readBlock 10 = .ok (.aload_n 0, 1) := by decide +kernel
theorem dc_Un_readBlock_11 : decode c_C_Un_readBlock 11 = .ok (.getfield 12, 3) := by decide +kernel
theorem dc_Un_readBlock_14 : decode c_C_Un_readBlock 14 = .ok (.aload_n 0, 1) := by decide +kernel
theorem dc_Un_readBlock_15 : decode c_C_Un_readBlock 15 = .ok (.getfield 43, 3) := by decide +kernel
theorem dc_Un_readBlock_18 : decode c_C_Un_readBlock 18 = .ok (.aload_n 0, 1) := by decide +kernel
theorem dc_Un_readBlock_19 : decode c_C_Un_readBlock 19 = .ok (.getfield 28, 3) := by decide +kernel
theorem dc_Un_readBlock_22 : decode c_C_Un_readBlock 22 = .ok (.getfield 237, 3) := by decide +kernel
theorem dc_Un_readBlock_25 : decode c_C_Un_readBlock 25 = .ok (.iload_n 2, 1) := by decide +kernel
theorem dc_Un_readBlock_26 : decode c_C_Un_readBlock 26 = .ok (.iaload, 1) := by decide +kernel
theorem dc_Un_readBlock_27 : decode c_C_Un_readBlock 27 = .ok (.aaload, 1) := by decide +kernel
theorem dc_Un_readBlock_28 : decode c_C_Un_readBlock 28 = .ok (.invokevirtual 240, 3) := by decide +kernel
theorem dc_Un_readBlock_31 : decode c_C_Un_readBlock 31 = .ok (.istore 4, 2) := by decide +kernel
theorem dc_Un_readBlock_33 : decode c_C_Un_readBlock 33 = .ok (.aload_n 0, 1) := by decide +kernel
theorem dc_Un_readBlock_34 : decode c_C_Un_readBlock 34 = .ok (.getfield 56, 3) := by decide +kernel
theorem dc_Un_readBlock_37 : decode c_C_Un_readBlock 37 = .ok (.iload_n 2, 1) := by decide +kernel
theorem dc_Un_readBlock_38 : decode c_C_Un_readBlock 38 = .ok (.dup2, 1) := by decide +kernel
theorem dc_Un_readBlock_39 : decode c_C_Un_readBlock 39 = .ok (.iaload, 1) := by decide +kernel
theorem dc_Un_readBlock_40 : decode c_C_Un_readBlock 40 = .ok (.aload_n 0, 1) := by decide +kernel
theorem dc_Un_readBlock_41 : decode c_C_Un_readBlock 41 = .ok (.getfield 12, 3) := by decide +kernel
theorem dc_Un_readBlock_44 : decode c_C_Un_readBlock 44 = .ok (.iload 4, 2) := by decide +kernel
theorem dc_Un_readBlock_46 : decode c_C_Un_readBlock 46 = .ok (.invokevirtual 244, 3) := by decide +kernel
theorem dc_Un_readBlock_49 : decode c_C_Un_readBlock 49 = .ok (.iadd, 1) := by decide +kernel
theorem dc_Un_readBlock_50 : decode c_C_Un_readBlock 50 = .ok (.iastore, 1) := by decide +kernel
theorem dc_Un_readBlock_51 : decode c_C_Un_readBlock 51 = .ok (.aload_n 0, 1) := by decide +kernel
theorem dc_Un_readBlock_52 : decode c_C_Un_readBlock 52 = .ok (.getfield 56, 3) := by decide +kernel
theorem dc_Un_readBlock_55 : decode c_C_Un_readBlock 55 = .ok (.iload_n 2, 1) := by decide +kernel
theorem dc_Un_readBlock_56 : decode c_C_Un_readBlock 56 = .ok (.iaload, 1) := by decide +kernel
theorem dc_Un_readBlock_57 : decode c_C_Un_readBlock 57 = .ok (.sipush (-2047), 3) := by decide +kernel
theorem dc_Un_readBlock_60 : decode c_C_Un_readBlock 60 = .ok (.sipush 2047, 3) := by decide +kernel
theorem dc_Un_readBlock_63 : decode c_C_Un_readBlock 63 = .ok (.invokestatic 141, 3) := by decide +kernel
theorem dc_Un_readBlock_66 : decode c_C_Un_readBlock 66 = .ok (.ifCond .ne 19, 3) := by decide +kernel
theorem dc_Un_readBlock_69 : decode c_C_Un_readBlock 69 = .ok (.aload_n 0, 1) := by decide +kernel
theorem dc_Un_readBlock_70 : decode c_C_Un_readBlock 70 = .ok (.getfield 12, 3) := by decide +kernel
theorem dc_Un_readBlock_73 : decode c_C_Un_readBlock 73 = .ok (.bipush 7, 2) := by decide +kernel
theorem dc_Un_readBlock_75 : decode c_C_Un_readBlock 75 = .ok (.aload_n 0, 1) := by decide +kernel
theorem dc_Un_readBlock_76 : decode c_C_Un_readBlock 76 = .ok (.getfield 12, 3) := by decide +kernel
theorem dc_Un_readBlock_79 : decode c_C_Un_readBlock 79 = .ok (.getfield 247, 3) := by decide +kernel
theorem dc_Un_readBlock_82 : decode c_C_Un_readBlock 82 = .ok (.invokevirtual 74, 3) := by decide +kernel
theorem dc_Un_readBlock_85 : decode c_C_Un_readBlock 85 = .ok (.aload_n 0, 1) := by decide +kernel
theorem dc_Un_readBlock_86 : decode c_C_Un_readBlock 86 = .ok (.getfield 21, 3) := by decide +kernel
theorem dc_Un_readBlock_89 : decode c_C_Un_readBlock 89 = .ok (.getfield 250, 3) := by decide +kernel
theorem dc_Un_readBlock_92 : decode c_C_Un_readBlock 92 = .ok (.iload_n 3, 1) := by decide +kernel
theorem dc_Un_readBlock_93 : decode c_C_Un_readBlock 93 = .ok (.aload_n 0, 1) := by decide +kernel
theorem dc_Un_readBlock_94 : decode c_C_Un_readBlock 94 = .ok (.getfield 56, 3) := by decide +kernel
theorem dc_Un_readBlock_97 : decode c_C_Un_readBlock 97 = .ok (.iload_n 2, 1) := by decide +kernel
theorem dc_Un_readBlock_98 : decode c_C_Un_readBlock 98 = .ok (.iaload, 1) := by decide +kernel
theorem dc_Un_readBlock_99 : decode c_C_Un_readBlock 99 = .ok (.iastore, 1) := by decide +kernel
theorem dc_Un_readBlock_100 : decode c_C_Un_readBlock 100 = .ok (.aload_n 0, 1) := by decide +kernel
theorem dc_Un_readBlock_101 : decode c_C_Un_readBlock 101 = .ok (.getfield 43, 3) := by decide +kernel
theorem dc_Un_readBlock_104 : decode c_C_Un_readBlock 104 = .ok (.aload_n 0, 1) := by decide +kernel
theorem dc_Un_readBlock_105 : decode c_C_Un_readBlock 105 = .ok (.getfield 28, 3) := by decide +kernel
theorem dc_Un_readBlock_108 : decode c_C_Un_readBlock 108 = .ok (.getfield 253, 3) := by decide +kernel
theorem dc_Un_readBlock_111 : decode c_C_Un_readBlock 111 = .ok (.iload_n 2, 1) := by decide +kernel
theorem dc_Un_readBlock_112 : decode c_C_Un_readBlock 112 = .ok (.iaload, 1) := by decide +kernel
theorem dc_Un_readBlock_113 : decode c_C_Un_readBlock 113 = .ok (.aaload, 1) := by decide +kernel
theorem dc_Un_readBlock_114 : decode c_C_Un_readBlock 114 = .ok (.astore 5, 2) := by decide +kernel
theorem dc_Un_readBlock_116 : decode c_C_Un_readBlock 116 = .ok (.iconst (-1), 1) := by decide +kernel
theorem dc_Un_readBlock_117 : decode c_C_Un_readBlock 117 = .ok (.istore 6, 2) := by decide +kernel
theorem dc_Un_readBlock_119 : decode c_C_Un_readBlock 119 = .ok (.iconst 1, 1) := by decide +kernel
theorem dc_Un_readBlock_120 : decode c_C_Un_readBlock 120 = .ok (.istore 7, 2) := by decide +kernel
theorem dc_Un_readBlock_122 : decode c_C_Un_readBlock 122 = .ok (.iload 7, 2) := by decide +kernel
theorem dc_Un_readBlock_124 : decode c_C_Un_readBlock 124 = .ok (.bipush 64, 2) := by decide +kernel
theorem dc_Un_readBlock_126 : decode c_C_Un_readBlock 126 = .ok (.if_icmp .ge 93, 3) := by decide +kernel
theorem dc_Un_readBlock_129 : decode c_C_Un_readBlock 129 = .ok (.iload 6, 2) := by decide +kernel
theorem dc_Un_readBlock_131 : decode c_C_Un_readBlock 131 = .ok (.ifCond .eq 88, 3) := by decide +kernel
theorem dc_Un_readBlock_134 : decode c_C_Un_readBlock 134 = .ok (.aload_n 0, 1) := by decide +kernel
theorem dc_Un_readBlock_135 : decode c_C_Un_readBlock 135 = .ok (.getfield 12, 3) := by decide +kernel
theorem dc_Un_readBlock_138 : decode c_C_Un_readBlock 138 = .ok (.aload 5, 2) := by decide +kernel
theorem dc_Un_readBlock_140 : decode c_C_Un_readBlock 140 = .ok (.invokevirtual 240, 3) := by decide +kernel
theorem dc_Un_readBlock_143 : decode c_C_Un_readBlock 143 = .ok (.istore 6, 2) := by decide +kernel
theorem dc_Un_readBlock_145 : decode c_C_Un_readBlock 145 = .ok (.iload 7, 2) := by decide +kernel
theorem dc_Un_readBlock_147 : decode c_C_Un_readBlock 147 = .ok (.iload 6, 2) := by decide +kernel
theorem dc_Un_readBlock_149 : decode c_C_Un_readBlock 149 = .ok (.bipush 16, 2) := by decide +kernel
theorem dc_Un_readBlock_151 : decode c_C_Un_readBlock 151 = .ok (.idiv, 1) := by decide +kernel
theorem dc_Un_readBlock_152 : decode c_C_Un_readBlock 152 = .ok (.iadd, 1) := by decide +kernel
theorem dc_Un_readBlock_153 : decode c_C_Un_readBlock 153 = .ok (.istore 7, 2) := by decide +kernel
theorem dc_Un_readBlock_155 : decode c_C_Un_readBlock 155 = .ok (.iload 7, 2) := by decide +kernel
theorem dc_Un_readBlock_157 : decode c_C_Un_readBlock 157 = .ok (.bipush 64, 2) := by decide +kernel
theorem dc_Un_readBlock_159 : decode c_C_Un_readBlock 159 = .ok (.if_icmp .lt 22, 3) := by decide +kernel
theorem dc_Un_readBlock_162 : decode c_C_Un_readBlock 162 = .ok (.aload_n 0, 1) := by decide +kernel
theorem dc_Un_readBlock_163 : decode c_C_Un_readBlock 163 = .ok (.getfield 12, 3) := by decide +kernel
theorem dc_Un_readBlock_166 : decode c_C_Un_readBlock 166 = .ok (.bipush 7, 2) := by decide +kernel
theorem dc_Un_readBlock_168 : decode c_C_Un_readBlock 168 = .ok (.aload_n 0, 1) := by decide +kernel
theorem dc_Un_readBlock_169 : decode c_C_Un_readBlock 169 = .ok (.getfield 12, 3) := by decide +kernel
theorem dc_Un_readBlock_172 : decode c_C_Un_readBlock 172 = .ok (.getfield 247, 3) := by decide +kernel
theorem dc_Un_readBlock_175 : decode c_C_Un_readBlock 175 = .ok (.invokevirtual 74, 3) := by decide +kernel
theorem dc_Un_readBlock_178 : decode c_C_Un_readBlock 178 = .ok (.goto 35, 3) := by decide +kernel
theorem dc_Un_readBlock_181 : decode c_C_Un_readBlock 181 = .ok (.iload 6, 2) := by decide +kernel
theorem dc_Un_readBlock_183 : decode c_C_Un_readBlock 183 = .ok (.bipush 16, 2) := by decide +kernel
theorem dc_Un_readBlock_185 : decode c_C_Un_readBlock 185 = .ok (.irem, 1) := by decide +kernel
theorem dc_Un_readBlock_186 : decode c_C_Un_readBlock 186 = .ok (.ifCond .le 27, 3) := by decide +kernel
theorem dc_Un_readBlock_189 : decode c_C_Un_readBlock 189 = .ok (.aload_n 0, 1) := by decide +kernel
theorem dc_Un_readBlock_190 : decode c_C_Un_readBlock 190 = .ok (.getfield 21, 3) := by decide +kernel
theorem dc_Un_readBlock_193 : decode c_C_Un_readBlock 193 = .ok (.getfield 250, 3) := by decide +kernel
theorem dc_Un_readBlock_196 : decode c_C_Un_readBlock 196 = .ok (.iload_n 3, 1) := by decide +kernel
theorem dc_Un_readBlock_197 : decode c_C_Un_readBlock 197 = .ok (.iload 7, 2) := by decide +kernel
theorem dc_Un_readBlock_199 : decode c_C_Un_readBlock 199 = .ok (.iadd, 1) := by decide +kernel
theorem dc_Un_readBlock_200 : decode c_C_Un_readBlock 200 = .ok (.aload_n 0, 1) := by decide +kernel
theorem dc_Un_readBlock_201 : decode c_C_Un_readBlock 201 = .ok (.getfield 12, 3) := by decide +kernel
theorem dc_Un_readBlock_204 : decode c_C_Un_readBlock 204 = .ok (.iload 6, 2) := by decide +kernel
theorem dc_Un_readBlock_206 : decode c_C_Un_readBlock 206 = .ok (.bipush 16, 2) := by decide +kernel
theorem dc_Un_readBlock_208 : decode c_C_Un_readBlock 208 = .ok (.irem, 1) := by decide +kernel
theorem dc_Un_readBlock_209 : decode c_C_Un_readBlock 209 = .ok (.invokevirtual 244, 3) := by decide +kernel
theorem dc_Un_readBlock_212 : decode c_C_Un_readBlock 212 = .ok (.iastore, 1) := by decide +kernel
theorem dc_Un_readBlock_213 : decode c_C_Un_readBlock 213 = .ok (.iinc 7 1, 3) := by decide +kernel
theorem dc_Un_readBlock_216 : decode c_C_Un_readBlock 216 = .ok (.goto (-94), 3) := by decide +kernel
theorem dc_Un_readBlock_219 : decode c_C_Un_readBlock 219 = .ok (.return_, 1) := by decide +kernel
theorem dc_Un_readData_0 : decode c_C_Un_readData 0 = .ok (.aload_n 0, 1) := by decide +kernel
theorem dc_Un_readData_1 : decode c_C_Un_readData 1 = .ok (.getfield 12, 3) := by decide +kernel
theorem dc_Un_readData_4 : decode c_C_Un_readData 4 = .ok (.invokevirtual 213, 3) := by decide +kernel
theorem dc_Un_readData_7 : decode c_C_Un_readData 7 = .ok (.aload_n 0, 1) := by decide +kernel
theorem dc_Un_readData_8 : decode c_C_Un_readData 8 = .ok (.getfield 56, 3) := by decide +kernel
theorem dc_Un_readData_11 : decode c_C_Un_readData 11 = .ok (.iconst 0, 1) := by decide +kernel
theorem dc_Un_readData_12 : decode c_C_Un_readData 12 = .ok (.invokestatic 216, 3) := by decide +kernel
theorem dc_Un_readData_15 : decode c_C_Un_readData 15 = .ok (.iconst 0, 1) := by decide +kernel
theorem dc_Un_readData_16 : decode c_C_Un_readData 16 = .ok (.istore_n 1, 1) := by decide +kernel
theorem dc_Un_readData_17 : decode c_C_Un_readData 17 = .ok (.iconst 0, 1) := by decide +kernel
theorem dc_Un_readData_18 : decode c_C_Un_readData 18 = .ok (.istore_n 2, 1) := by decide +kernel
theorem dc_Un_readData_19 : decode c_C_Un_readData 19 = .ok (.iload_n 2, 1) := by decide +kernel
theorem dc_Un_readData_20 : decode c_C_Un_readData 20 = .ok (.aload_n 0, 1) := by decide +kernel
theorem dc_Un_readData_21 : decode c_C_Un_readData 21 = .ok (.getfield 28, 3) := by decide +kernel
theorem dc_Un_readData_24 : decode c_C_Un_readData 24 = .ok (.getfield 222, 3) := by decide +kernel
theorem dc_Un_readData_27 : decode c_C_Un_readData 27 = .ok (.if_icmp .ge 86, 3) := by decide +kernel
theorem dc_Un_readData_30 : decode c_C_Un_readData 30 = .ok (.aload_n 0, 1) := by decide +kernel
theorem dc_Un_readData_31 : decode c_C_Un_readData 31 = .ok (.getfield 102, 3) := by decide +kernel
theorem dc_Un_readData_34 : decode c_C_Un_readData 34 = .ok (.ifCond .le 31, 3) := by decide +kernel
theorem dc_Un_readData_37 : decode c_C_Un_readData 37 = .ok (.iload_n 2, 1) := by decide +kernel
theorem dc_Un_readData_38 : decode c_C_Un_readData 38 = .ok (.ifCond .le 27, 3) := by decide +kernel
theorem dc_Un_readData_41 : decode c_C_Un_readData 41 = .ok (.iload_n 2, 1) := by decide +kernel
theorem dc_Un_readData_42 : decode c_C_Un_readData 42 = .ok (.aload_n 0, 1) := by decide +kernel
theorem dc_Un_readData_43 : decode c_C_Un_readData 43 = .ok (.getfield 102, 3) := by decide +kernel
theorem dc_Un_readData_46 : decode c_C_Un_readData 46 = .ok (.irem, 1) := by decide +kernel
theorem dc_Un_readData_47 : decode c_C_Un_readData 47 = .ok (.ifCond .ne 18, 3) := by decide +kernel
theorem dc_Un_readData_50 : decode c_C_Un_readData 50 = .ok (.aload_n 0, 1) := by decide +kernel
theorem dc_Un_readData_51 : decode c_C_Un_readData 51 = .ok (.sipush 208, 3) := by decide +kernel
theorem dc_Un_readData_54 : decode c_C_Un_readData 54 = .ok (.iload_n 1, 1) := by decide +kernel
theorem dc_Un_readData_55 : decode c_C_Un_readData 55 = .ok (.bipush 8, 2) := by decide +kernel
theorem dc_Un_readData_57 : decode c_C_Un_readData 57 = .ok (.irem, 1) := by decide +kernel
theorem dc_Un_readData_58 : decode c_C_Un_readData 58 = .ok (.iadd, 1) := by decide +kernel
theorem dc_Un_readData_59 : decode c_C_Un_readData 59 = .ok (.invokevirtual 225, 3) := by decide +kernel
theorem dc_Un_readData_62 : decode c_C_Un_readData 62 = .ok (.iinc 1 1, 3) := by decide +kernel
theorem dc_Un_readData_65 : decode c_C_Un_readData 65 = .ok (.iconst 0, 1) := by decide +kernel
theorem dc_Un_readData_66 : decode c_C_Un_readData 66 = .ok (.istore_n 3, 1) := by decide +kernel
theorem dc_Un_readData_67 : decode c_C_Un_readData 67 = .ok (.iload_n 3, 1) := by decide +kernel
theorem dc_Un_readData_68 : decode c_C_Un_readData 68 = .ok (.aload_n 0, 1) := by decide +kernel
theorem dc_Un_readData_69 : decode c_C_Un_readData 69 = .ok (.getfield 28, 3) := by decide +kernel
theorem dc_Un_readData_72 : decode c_C_Un_readData 72 = .ok (.getfield 228, 3) := by decide +kernel
theorem dc_Un_readData_75 : decode c_C_Un_readData 75 = .ok (.if_icmp .ge 32, 3) := by decide +kernel
theorem dc_Un_readData_78 : decode c_C_Un_readData 78 = .ok (.aload_n 0, 1) := by decide +kernel
theorem dc_Un_readData_79 : decode c_C_Un_readData 79 = .ok (.aload_n 0, 1) := by decide +kernel
theorem dc_Un_readData_80 : decode c_C_Un_readData 80 = .ok (.getfield 28, 3) := by decide +kernel
theorem dc_Un_readData_83 : decode c_C_Un_readData 83 = .ok (.getfield 231, 3) := by decide +kernel
theorem dc_Un_readData_86 : decode c_C_Un_readData 86 = .ok (.aload_n 0, 1) := by decide +kernel
theorem dc_Un_readData_87 : decode c_C_Un_readData 87 = .ok (.getfield 28, 3) := by decide +kernel
theorem dc_Un_readData_90 : decode c_C_Un_readData 90 = .ok (.getfield 228, 3) := by decide +kernel
theorem dc_Un_readData_93 : decode c_C_Un_readData 93 = .ok (.iload_n 2, 1) := by decide +kernel
theorem dc_Un_readData_94 : decode c_C_Un_readData 94 = .ok (.imul, 1) := by decide +kernel
theorem dc_Un_readData_95 : decode c_C_Un_readData 95 = .ok (.iload_n 3, 1) := by decide +kernel
theorem dc_Un_readData_96 : decode c_C_Un_readData 96 = .ok (.iadd, 1) := by decide +kernel
theorem dc_Un_readData_97 : decode c_C_Un_readData 97 = .ok (.iaload, 1) := by decide +kernel
theorem dc_Un_readData_98 : decode c_C_Un_readData 98 = .ok (.invokevirtual 234, 3) := by decide +kernel
theorem dc_Un_readData_101 : decode c_C_Un_readData 101 = .ok (.iinc 3 1, 3) := by decide +kernel
theorem dc_Un_readData_104 : decode c_C_Un_readData 104 = .ok (.goto (-37), 3) := by decide +kernel
theorem dc_Un_readData_107 : decode c_C_Un_readData 107 = .ok (.iinc 2 1, 3) := by decide +kernel
theorem dc_Un_readData_110 : decode c_C_Un_readData 110 = .ok (.goto (-91), 3) := by decide +kernel
theorem dc_Un_readData_113 : decode c_C_Un_readData 113 = .ok (.return_, 1) := by decide +kernel
theorem dc_Un_readRow_0 : decode c_C_Un_readRow 0 = .ok (.aload_n 0, 1) := by decide +kernel
theorem dc_Un_readRow_1 : decode c_C_Un_readRow 1 = .ok (.invokevirtual 63, 3) := by decide +kernel
theorem dc_Un_readRow_4 : decode c_C_Un_readRow 4 = .ok (.aload_n 0, 1) := by decide +kernel
theorem dc_Un_readRow_5 : decode c_C_Un_readRow 5 = .ok (.getfield 12, 3) := by decide +kernel
theorem dc_Un_readRow_8 : decode c_C_Un_readRow 8 = .ok (.invokevirtual 66, 3) := by decide +kernel
theorem dc_Un_readRow_11 : decode c_C_Un_readRow 11 = .ok (.sipush 216, 3) := by decide +kernel
theorem dc_Un_readRow_14 : decode c_C_Un_readRow 14 = .ok (.if_icmp .eq 20, 3) := by decide +kernel
theorem dc_Un_readRow_17 : decode c_C_Un_readRow 17 = .ok (.aload_n 0, 1) := by decide +kernel
theorem dc_Un_readRow_18 : decode c_C_Un_readRow 18 = .ok (.getfield 12, 3) := by decide +kernel
theorem dc_Un_readRow_21 : decode c_C_Un_readRow 21 = .ok (.iconst 3, 1) := by decide +kernel
theorem dc_Un_readRow_22 : decode c_C_Un_readRow 22 = .ok (.aload_n 0, 1) := by decide +kernel
theorem dc_Un_readRow_23 : decode c_C_Un_readRow 23 = .ok (.getfield 12, 3) := by decide +kernel
theorem dc_Un_readRow_26 : decode c_C_Un_readRow 26 = .ok (.getfield 70, 3) := by decide +kernel
theorem dc_Un_readRow_29 : decode c_C_Un_readRow 29 = .ok (.iconst 1, 1) := by decide +kernel
theorem dc_Un_readRow_30 : decode c_C_Un_readRow 30 = .ok (.isub, 1) := by decide +kernel
theorem dc_Un_readRow_31 : decode c_C_Un_readRow 31 = .ok (.invokevirtual 74, 3) := by decide +kernel
theorem dc_Un_readRow_34 : decode c_C_Un_readRow 34 = .ok (.iconst 1, 1) := by decide +kernel
theorem dc_Un_readRow_35 : decode c_C_Un_readRow 35 = .ok (.istore_n 1, 1) := by decide +kernel
theorem dc_Un_readRow_36 : decode c_C_Un_readRow 36 = .ok (.iconst 0, 1) := by decide +kernel
theorem dc_Un_readRow_37 : decode c_C_Un_readRow 37 = .ok (.istore_n 2, 1) := by decide +kernel
theorem dc_Un_readRow_38 : decode c_C_Un_readRow 38 = .ok (.iload_n 1, 1) := by decide +kernel
theorem dc_Un_readRow_39 : decode c_C_Un_readRow 39 = .ok (.ifCond .eq 81, 3) := by decide +kernel
theorem dc_Un_readRow_42 : decode c_C_Un_readRow 42 = .ok (.iload_n 2, 1) := by decide +kernel
theorem dc_Un_readRow_43 : decode c_C_Un_readRow 43 = .ok (.ldc 78, 2) := by decide +kernel
theorem dc_Un_readRow_45 : decode c_C_Un_readRow 45 = .ok (.if_icmp .ge 75, 3) := by decide +kernel
theorem dc_Un_readRow_48 : decode c_C_Un_readRow 48 = .ok (.aload_n 0, 1) := by decide +kernel
theorem dc_Un_readRow_49 : decode c_C_Un_readRow 49 = .ok (.getfield 12, 3) := by decide +kernel
theorem dc_Un_readRow_52 : decode c_C_Un_readRow 52 = .ok (.invokevirtual 66, 3) := by decide +kernel
theorem dc_Un_readRow_55 : decode c_C_Un_readRow 55 = .ok (.istore_n 3, 1) := by decide +kernel
theorem dc_Un_readRow_56 : decode c_C_Un_readRow 56 = .ok (.iload_n 3, 1) := by decide +kernel
theorem dc_Un_readRow_57 : decode c_C_Un_readRow 57 = .ok (.sipush 217, 3) := by decide +kernel
theorem dc_Un_readRow_60 : decode c_C_Un_readRow 60 = .ok (.if_icmp .eq 7, 3) := by decide +kernel
theorem dc_Un_readRow_63 : decode c_C_Un_readRow 63 = .ok (.iconst 1, 1) := by decide +kernel
theorem dc_Un_readRow_64 : decode c_C_Un_readRow 64 = .ok (.goto 4, 3) := by decide +kernel
theorem dc_Un_readRow_67 : decode c_C_Un_readRow 67 = .ok (.iconst 0, 1) := by decide +kernel
theorem dc_Un_readRow_68 : decode c_C_Un_readRow 68 = .ok (.istore_n 1, 1) := by decide +kernel
theorem dc_Un_readRow_69 : decode c_C_Un_readRow 69 = .ok (.aload_n 0, 1) := by decide +kernel
theorem dc_Un_readRow_70 : decode c_C_Un_readRow 70 = .ok (.iload_n 3, 1) := by decide +kernel
theorem dc_Un_readRow_71 : decode c_C_Un_readRow 71 = .ok (.invokevirtual 79, 3) := by decide +kernel
theorem dc_Un_readRow_74 : decode c_C_Un_readRow 74 = .ok (.ifCond .ne 20, 3) := by decide +kernel
theorem dc_Un_readRow_77 : decode c_C_Un_readRow 77 = .ok (.aload_n 0, 1) := by decide +kernel
theorem dc_Un_readRow_78 : decode c_C_Un_readRow 78 = .ok (.getfield 12, 3) := by decide +kernel
theorem dc_Un_readRow_81 : decode c_C_Un_readRow 81 = .ok (.iconst 3, 1) := by decide +kernel
theorem dc_Un_readRow_82 : decode c_C_Un_readRow 82 = .ok (.aload_n 0, 1) := by decide +kernel
theorem dc_Un_readRow_83 : decode c_C_Un_readRow 83 = .ok (.getfield 12, 3) := by decide +kernel
theorem dc_Un_readRow_86 : decode c_C_Un_readRow 86 = .ok (.getfield 70, 3) := by decide +kernel
theorem dc_Un_readRow_89 : decode c_C_Un_readRow 89 = .ok (.iconst 1, 1) := by decide +kernel
theorem dc_Un_readRow_90 : decode c_C_Un_readRow 90 = .ok (.isub, 1) := by decide +kernel
theorem dc_Un_readRow_91 : decode c_C_Un_readRow 91 = .ok (.invokevirtual 74, 3) := by decide +kernel
theorem dc_Un_readRow_94 : decode c_C_Un_readRow 94 = .ok (.iload_n 1, 1) := by decide +kernel
theorem dc_Un_readRow_95 : decode c_C_Un_readRow 95 = .ok (.ifCond .eq 8, 3) := by decide +kernel
theorem dc_Un_readRow_98 : decode c_C_Un_readRow 98 = .ok (.aload_n 0, 1) := by decide +kernel
theorem dc_Un_readRow_99 : decode c_C_Un_readRow 99 = .ok (.iload_n 3, 1) := by decide +kernel
theorem dc_Un_readRow_100 : decode c_C_Un_readRow 100 = .ok (.invokevirtual 83, 3) := by decide +kernel
theorem dc_Un_readRow_103 : decode c_C_Un_readRow 103 = .ok (.iload_n 3, 1) := by decide +kernel
theorem dc_Un_readRow_104 : decode c_C_Un_readRow 104 = .ok (.sipush 218, 3) := by decide +kernel
theorem dc_Un_readRow_107 : decode c_C_Un_readRow 107 = .ok (.if_icmp .ne 7, 3) := by decide +kernel
theorem dc_Un_readRow_110 : decode c_C_Un_readRow 110 = .ok (.aload_n 0, 1) := by decide +kernel
theorem dc_Un_readRow_111 : decode c_C_Un_readRow 111 = .ok (.invokevirtual 87, 3) := by decide +kernel
theorem dc_Un_readRow_114 : decode c_C_Un_readRow 114 = .ok (.iinc 2 1, 3) := by decide +kernel
theorem dc_Un_readRow_117 : decode c_C_Un_readRow 117 = .ok (.goto (-79), 3) := by decide +kernel
theorem dc_Un_readRow_120 : decode c_C_Un_readRow 120 = .ok (.aload_n 0, 1) := by decide +kernel
theorem dc_Un_readRow_121 : decode c_C_Un_readRow 121 = .ok (.getfield 12, 3) := by decide +kernel
theorem dc_Un_readRow_124 : decode c_C_Un_readRow 124 = .ok (.getfield 90, 3) := by decide +kernel
theorem dc_Un_readRow_127 : decode c_C_Un_readRow 127 = .ok (.aload_n 0, 1) := by decide +kernel
theorem dc_Un_readRow_128 : decode c_C_Un_readRow 128 = .ok (.getfield 12, 3) := by decide +kernel
theorem dc_Un_readRow_131 : decode c_C_Un_readRow 131 = .ok (.getfield 70, 3) := by decide +kernel
theorem dc_Un_readRow_134 : decode c_C_Un_readRow 134 = .ok (.invokevirtual 94, 3) := by decide +kernel
theorem dc_Un_readRow_137 : decode c_C_Un_readRow 137 = .ok (.ifCond .eq 19, 3) := by decide +kernel
theorem dc_Un_readRow_140 : decode c_C_Un_readRow 140 = .ok (.aload_n 0, 1) := by decide +kernel
theorem dc_Un_readRow_141 : decode c_C_Un_readRow 141 = .ok (.getfield 12, 3) := by decide +kernel
theorem dc_Un_readRow_144 : decode c_C_Un_readRow 144 = .ok (.bipush 8, 2) := by decide +kernel
theorem dc_Un_readRow_146 : decode c_C_Un_readRow 146 = .ok (.aload_n 0, 1) := by decide +kernel
theorem dc_Un_readRow_147 : decode c_C_Un_readRow 147 = .ok (.getfield 12, 3) := by decide +kernel
theorem dc_Un_readRow_150 : decode c_C_Un_readRow 150 = .ok (.getfield 70, 3) := by decide +kernel
theorem dc_Un_readRow_153 : decode c_C_Un_readRow 153 = .ok (.invokevirtual 74, 3) := by decide +kernel
theorem dc_Un_readRow_156 : decode c_C_Un_readRow 156 = .ok (.return_, 1) := by decide +kernel
theorem dc_Un_handOver_0 : decode c_C_Un_handOver 0 = .ok (.aload_n 0, 1) := by decide +kernel
theorem dc_Un_handOver_1 : decode c_C_Un_handOver 1 = .ok (.getfield 21, 3) := by decide +kernel
theorem dc_Un_handOver_4 : decode c_C_Un_handOver 4 = .ok (.astore_n 2, 1) := by decide +kernel
theorem dc_Un_handOver_5 : decode c_C_Un_handOver 5 = .ok (.aload_n 2, 1) := by decide +kernel
theorem dc_Un_handOver_6 : decode c_C_Un_handOver 6 = .ok (.iconst 1, 1) := by decide +kernel
theorem dc_Un_handOver_7 : decode c_C_Un_handOver 7 = .ok (.putfield 59, 3) := by decide +kernel
theorem dc_Un_handOver_10 : decode c_C_Un_handOver 10 = .ok (.aload_n 0, 1) := by decide +kernel
theorem dc_Un_handOver_11 : decode c_C_Un_handOver 11 = .ok (.aload_n 1, 1) := by decide +kernel
theorem dc_Un_handOver_12 : decode c_C_Un_handOver 12 = .ok (.putfield 21, 3) := by decide +kernel
theorem dc_Un_handOver_15 : decode c_C_Un_handOver 15 = .ok (.aload_n 2, 1) := by decide +kernel
theorem dc_Un_handOver_16 : decode c_C_Un_handOver 16 = .ok (.areturn, 1) := by decide +kernel
theorem dc_B_place_0 : decode c_C_B_place 0 = .ok (.aload_n 0, 1) := by decide +kernel
theorem dc_B_place_1 : decode c_C_B_place 1 = .ok (.getfield 61, 3) := by decide +kernel
theorem dc_B_place_4 : decode c_C_B_place 4 = .ok (.ireturn, 1) := by decide +kernel
theorem dc_B_about_0 : decode c_C_B_about 0 = .ok (.iload_n 1, 1) := by decide +kernel
theorem dc_B_about_1 : decode c_C_B_about 1 = .ok (.iconst 0, 1) := by decide +kernel
theorem dc_B_about_2 : decode c_C_B_about 2 = .ok (.iconst 2, 1) := by decide +kernel
theorem dc_B_about_3 : decode c_C_B_about 3 = .ok (.invokestatic 71, 3) := by decide +kernel
theorem dc_B_about_6 : decode c_C_B_about 6 = .ok (.ifCond .ne 13, 3) := by decide +kernel
theorem dc_B_about_9 : decode c_C_B_about 9 = .ok (.new 75, 3) := by decide +kernel
theorem dc_B_about_12 : decode c_C_B_about 12 = .ok (.dup, 1) := by decide +kernel
theorem dc_B_about_13 : decode c_C_B_about 13 = .ok (.ldc 179, 2) := by decide +kernel
theorem dc_B_about_15 : decode c_C_B_about 15 = .ok (.invokespecial 79, 3) := by decide +kernel
theorem dc_B_about_18 : decode c_C_B_about 18 = .ok (.athrow, 1) := by decide +kernel
theorem dc_B_about_19 : decode c_C_B_about 19 = .ok (.aload_n 0, 1) := by decide +kernel
theorem dc_B_about_20 : decode c_C_B_about 20 = .ok (.getfield 57, 3) := by decide +kernel
theorem dc_B_about_23 : decode c_C_B_about 23 = .ok (.getfield 181, 3) := by decide +kernel
theorem dc_B_about_26 : decode c_C_B_about 26 = .ok (.ifCond .ne 13, 3) := by decide +kernel
theorem dc_B_about_29 : decode c_C_B_about 29 = .ok (.new 149, 3) := by decide +kernel
theorem dc_B_about_32 : decode c_C_B_about 32 = .ok (.dup, 1) := by decide +kernel
theorem dc_B_about_33 : decode c_C_B_about 33 = .ok (.ldc 185, 2) := by decide +kernel
theorem dc_B_about_35 : decode c_C_B_about 35 = .ok (.invokespecial 153, 3) := by decide +kernel
theorem dc_B_about_38 : decode c_C_B_about 38 = .ok (.athrow, 1) := by decide +kernel
theorem dc_B_about_39 : decode c_C_B_about 39 = .ok (.iload_n 1, 1) := by decide +kernel
theorem dc_B_about_40 : decode c_C_B_about 40 = .ok (.ifCond .ne 13, 3) := by decide +kernel
theorem dc_B_about_43 : decode c_C_B_about 43 = .ok (.aload_n 0, 1) := by decide +kernel
theorem dc_B_about_44 : decode c_C_B_about 44 = .ok (.getfield 57, 3) := by decide +kernel
theorem dc_B_about_47 : decode c_C_B_about 47 = .ok (.getfield 187, 3) := by decide +kernel
theorem dc_B_about_50 : decode c_C_B_about 50 = .ok (.goto 25, 3) := by decide +kernel
theorem dc_B_about_53 : decode c_C_B_about 53 = .ok (.iload_n 1, 1) := by decide +kernel
theorem dc_B_about_54 : decode c_C_B_about 54 = .ok (.iconst 1, 1) := by decide +kernel
theorem dc_B_about_55 : decode c_C_B_about 55 = .ok (.if_icmp .ne 13, 3) := by decide +kernel
theorem dc_B_about_58 : decode c_C_B_about 58 = .ok (.aload_n 0, 1) := by decide +kernel
theorem dc_B_about_59 : decode c_C_B_about 59 = .ok (.getfield 57, 3) := by decide +kernel
theorem dc_B_about_62 : decode c_C_B_about 62 = .ok (.getfield 190, 3) := by decide +kernel
theorem dc_B_about_65 : decode c_C_B_about 65 = .ok (.goto 10, 3) := by decide +kernel
theorem dc_B_about_68 : decode c_C_B_about 68 = .ok (.aload_n 0, 1) := by decide +kernel
theorem dc_B_about_69 : decode c_C_B_about 69 = .ok (.getfield 57, 3) := by decide +kernel
theorem dc_B_about_72 : decode c_C_B_about 72 = .ok (.getfield 193, 3) := by decide +kernel
theorem dc_B_about_75 : decode c_C_B_about 75 = .ok (.ireturn, 1) := by decide +kernel
theorem dc_Wa_hasWeights_0 : decode c_C_Wa_hasWeights 0 = .ok (.iconst 0, 1) := by decide +kernel
theorem dc_Wa_hasWeights_1 : decode c_C_Wa_hasWeights 1 = .ok (.istore_n 2, 1) := by decide +kernel
theorem dc_Wa_hasWeights_2 : decode c_C_Wa_hasWeights 2 = .ok (.iconst 0, 1) := by decide +kernel
theorem dc_Wa_hasWeights_3 : decode c_C_Wa_hasWeights 3 = .ok (.istore_n 3, 1) := by decide +kernel
theorem dc_Wa_hasWeights_4 : decode c_C_Wa_hasWeights 4 = .ok (.iload_n 3, 1) := by decide +kernel
theorem dc_Wa_hasWeights_5 : decode c_C_Wa_hasWeights 5 = .ok (.bipush 8, 2) := by decide +kernel
theorem dc_Wa_hasWeights_7 : decode c_C_Wa_hasWeights 7 = .ok (.if_icmp .ge 33, 3) := by decide +kernel
theorem dc_Wa_hasWeights_10 : decode c_C_Wa_hasWeights 10 = .ok (.iload_n 2, 1) := by decide +kernel
theorem dc_Wa_hasWeights_11 : decode c_C_Wa_hasWeights 11 = .ok (.ifCond .ne 17, 3) := by decide +kernel
theorem dc_Wa_hasWeights_14 : decode c_C_Wa_hasWeights 14 = .ok (.aload_n 0, 1) := by decide +kernel
theorem dc_Wa_hasWeights_15 : decode c_C_Wa_hasWeights 15 = .ok (.getfield 18, 3) := by decide +kernel
theorem dc_Wa_hasWeights_18 : decode c_C_Wa_hasWeights 18 = .ok (.bipush 8, 2) := by decide +kernel
theorem dc_Wa_hasWeights_20 : decode c_C_Wa_hasWeights 20 = .ok (.iload_n 1, 1) := by decide +kernel
theorem dc_Wa_hasWeights_21 : decode c_C_Wa_hasWeights 21 = .ok (.imul, 1) := by decide +kernel
theorem dc_Wa_hasWeights_22 : decode c_C_Wa_hasWeights 22 = .ok (.iload_n 3, 1) := by decide +kernel
theorem dc_Wa_hasWeights_23 : decode c_C_Wa_hasWeights 23 = .ok (.iadd, 1) := by decide +kernel
theorem dc_Wa_hasWeights_24 : decode c_C_Wa_hasWeights 24 = .ok (.iaload, 1) := by decide +kernel
theorem dc_Wa_hasWeights_25 : decode c_C_Wa_hasWeights 25 = .ok (.ifCond .eq 7, 3) := by decide +kernel
theorem dc_Wa_hasWeights_28 : decode c_C_Wa_hasWeights 28 = .ok (.iconst 1, 1) := by decide +kernel
theorem dc_Wa_hasWeights_29 : decode c_C_Wa_hasWeights 29 = .ok (.goto 4, 3) := by decide +kernel
theorem dc_Wa_hasWeights_32 : decode c_C_Wa_hasWeights 32 = .ok (.iconst 0, 1) := by decide +kernel
theorem dc_Wa_hasWeights_33 : decode c_C_Wa_hasWeights 33 = .ok (.istore_n 2, 1) := by decide +kernel
theorem dc_Wa_hasWeights_34 : decode c_C_Wa_hasWeights 34 = .ok (.iinc 3 1, 3) := by decide +kernel
theorem dc_Wa_hasWeights_37 : decode c_C_Wa_hasWeights 37 = .ok (.goto (-33), 3) := by decide +kernel
theorem dc_Wa_hasWeights_40 : decode c_C_Wa_hasWeights 40 = .ok (.iload_n 2, 1) := by decide +kernel
theorem dc_Wa_hasWeights_41 : decode c_C_Wa_hasWeights 41 = .ok (.ireturn, 1) := by decide +kernel
theorem dc_Wa_makeRow_0 : decode c_C_Wa_makeRow 0 = .ok (.iconst 0, 1) := by decide +kernel
theorem dc_Wa_makeRow_1 : decode c_C_Wa_makeRow 1 = .ok (.istore_n 2, 1) := by decide +kernel
theorem dc_Wa_makeRow_2 : decode c_C_Wa_makeRow 2 = .ok (.iload_n 2, 1) := by decide +kernel
theorem dc_Wa_makeRow_3 : decode c_C_Wa_makeRow 3 = .ok (.bipush 8, 2) := by decide +kernel
theorem dc_Wa_makeRow_5 : decode c_C_Wa_makeRow 5 = .ok (.if_icmp .ge 74, 3) := by decide +kernel
theorem dc_Wa_makeRow_8 : decode c_C_Wa_makeRow 8 = .ok (.ldc2_w 52, 3) := by decide +kernel
theorem dc_Wa_makeRow_11 : decode c_C_Wa_makeRow 11 = .ok (.lstore_n 3, 1) := by decide +kernel
theorem dc_Wa_makeRow_12 : decode c_C_Wa_makeRow 12 = .ok (.iconst 0, 1) := by decide +kernel
theorem dc_Wa_makeRow_13 : decode c_C_Wa_makeRow 13 = .ok (.istore 5, 2) := by decide +kernel
theorem dc_Wa_makeRow_15 : decode c_C_Wa_makeRow 15 = .ok (.iload 5, 2) := by decide +kernel
theorem dc_Wa_makeRow_17 : decode c_C_Wa_makeRow 17 = .ok (.bipush 8, 2) := by decide +kernel
theorem dc_Wa_makeRow_19 : decode c_C_Wa_makeRow 19 = .ok (.if_icmp .ge 39, 3) := by decide +kernel
theorem dc_Wa_makeRow_22 : decode c_C_Wa_makeRow 22 = .ok (.lload_n 3, 1) := by decide +kernel
theorem dc_Wa_makeRow_23 : decode c_C_Wa_makeRow 23 = .ok (.aload_n 0, 1) := by decide +kernel
theorem dc_Wa_makeRow_24 : decode c_C_Wa_makeRow 24 = .ok (.getfield 9, 3) := by decide +kernel
theorem dc_Wa_makeRow_27 : decode c_C_Wa_makeRow 27 = .ok (.bipush 8, 2) := by decide +kernel
theorem dc_Wa_makeRow_29 : decode c_C_Wa_makeRow 29 = .ok (.iload 5, 2) := by decide +kernel
theorem dc_Wa_makeRow_31 : decode c_C_Wa_makeRow 31 = .ok (.imul, 1) := by decide +kernel
theorem dc_Wa_makeRow_32 : decode c_C_Wa_makeRow 32 = .ok (.iload_n 2, 1) := by decide +kernel
theorem dc_Wa_makeRow_33 : decode c_C_Wa_makeRow 33 = .ok (.iadd, 1) := by decide +kernel
theorem dc_Wa_makeRow_34 : decode c_C_Wa_makeRow 34 = .ok (.iaload, 1) := by decide +kernel
theorem dc_Wa_makeRow_35 : decode c_C_Wa_makeRow 35 = .ok (.i2l, 1) := by decide +kernel
theorem dc_Wa_makeRow_36 : decode c_C_Wa_makeRow 36 = .ok (.aload_n 0, 1) := by decide +kernel
theorem dc_Wa_makeRow_37 : decode c_C_Wa_makeRow 37 = .ok (.getfield 18, 3) := by decide +kernel
theorem dc_Wa_makeRow_40 : decode c_C_Wa_makeRow 40 = .ok (.bipush 8, 2) := by decide +kernel
theorem dc_Wa_makeRow_42 : decode c_C_Wa_makeRow 42 = .ok (.iload_n 1, 1) := by decide +kernel
theorem dc_Wa_makeRow_43 : decode c_C_Wa_makeRow 43 = .ok (.imul, 1) := by decide +kernel
theorem dc_Wa_makeRow_44 : decode c_C_Wa_makeRow 44 = .ok (.iload 5, 2) := by decide +kernel
theorem dc_Wa_makeRow_46 : decode c_C_Wa_makeRow 46 = .ok (.iadd, 1) := by decide +kernel
theorem dc_Wa_makeRow_47 : decode c_C_Wa_makeRow 47 = .ok (.iaload, 1) := by decide +kernel
theorem dc_Wa_makeRow_48 : decode c_C_Wa_makeRow 48 = .ok (.i2l, 1) := by decide +kernel
theorem dc_Wa_makeRow_49 : decode c_C_Wa_makeRow 49 = .ok (.lmul, 1) := by decide +kernel
theorem dc_Wa_makeRow_50 : decode c_C_Wa_makeRow 50 = .ok (.ladd, 1) := by decide +kernel
theorem dc_Wa_makeRow_51 : decode c_C_Wa_makeRow 51 = .ok (.lstore_n 3, 1) := by decide +kernel
theorem dc_Wa_makeRow_52 : decode c_C_Wa_makeRow 52 = .ok (.iinc 5 1, 3) := by decide +kernel
theorem dc_Wa_makeRow_55 : decode c_C_Wa_makeRow 55 = .ok (.goto (-40), 3) := by decide +kernel
theorem dc_Wa_makeRow_58 : decode c_C_Wa_makeRow 58 = .ok (.aload_n 0, 1) := by decide +kernel
theorem dc_Wa_makeRow_59 : decode c_C_Wa_makeRow 59 = .ok (.getfield 21, 3) := by decide +kernel
theorem dc_Wa_makeRow_62 : decode c_C_Wa_makeRow 62 = .ok (.bipush 8, 2) := by decide +kernel
theorem dc_Wa_makeRow_64 : decode c_C_Wa_makeRow 64 = .ok (.iload_n 1, 1) := by decide +kernel
theorem dc_Wa_makeRow_65 : decode c_C_Wa_makeRow 65 = .ok (.imul, 1) := by decide +kernel
theorem dc_Wa_makeRow_66 : decode c_C_Wa_makeRow 66 = .ok (.iload_n 2, 1) := by decide +kernel
theorem dc_Wa_makeRow_67 : decode c_C_Wa_makeRow 67 = .ok (.iadd, 1) := by decide +kernel
theorem dc_Wa_makeRow_68 : decode c_C_Wa_makeRow 68 = .ok (.lload_n 3, 1) := by decide +kernel
theorem dc_Wa_makeRow_69 : decode c_C_Wa_makeRow 69 = .ok (.bipush 9, 2) := by decide +kernel
theorem dc_Wa_makeRow_71 : decode c_C_Wa_makeRow 71 = .ok (.lshr, 1) := by decide +kernel
theorem dc_Wa_makeRow_72 : decode c_C_Wa_makeRow 72 = .ok (.lastore, 1) := by decide +kernel
theorem dc_Wa_makeRow_73 : decode c_C_Wa_makeRow 73 = .ok (.iinc 2 1, 3) := by decide +kernel
theorem dc_Wa_makeRow_76 : decode c_C_Wa_makeRow 76 = .ok (.goto (-74), 3) := by decide +kernel
theorem dc_Wa_makeRow_79 : decode c_C_Wa_makeRow 79 = .ok (.return_, 1) := by decide +kernel
theorem dc_Ar_rangeCheck_0 : decode c_C_Ar_rangeCheck 0 = .ok (.iload_n 1, 1) := by decide +kernel
theorem dc_Ar_rangeCheck_1 : decode c_C_Ar_rangeCheck 1 = .ok (.iload_n 2, 1) := by decide +kernel
theorem dc_Ar_rangeCheck_2 : decode c_C_Ar_rangeCheck 2 = .ok (.if_icmp .le 44, 3) := by decide +kernel
theorem dc_Ar_rangeCheck_5 : decode c_C_Ar_rangeCheck 5 = .ok (.new 43, 3) := by decide +kernel
theorem dc_Ar_rangeCheck_8 : decode c_C_Ar_rangeCheck 8 = .ok (.dup, 1) := by decide +kernel
theorem dc_Ar_rangeCheck_9 : decode c_C_Ar_rangeCheck 9 = .ok (.new 45, 3) := by decide +kernel
theorem dc_Ar_rangeCheck_12 : decode c_C_Ar_rangeCheck 12 = .ok (.dup, 1) := by decide +kernel
theorem dc_Ar_rangeCheck_13 : decode c_C_Ar_rangeCheck 13 = .ok (.invokespecial 47, 3) := by decide +kernel
theorem dc_Ar_rangeCheck_16 : decode c_C_Ar_rangeCheck 16 = .ok (.ldc 48, 2) := by decide +kernel
theorem dc_Ar_rangeCheck_18 : decode c_C_Ar_rangeCheck 18 = .ok (.invokevirtual 50, 3) := by decide +kernel
theorem dc_Ar_rangeCheck_21 : decode c_C_Ar_rangeCheck 21 = .ok (.iload_n 1, 1) := by decide +kernel
theorem dc_Ar_rangeCheck_22 : decode c_C_Ar_rangeCheck 22 = .ok (.invokevirtual 54, 3) := by decide +kernel
theorem dc_Ar_rangeCheck_25 : decode c_C_Ar_rangeCheck 25 = .ok (.ldc 57, 2) := by decide +kernel
theorem dc_Ar_rangeCheck_27 : decode c_C_Ar_rangeCheck 27 = .ok (.invokevirtual 50, 3) := by decide +kernel
theorem dc_Ar_rangeCheck_30 : decode c_C_Ar_rangeCheck 30 = .ok (.iload_n 2, 1) := by decide +kernel
theorem dc_Ar_rangeCheck_31 : decode c_C_Ar_rangeCheck 31 = .ok (.invokevirtual 54, 3) := by decide +kernel
theorem dc_Ar_rangeCheck_34 : decode c_C_Ar_rangeCheck 34 = .ok (.ldc 59, 2) := by decide +kernel
theorem dc_Ar_rangeCheck_36 : decode c_C_Ar_rangeCheck 36 = .ok (.invokevirtual 50, 3) := by decide +kernel
theorem dc_Ar_rangeCheck_39 : decode c_C_Ar_rangeCheck 39 = .ok (.invokevirtual 61, 3) := by decide +kernel
theorem dc_Ar_rangeCheck_42 : decode c_C_Ar_rangeCheck 42 = .ok (.invokespecial 65, 3) := by decide +kernel
theorem dc_Ar_rangeCheck_45 : decode c_C_Ar_rangeCheck 45 = .ok (.athrow, 1) := by decide +kernel
theorem dc_Ar_rangeCheck_46 : decode c_C_Ar_rangeCheck 46 = .ok (.iload_n 1, 1) := by decide +kernel
theorem dc_Ar_rangeCheck_47 : decode c_C_Ar_rangeCheck 47 = .ok (.ifCond .ge 12, 3) := by decide +kernel
theorem dc_Ar_rangeCheck_50 : decode c_C_Ar_rangeCheck 50 = .ok (.new 68, 3) := by decide +kernel
theorem dc_Ar_rangeCheck_53 : decode c_C_Ar_rangeCheck 53 = .ok (.dup, 1) := by decide +kernel
theorem dc_Ar_rangeCheck_54 : decode c_C_Ar_rangeCheck 54 = .ok (.iload_n 1, 1) := by decide +kernel
theorem dc_Ar_rangeCheck_55 : decode c_C_Ar_rangeCheck 55 = .ok (.invokespecial 70, 3) := by decide +kernel
theorem dc_Ar_rangeCheck_58 : decode c_C_Ar_rangeCheck 58 = .ok (.athrow, 1) := by decide +kernel
theorem dc_Ar_rangeCheck_59 : decode c_C_Ar_rangeCheck 59 = .ok (.iload_n 2, 1) := by decide +kernel
theorem dc_Ar_rangeCheck_60 : decode c_C_Ar_rangeCheck 60 = .ok (.iload_n 0, 1) := by decide +kernel
theorem dc_Ar_rangeCheck_61 : decode c_C_Ar_rangeCheck 61 = .ok (.if_icmp .le 12, 3) := by decide +kernel
theorem dc_Ar_rangeCheck_64 : decode c_C_Ar_rangeCheck 64 = .ok (.new 68, 3) := by decide +kernel
theorem dc_Ar_rangeCheck_67 : decode c_C_Ar_rangeCheck 67 = .ok (.dup, 1) := by decide +kernel
theorem dc_Ar_rangeCheck_68 : decode c_C_Ar_rangeCheck 68 = .ok (.iload_n 2, 1) := by decide +kernel
theorem dc_Ar_rangeCheck_69 : decode c_C_Ar_rangeCheck 69 = .ok (.invokespecial 70, 3) := by decide +kernel
theorem dc_Ar_rangeCheck_72 : decode c_C_Ar_rangeCheck 72 = .ok (.athrow, 1) := by decide +kernel
theorem dc_Ar_rangeCheck_73 : decode c_C_Ar_rangeCheck 73 = .ok (.return_, 1) := by decide +kernel
theorem dc_Ar_fillJ_0 : decode c_C_Ar_fillJ 0 = .ok (.aload_n 0, 1) := by decide +kernel
theorem dc_Ar_fillJ_1 : decode c_C_Ar_fillJ 1 = .ok (.arraylength, 1) := by decide +kernel
theorem dc_Ar_fillJ_2 : decode c_C_Ar_fillJ 2 = .ok (.iload_n 1, 1) := by decide +kernel
theorem dc_Ar_fillJ_3 : decode c_C_Ar_fillJ 3 = .ok (.iload_n 2, 1) := by decide +kernel
theorem dc_Ar_fillJ_4 : decode c_C_Ar_fillJ 4 = .ok (.invokestatic 13, 3) := by decide +kernel
theorem dc_Ar_fillJ_7 : decode c_C_Ar_fillJ 7 = .ok (.iload_n 1, 1) := by decide +kernel
theorem dc_Ar_fillJ_8 : decode c_C_Ar_fillJ 8 = .ok (.istore 5, 2) := by decide +kernel
theorem dc_Ar_fillJ_10 : decode c_C_Ar_fillJ 10 = .ok (.iload 5, 2) := by decide +kernel
theorem dc_Ar_fillJ_12 : decode c_C_Ar_fillJ 12 = .ok (.iload_n 2, 1) := by decide +kernel
theorem dc_Ar_fillJ_13 : decode c_C_Ar_fillJ 13 = .ok (.if_icmp .ge 14, 3) := by decide +kernel
theorem dc_Ar_fillJ_16 : decode c_C_Ar_fillJ 16 = .ok (.aload_n 0, 1) := by decide +kernel
theorem dc_Ar_fillJ_17 : decode c_C_Ar_fillJ 17 = .ok (.iload 5, 2) := by decide +kernel
theorem dc_Ar_fillJ_19 : decode c_C_Ar_fillJ 19 = .ok (.lload_n 3, 1) := by decide +kernel
theorem dc_Ar_fillJ_20 : decode c_C_Ar_fillJ 20 = .ok (.lastore, 1) := by decide +kernel
theorem dc_Ar_fillJ_21 : decode c_C_Ar_fillJ 21 = .ok (.iinc 5 1, 3) := by decide +kernel
theorem dc_Ar_fillJ_24 : decode c_C_Ar_fillJ 24 = .ok (.goto (-14), 3) := by decide +kernel
theorem dc_Ar_fillJ_27 : decode c_C_Ar_fillJ 27 = .ok (.return_, 1) := by decide +kernel
