theorem dc_Sc_blocksTogether_0 : decode c_C_Sc_blocksTogether 0 = .ok (.iconst 0, 1) := by decide +kernel
theorem dc_Sc_blocksTogether_1 : decode c_C_Sc_blocksTogether 1 = .ok (.istore_n 2, 1) := by decide +kernel
theorem dc_Sc_blocksTogether_2 : decode c_C_Sc_blocksTogether 2 = .ok (.iconst 0, 1) := by decide +kernel
theorem dc_Sc_blocksTogether_3 : decode c_C_Sc_blocksTogether 3 = .ok (.istore_n 3, 1) := by decide +kernel
theorem dc_Sc_blocksTogether_4 : decode c_C_Sc_blocksTogether 4 = .ok (.iload_n 3, 1) := by decide +kernel
theorem dc_Sc_blocksTogether_5 : decode c_C_Sc_blocksTogether 5 = .ok (.aload_n 0, 1) := by decide +kernel
theorem dc_Sc_blocksTogether_6 : decode c_C_Sc_blocksTogether 6 = .ok (.getfield 24, 3) := by decide +kernel
theorem dc_Sc_blocksTogether_9 : decode c_C_Sc_blocksTogether 9 = .ok (.if_icmp .ge 35, 3) := by decide +kernel
theorem dc_Sc_blocksTogether_12 : decode c_C_Sc_blocksTogether 12 = .ok (.iload_n 2, 1) := by decide +kernel
theorem dc_Sc_blocksTogether_13 : decode c_C_Sc_blocksTogether 13 = .ok (.aload_n 1, 1) := by decide +kernel
theorem dc_Sc_blocksTogether_14 : decode c_C_Sc_blocksTogether 14 = .ok (.getfield 28, 3) := by decide +kernel
theorem dc_Sc_blocksTogether_17 : decode c_C_Sc_blocksTogether 17 = .ok (.aload_n 0, 1) := by decide +kernel
theorem dc_Sc_blocksTogether_18 : decode c_C_Sc_blocksTogether 18 = .ok (.getfield 9, 3) := by decide +kernel
theorem dc_Sc_blocksTogether_21 : decode c_C_Sc_blocksTogether 21 = .ok (.iload_n 3, 1) := by decide +kernel
theorem dc_Sc_blocksTogether_22 : decode c_C_Sc_blocksTogether 22 = .ok (.iaload, 1) := by decide +kernel
theorem dc_Sc_blocksTogether_23 : decode c_C_Sc_blocksTogether 23 = .ok (.iaload, 1) := by decide +kernel
theorem dc_Sc_blocksTogether_24 : decode c_C_Sc_blocksTogether 24 = .ok (.aload_n 1, 1) := by decide +kernel
theorem dc_Sc_blocksTogether_25 : decode c_C_Sc_blocksTogether 25 = .ok (.getfield 33, 3) := by decide +kernel
theorem dc_Sc_blocksTogether_28 : decode c_C_Sc_blocksTogether 28 = .ok (.aload_n 0, 1) := by decide +kernel
theorem dc_Sc_blocksTogether_29 : decode c_C_Sc_blocksTogether 29 = .ok (.getfield 9, 3) := by decide +kernel
theorem dc_Sc_blocksTogether_32 : decode c_C_Sc_blocksTogether 32 = .ok (.iload_n 3, 1) := by decide +kernel
theorem dc_Sc_blocksTogether_33 : decode c_C_Sc_blocksTogether 33 = .ok (.iaload, 1) := by decide +kernel
theorem dc_Sc_blocksTogether_34 : decode c_C_Sc_blocksTogether 34 = .ok (.iaload, 1) := by decide +kernel
theorem dc_Sc_blocksTogether_35 : decode c_C_Sc_blocksTogether 35 = .ok (.imul, 1) := by decide +kernel
theorem dc_Sc_blocksTogether_36 : decode c_C_Sc_blocksTogether 36 = .ok (.iadd, 1) := by decide +kernel
theorem dc_Sc_blocksTogether_37 : decode c_C_Sc_blocksTogether 37 = .ok (.istore_n 2, 1) := by decide +kernel
theorem dc_Sc_blocksTogether_38 : decode c_C_Sc_blocksTogether 38 = .ok (.iinc 3 1, 3) := by decide +kernel
theorem dc_Sc_blocksTogether_41 : decode c_C_Sc_blocksTogether 41 = .ok (.goto (-37), 3) := by decide +kernel
theorem dc_Sc_blocksTogether_44 : decode c_C_Sc_blocksTogether 44 = .ok (.iload_n 2, 1) := by decide +kernel
theorem dc_Sc_blocksTogether_45 : decode c_C_Sc_blocksTogether 45 = .ok (.ireturn, 1) := by decide +kernel
theorem dc_Sc_addStretch_0 : decode c_C_Sc_addStretch 0 = .ok (.iload_n 3, 1) := by decide +kernel
theorem dc_Sc_addStretch_1 : decode c_C_Sc_addStretch 1 = .ok (.aload_n 1, 1) := by decide +kernel
theorem dc_Sc_addStretch_2 : decode c_C_Sc_addStretch 2 = .ok (.getfield 28, 3) := by decide +kernel
theorem dc_Sc_addStretch_5 : decode c_C_Sc_addStretch 5 = .ok (.iload_n 2, 1) := by decide +kernel
theorem dc_Sc_addStretch_6 : decode c_C_Sc_addStretch 6 = .ok (.iaload, 1) := by decide +kernel
theorem dc_Sc_addStretch_7 : decode c_C_Sc_addStretch 7 = .ok (.imul, 1) := by decide +kernel
theorem dc_Sc_addStretch_8 : decode c_C_Sc_addStretch 8 = .ok (.istore 5, 2) := by decide +kernel
theorem dc_Sc_addStretch_10 : decode c_C_Sc_addStretch 10 = .ok (.iload 4, 2) := by decide +kernel
theorem dc_Sc_addStretch_12 : decode c_C_Sc_addStretch 12 = .ok (.aload_n 1, 1) := by decide +kernel
theorem dc_Sc_addStretch_13 : decode c_C_Sc_addStretch 13 = .ok (.getfield 33, 3) := by decide +kernel
theorem dc_Sc_addStretch_16 : decode c_C_Sc_addStretch 16 = .ok (.iload_n 2, 1) := by decide +kernel
theorem dc_Sc_addStretch_17 : decode c_C_Sc_addStretch 17 = .ok (.iaload, 1) := by decide +kernel
theorem dc_Sc_addStretch_18 : decode c_C_Sc_addStretch 18 = .ok (.imul, 1) := by decide +kernel
theorem dc_Sc_addStretch_19 : decode c_C_Sc_addStretch 19 = .ok (.istore 6, 2) := by decide +kernel
theorem dc_Sc_addStretch_21 : decode c_C_Sc_addStretch 21 = .ok (.iconst 0, 1) := by decide +kernel
theorem dc_Sc_addStretch_22 : decode c_C_Sc_addStretch 22 = .ok (.istore 7, 2) := by decide +kernel
theorem dc_Sc_addStretch_24 : decode c_C_Sc_addStretch 24 = .ok (.iload 7, 2) := by decide +kernel
theorem dc_Sc_addStretch_26 : decode c_C_Sc_addStretch 26 = .ok (.aload_n 1, 1) := by decide +kernel
theorem dc_Sc_addStretch_27 : decode c_C_Sc_addStretch 27 = .ok (.getfield 33, 3) := by decide +kernel
theorem dc_Sc_addStretch_30 : decode c_C_Sc_addStretch 30 = .ok (.iload_n 2, 1) := by decide +kernel
theorem dc_Sc_addStretch_31 : decode c_C_Sc_addStretch 31 = .ok (.iaload, 1) := by decide +kernel
theorem dc_Sc_addStretch_32 : decode c_C_Sc_addStretch 32 = .ok (.if_icmp .ge 52, 3) := by decide +kernel
theorem dc_Sc_addStretch_35 : decode c_C_Sc_addStretch 35 = .ok (.iconst 0, 1) := by decide +kernel
theorem dc_Sc_addStretch_36 : decode c_C_Sc_addStretch 36 = .ok (.istore 8, 2) := by decide +kernel
theorem dc_Sc_addStretch_38 : decode c_C_Sc_addStretch 38 = .ok (.iload 8, 2) := by decide +kernel
theorem dc_Sc_addStretch_40 : decode c_C_Sc_addStretch 40 = .ok (.aload_n 1, 1) := by decide +kernel
theorem dc_Sc_addStretch_41 : decode c_C_Sc_addStretch 41 = .ok (.getfield 28, 3) := by decide +kernel
theorem dc_Sc_addStretch_44 : decode c_C_Sc_addStretch 44 = .ok (.iload_n 2, 1) := by decide +kernel
theorem dc_Sc_addStretch_45 : decode c_C_Sc_addStretch 45 = .ok (.iaload, 1) := by decide +kernel
theorem dc_Sc_addStretch_46 : decode c_C_Sc_addStretch 46 = .ok (.if_icmp .ge 32, 3) := by decide +kernel
theorem dc_Sc_addStretch_49 : decode c_C_Sc_addStretch 49 = .ok (.aload_n 0, 1) := by decide +kernel
theorem dc_Sc_addStretch_50 : decode c_C_Sc_addStretch 50 = .ok (.iload_n 2, 1) := by decide +kernel
theorem dc_Sc_addStretch_51 : decode c_C_Sc_addStretch 51 = .ok (.iload 6, 2) := by decide +kernel
theorem dc_Sc_addStretch_53 : decode c_C_Sc_addStretch 53 = .ok (.iload 7, 2) := by decide +kernel
theorem dc_Sc_addStretch_55 : decode c_C_Sc_addStretch 55 = .ok (.iadd, 1) := by decide +kernel
theorem dc_Sc_addStretch_56 : decode c_C_Sc_addStretch 56 = .ok (.aload_n 1, 1) := by decide +kernel
theorem dc_Sc_addStretch_57 : decode c_C_Sc_addStretch 57 = .ok (.getfield 63, 3) := by decide +kernel
theorem dc_Sc_addStretch_60 : decode c_C_Sc_addStretch 60 = .ok (.iload_n 2, 1) := by decide +kernel
theorem dc_Sc_addStretch_61 : decode c_C_Sc_addStretch 61 = .ok (.iaload, 1) := by decide +kernel
theorem dc_Sc_addStretch_62 : decode c_C_Sc_addStretch 62 = .ok (.imul, 1) := by decide +kernel
theorem dc_Sc_addStretch_63 : decode c_C_Sc_addStretch 63 = .ok (.iload 5, 2) := by decide +kernel
theorem dc_Sc_addStretch_65 : decode c_C_Sc_addStretch 65 = .ok (.iadd, 1) := by decide +kernel
theorem dc_Sc_addStretch_66 : decode c_C_Sc_addStretch 66 = .ok (.iload 8, 2) := by decide +kernel
theorem dc_Sc_addStretch_68 : decode c_C_Sc_addStretch 68 = .ok (.iadd, 1) := by decide +kernel
theorem dc_Sc_addStretch_69 : decode c_C_Sc_addStretch 69 = .ok (.invokevirtual 66, 3) := by decide +kernel
theorem dc_Sc_addStretch_72 : decode c_C_Sc_addStretch 72 = .ok (.iinc 8 1, 3) := by decide +kernel
theorem dc_Sc_addStretch_75 : decode c_C_Sc_addStretch 75 = .ok (.goto (-37), 3) := by decide +kernel
theorem dc_Sc_addStretch_78 : decode c_C_Sc_addStretch 78 = .ok (.iinc 7 1, 3) := by decide +kernel
theorem dc_Sc_addStretch_81 : decode c_C_Sc_addStretch 81 = .ok (.goto (-57), 3) := by decide +kernel
theorem dc_Sc_addStretch_84 : decode c_C_Sc_addStretch 84 = .ok (.return_, 1) := by decide +kernel
theorem dc_Sc_arrangeTogether_0 : decode c_C_Sc_arrangeTogether 0 = .ok (.iconst 0, 1) := by decide +kernel
theorem dc_Sc_arrangeTogether_1 : decode c_C_Sc_arrangeTogether 1 = .ok (.istore_n 2, 1) := by decide +kernel
theorem dc_Sc_arrangeTogether_2 : decode c_C_Sc_arrangeTogether 2 = .ok (.iload_n 2, 1) := by decide +kernel
theorem dc_Sc_arrangeTogether_3 : decode c_C_Sc_arrangeTogether 3 = .ok (.aload_n 1, 1) := by decide +kernel
theorem dc_Sc_arrangeTogether_4 : decode c_C_Sc_arrangeTogether 4 = .ok (.getfield 70, 3) := by decide +kernel
theorem dc_Sc_arrangeTogether_7 : decode c_C_Sc_arrangeTogether 7 = .ok (.if_icmp .ge 57, 3) := by decide +kernel
theorem dc_Sc_arrangeTogether_10 : decode c_C_Sc_arrangeTogether 10 = .ok (.iconst 0, 1) := by decide +kernel
theorem dc_Sc_arrangeTogether_11 : decode c_C_Sc_arrangeTogether 11 = .ok (.istore_n 3, 1) := by decide +kernel
theorem dc_Sc_arrangeTogether_12 : decode c_C_Sc_arrangeTogether 12 = .ok (.iload_n 3, 1) := by decide +kernel
theorem dc_Sc_arrangeTogether_13 : decode c_C_Sc_arrangeTogether 13 = .ok (.aload_n 1, 1) := by decide +kernel
theorem dc_Sc_arrangeTogether_14 : decode c_C_Sc_arrangeTogether 14 = .ok (.getfield 73, 3) := by decide +kernel
theorem dc_Sc_arrangeTogether_17 : decode c_C_Sc_arrangeTogether 17 = .ok (.if_icmp .ge 41, 3) := by decide +kernel
theorem dc_Sc_arrangeTogether_20 : decode c_C_Sc_arrangeTogether 20 = .ok (.iconst 0, 1) := by decide +kernel
theorem dc_Sc_arrangeTogether_21 : decode c_C_Sc_arrangeTogether 21 = .ok (.istore 4, 2) := by decide +kernel
theorem dc_Sc_arrangeTogether_23 : decode c_C_Sc_arrangeTogether 23 = .ok (.iload 4, 2) := by decide +kernel
theorem dc_Sc_arrangeTogether_25 : decode c_C_Sc_arrangeTogether 25 = .ok (.aload_n 0, 1) := by decide +kernel
theorem dc_Sc_arrangeTogether_26 : decode c_C_Sc_arrangeTogether 26 = .ok (.getfield 24, 3) := by decide +kernel
theorem dc_Sc_arrangeTogether_29 : decode c_C_Sc_arrangeTogether 29 = .ok (.if_icmp .ge 23, 3) := by decide +kernel
theorem dc_Sc_arrangeTogether_32 : decode c_C_Sc_arrangeTogether 32 = .ok (.aload_n 0, 1) := by decide +kernel
theorem dc_Sc_arrangeTogether_33 : decode c_C_Sc_arrangeTogether 33 = .ok (.aload_n 1, 1) := by decide +kernel
theorem dc_Sc_arrangeTogether_34 : decode c_C_Sc_arrangeTogether 34 = .ok (.aload_n 0, 1) := by decide +kernel
theorem dc_Sc_arrangeTogether_35 : decode c_C_Sc_arrangeTogether 35 = .ok (.getfield 9, 3) := by decide +kernel
theorem dc_Sc_arrangeTogether_38 : decode c_C_Sc_arrangeTogether 38 = .ok (.iload 4, 2) := by decide +kernel
theorem dc_Sc_arrangeTogether_40 : decode c_C_Sc_arrangeTogether 40 = .ok (.iaload, 1) := by decide +kernel
theorem dc_Sc_arrangeTogether_41 : decode c_C_Sc_arrangeTogether 41 = .ok (.iload_n 3, 1) := by decide +kernel
theorem dc_Sc_arrangeTogether_42 : decode c_C_Sc_arrangeTogether 42 = .ok (.iload_n 2, 1) := by decide +kernel
theorem dc_Sc_arrangeTogether_43 : decode c_C_Sc_arrangeTogether 43 = .ok (.invokevirtual 76, 3) := by decide +kernel
theorem dc_Sc_arrangeTogether_46 : decode c_C_Sc_arrangeTogether 46 = .ok (.iinc 4 1, 3) := by decide +kernel
theorem dc_Sc_arrangeTogether_49 : decode c_C_Sc_arrangeTogether 49 = .ok (.goto (-26), 3) := by decide +kernel
theorem dc_Sc_arrangeTogether_52 : decode c_C_Sc_arrangeTogether 52 = .ok (.iinc 3 1, 3) := by decide +kernel
theorem dc_Sc_arrangeTogether_55 : decode c_C_Sc_arrangeTogether 55 = .ok (.goto (-43), 3) := by decide +kernel
theorem dc_Sc_arrangeTogether_58 : decode c_C_Sc_arrangeTogether 58 = .ok (.iinc 2 1, 3) := by decide +kernel
theorem dc_Sc_arrangeTogether_61 : decode c_C_Sc_arrangeTogether 61 = .ok (.goto (-59), 3) := by decide +kernel
theorem dc_Sc_arrangeTogether_64 : decode c_C_Sc_arrangeTogether 64 = .ok (.return_, 1) := by decide +kernel
theorem dc_Sc_arrange_0 : decode c_C_Sc_arrange 0 = .ok (.aload_n 0, 1) := by decide +kernel
theorem dc_Sc_arrange_1 : decode c_C_Sc_arrange 1 = .ok (.iconst 0, 1) := by decide +kernel
theorem dc_Sc_arrange_2 : decode c_C_Sc_arrange 2 = .ok (.putfield 36, 3) := by decide +kernel
theorem dc_Sc_arrange_5 : decode c_C_Sc_arrange 5 = .ok (.aload_n 0, 1) := by decide +kernel
theorem dc_Sc_arrange_6 : decode c_C_Sc_arrange 6 = .ok (.getfield 24, 3) := by decide +kernel
theorem dc_Sc_arrange_9 : decode c_C_Sc_arrange 9 = .ok (.iconst 1, 1) := by decide +kernel
theorem dc_Sc_arrange_10 : decode c_C_Sc_arrange 10 = .ok (.if_icmp .ne 22, 3) := by decide +kernel
theorem dc_Sc_arrange_13 : decode c_C_Sc_arrange 13 = .ok (.aload_n 0, 1) := by decide +kernel
theorem dc_Sc_arrange_14 : decode c_C_Sc_arrange 14 = .ok (.iconst 1, 1) := by decide +kernel
theorem dc_Sc_arrange_15 : decode c_C_Sc_arrange 15 = .ok (.putfield 39, 3) := by decide +kernel
theorem dc_Sc_arrange_18 : decode c_C_Sc_arrange 18 = .ok (.aload_n 0, 1) := by decide +kernel
theorem dc_Sc_arrange_19 : decode c_C_Sc_arrange 19 = .ok (.aload_n 1, 1) := by decide +kernel
theorem dc_Sc_arrange_20 : decode c_C_Sc_arrange 20 = .ok (.aload_n 0, 1) := by decide +kernel
theorem dc_Sc_arrange_21 : decode c_C_Sc_arrange 21 = .ok (.getfield 9, 3) := by decide +kernel
theorem dc_Sc_arrange_24 : decode c_C_Sc_arrange 24 = .ok (.iconst 0, 1) := by decide +kernel
theorem dc_Sc_arrange_25 : decode c_C_Sc_arrange 25 = .ok (.iaload, 1) := by decide +kernel
theorem dc_Sc_arrange_26 : decode c_C_Sc_arrange 26 = .ok (.invokevirtual 42, 3) := by decide +kernel
theorem dc_Sc_arrange_29 : decode c_C_Sc_arrange 29 = .ok (.goto 17, 3) := by decide +kernel
theorem dc_Sc_arrange_32 : decode c_C_Sc_arrange 32 = .ok (.aload_n 0, 1) := by decide +kernel
theorem dc_Sc_arrange_33 : decode c_C_Sc_arrange 33 = .ok (.aload_n 0, 1) := by decide +kernel
theorem dc_Sc_arrange_34 : decode c_C_Sc_arrange 34 = .ok (.aload_n 1, 1) := by decide +kernel
theorem dc_Sc_arrange_35 : decode c_C_Sc_arrange 35 = .ok (.invokevirtual 46, 3) := by decide +kernel
theorem dc_Sc_arrange_38 : decode c_C_Sc_arrange 38 = .ok (.putfield 39, 3) := by decide +kernel
theorem dc_Sc_arrange_41 : decode c_C_Sc_arrange 41 = .ok (.aload_n 0, 1) := by decide +kernel
theorem dc_Sc_arrange_42 : decode c_C_Sc_arrange 42 = .ok (.aload_n 1, 1) := by decide +kernel
theorem dc_Sc_arrange_43 : decode c_C_Sc_arrange 43 = .ok (.invokevirtual 50, 3) := by decide +kernel
theorem dc_Sc_arrange_46 : decode c_C_Sc_arrange 46 = .ok (.aload_n 0, 1) := by decide +kernel
theorem dc_Sc_arrange_47 : decode c_C_Sc_arrange 47 = .ok (.aload_n 0, 1) := by decide +kernel
theorem dc_Sc_arrange_48 : decode c_C_Sc_arrange 48 = .ok (.getfield 39, 3) := by decide +kernel
theorem dc_Sc_arrange_51 : decode c_C_Sc_arrange 51 = .ok (.iconst 1, 1) := by decide +kernel
theorem dc_Sc_arrange_52 : decode c_C_Sc_arrange 52 = .ok (.if_icmp .ge 7, 3) := by decide +kernel
theorem dc_Sc_arrange_55 : decode c_C_Sc_arrange 55 = .ok (.iconst 0, 1) := by decide +kernel
theorem dc_Sc_arrange_56 : decode c_C_Sc_arrange 56 = .ok (.goto 12, 3) := by decide +kernel
theorem dc_Sc_arrange_59 : decode c_C_Sc_arrange 59 = .ok (.aload_n 0, 1) := by decide +kernel
theorem dc_Sc_arrange_60 : decode c_C_Sc_arrange 60 = .ok (.getfield 36, 3) := by decide +kernel
theorem dc_Sc_arrange_63 : decode c_C_Sc_arrange 63 = .ok (.aload_n 0, 1) := by decide +kernel
theorem dc_Sc_arrange_64 : decode c_C_Sc_arrange 64 = .ok (.getfield 39, 3) := by decide +kernel
theorem dc_Sc_arrange_67 : decode c_C_Sc_arrange 67 = .ok (.idiv, 1) := by decide +kernel
theorem dc_Sc_arrange_68 : decode c_C_Sc_arrange 68 = .ok (.putfield 54, 3) := by decide +kernel
theorem dc_Sc_arrange_71 : decode c_C_Sc_arrange 71 = .ok (.return_, 1) := by decide +kernel
theorem dc_Ca_kind_0 : decode c_C_Ca_kind 0 = .ok (.aload_n 0, 1) := by decide +kernel
theorem dc_Ca_kind_1 : decode c_C_Ca_kind 1 = .ok (.getfield 21, 3) := by decide +kernel
theorem dc_Ca_kind_4 : decode c_C_Ca_kind 4 = .ok (.iconst 0, 1) := by decide +kernel
theorem dc_Ca_kind_5 : decode c_C_Ca_kind 5 = .ok (.iload_n 2, 1) := by decide +kernel
theorem dc_Ca_kind_6 : decode c_C_Ca_kind 6 = .ok (.iload_n 3, 1) := by decide +kernel
theorem dc_Ca_kind_7 : decode c_C_Ca_kind 7 = .ok (.invokestatic 31, 3) := by decide +kernel
theorem dc_Ca_kind_10 : decode c_C_Ca_kind 10 = .ok (.iaload, 1) := by decide +kernel
theorem dc_Ca_kind_11 : decode c_C_Ca_kind 11 = .ok (.istore 4, 2) := by decide +kernel
theorem dc_Ca_kind_13 : decode c_C_Ca_kind 13 = .ok (.aload_n 0, 1) := by decide +kernel
theorem dc_Ca_kind_14 : decode c_C_Ca_kind 14 = .ok (.getfield 18, 3) := by decide +kernel
theorem dc_Ca_kind_17 : decode c_C_Ca_kind 17 = .ok (.iconst 1, 1) := by decide +kernel
theorem dc_Ca_kind_18 : decode c_C_Ca_kind 18 = .ok (.if_icmp .ne 6, 3) := by decide +kernel
theorem dc_Ca_kind_21 : decode c_C_Ca_kind 21 = .ok (.iload 4, 2) := by decide +kernel
theorem dc_Ca_kind_23 : decode c_C_Ca_kind 23 = .ok (.ireturn, 1) := by decide +kernel
theorem dc_Ca_kind_24 : decode c_C_Ca_kind 24 = .ok (.aload_n 0, 1) := by decide +kernel
theorem dc_Ca_kind_25 : decode c_C_Ca_kind 25 = .ok (.getfield 21, 3) := by decide +kernel
theorem dc_Ca_kind_28 : decode c_C_Ca_kind 28 = .ok (.iconst 1, 1) := by decide +kernel
theorem dc_Ca_kind_29 : decode c_C_Ca_kind 29 = .ok (.iload_n 2, 1) := by decide +kernel
theorem dc_Ca_kind_30 : decode c_C_Ca_kind 30 = .ok (.iload_n 3, 1) := by decide +kernel
theorem dc_Ca_kind_31 : decode c_C_Ca_kind 31 = .ok (.invokestatic 31, 3) := by decide +kernel
theorem dc_Ca_kind_34 : decode c_C_Ca_kind 34 = .ok (.iaload, 1) := by decide +kernel
theorem dc_Ca_kind_35 : decode c_C_Ca_kind 35 = .ok (.istore 5, 2) := by decide +kernel
theorem dc_Ca_kind_37 : decode c_C_Ca_kind 37 = .ok (.aload_n 0, 1) := by decide +kernel
theorem dc_Ca_kind_38 : decode c_C_Ca_kind 38 = .ok (.getfield 21, 3) := by decide +kernel
theorem dc_Ca_kind_41 : decode c_C_Ca_kind 41 = .ok (.iconst 2, 1) := by decide +kernel
theorem dc_Ca_kind_42 : decode c_C_Ca_kind 42 = .ok (.iload_n 2, 1) := by decide +kernel
theorem dc_Ca_kind_43 : decode c_C_Ca_kind 43 = .ok (.iload_n 3, 1) := by decide +kernel
theorem dc_Ca_kind_44 : decode c_C_Ca_kind 44 = .ok (.invokestatic 31, 3) := by decide +kernel
theorem dc_Ca_kind_47 : decode c_C_Ca_kind 47 = .ok (.iaload, 1) := by decide +kernel
theorem dc_Ca_kind_48 : decode c_C_Ca_kind 48 = .ok (.istore 6, 2) := by decide +kernel
theorem dc_Ca_kind_50 : decode c_C_Ca_kind 50 = .ok (.iload_n 1, 1) := by decide +kernel
theorem dc_Ca_kind_51 : decode c_C_Ca_kind 51 = .ok (.ifCond .ne 29, 3) := by decide +kernel
theorem dc_Ca_kind_54 : decode c_C_Ca_kind 54 = .ok (.sipush 19595, 3) := by decide +kernel
theorem dc_Ca_kind_57 : decode c_C_Ca_kind 57 = .ok (.iload 4, 2) := by decide +kernel
theorem dc_Ca_kind_59 : decode c_C_Ca_kind 59 = .ok (.imul, 1) := by decide +kernel
theorem dc_Ca_kind_60 : decode c_C_Ca_kind 60 = .ok (.ldc 35, 2) := by decide +kernel
theorem dc_Ca_kind_62 : decode c_C_Ca_kind 62 = .ok (.iload 5, 2) := by decide +kernel
theorem dc_Ca_kind_64 : decode c_C_Ca_kind 64 = .ok (.imul, 1) := by decide +kernel
theorem dc_Ca_kind_65 : decode c_C_Ca_kind 65 = .ok (.iadd, 1) := by decide +kernel
theorem dc_Ca_kind_66 : decode c_C_Ca_kind 66 = .ok (.sipush 7471, 3) := by decide +kernel
theorem dc_Ca_kind_69 : decode c_C_Ca_kind 69 = .ok (.iload 6, 2) := by decide +kernel
theorem dc_Ca_kind_71 : decode c_C_Ca_kind 71 = .ok (.imul, 1) := by decide +kernel
theorem dc_Ca_kind_72 : decode c_C_Ca_kind 72 = .ok (.iadd, 1) := by decide +kernel
theorem dc_Ca_kind_73 : decode c_C_Ca_kind 73 = .ok (.ldc 36, 2) := by decide +kernel
theorem dc_Ca_kind_75 : decode c_C_Ca_kind 75 = .ok (.iadd, 1) := by decide +kernel
theorem dc_Ca_kind_76 : decode c_C_Ca_kind 76 = .ok (.bipush 16, 2) := by decide +kernel
theorem dc_Ca_kind_78 : decode c_C_Ca_kind 78 = .ok (.ishr, 1) := by decide +kernel
theorem dc_Ca_kind_79 : decode c_C_Ca_kind 79 = .ok (.ireturn, 1) := by decide +kernel
theorem dc_Ca_kind_80 : decode c_C_Ca_kind 80 = .ok (.iload_n 1, 1) := by decide +kernel
theorem dc_Ca_kind_81 : decode c_C_Ca_kind 81 = .ok (.iconst 1, 1) := by decide +kernel
theorem dc_Ca_kind_82 : decode c_C_Ca_kind 82 = .ok (.if_icmp .ne 25, 3) := by decide +kernel
theorem dc_Ca_kind_85 : decode c_C_Ca_kind 85 = .ok (.sipush (-11059), 3) := by decide +kernel
theorem dc_Ca_kind_88 : decode c_C_Ca_kind 88 = .ok (.iload 4, 2) := by decide +kernel
theorem dc_Ca_kind_90 : decode c_C_Ca_kind 90 = .ok (.imul, 1) := by decide +kernel
theorem dc_Ca_kind_91 : decode c_C_Ca_kind 91 = .ok (.sipush 21709, 3) := by decide +kernel
theorem dc_Ca_kind_94 : decode c_C_Ca_kind 94 = .ok (.iload 5, 2) := by decide +kernel
theorem dc_Ca_kind_96 : decode c_C_Ca_kind 96 = .ok (.imul, 1) := by decide +kernel
theorem dc_Ca_kind_97 : decode c_C_Ca_kind 97 = .ok (.isub, 1) := by decide +kernel
theorem dc_Ca_kind_98 : decode c_C_Ca_kind 98 = .ok (.ldc 36, 2) := by decide +kernel
theorem dc_Ca_kind_100 : decode c_C_Ca_kind 100 = .ok (.iload 6, 2) := by decide +kernel
theorem dc_Ca_kind_102 : decode c_C_Ca_kind 102 = .ok (.imul, 1) := by decide +kernel
theorem dc_Ca_kind_103 : decode c_C_Ca_kind 103 = .ok (.iadd, 1) := by decide +kernel
theorem dc_Ca_kind_104 : decode c_C_Ca_kind 104 = .ok (.goto 22, 3) := by decide +kernel
theorem dc_Ca_kind_107 : decode c_C_Ca_kind 107 = .ok (.ldc 36, 2) := by decide +kernel
theorem dc_Ca_kind_109 : decode c_C_Ca_kind 109 = .ok (.iload 4, 2) := by decide +kernel
theorem dc_Ca_kind_111 : decode c_C_Ca_kind 111 = .ok (.imul, 1) := by decide +kernel
theorem dc_Ca_kind_112 : decode c_C_Ca_kind 112 = .ok (.sipush 27439, 3) := by decide +kernel
theorem dc_Ca_kind_115 : decode c_C_Ca_kind 115 = .ok (.iload 5, 2) := by decide +kernel
theorem dc_Ca_kind_117 : decode c_C_Ca_kind 117 = .ok (.imul, 1) := by decide +kernel
theorem dc_Ca_kind_118 : decode c_C_Ca_kind 118 = .ok (.isub, 1) := by decide +kernel
theorem dc_Ca_kind_119 : decode c_C_Ca_kind 119 = .ok (.sipush 5329, 3) := by decide +kernel
theorem dc_Ca_kind_122 : decode c_C_Ca_kind 122 = .ok (.iload 6, 2) := by decide +kernel
theorem dc_Ca_kind_124 : decode c_C_Ca_kind 124 = .ok (.imul, 1) := by decide +kernel
theorem dc_Ca_kind_125 : decode c_C_Ca_kind 125 = .ok (.isub, 1) := by decide +kernel
theorem dc_Ca_kind_126 : decode c_C_Ca_kind 126 = .ok (.istore 7, 2) := by decide +kernel
theorem dc_Ca_kind_128 : decode c_C_Ca_kind 128 = .ok (.sipush 255, 3) := by decide +kernel
theorem dc_Ca_kind_131 : decode c_C_Ca_kind 131 = .ok (.sipush 128, 3) := by decide +kernel
theorem dc_Ca_kind_134 : decode c_C_Ca_kind 134 = .ok (.iload 7, 2) := by decide +kernel
theorem dc_Ca_kind_136 : decode c_C_Ca_kind 136 = .ok (.ldc 36, 2) := by decide +kernel
theorem dc_Ca_kind_138 : decode c_C_Ca_kind 138 = .ok (.iadd, 1) := by decide +kernel
theorem dc_Ca_kind_139 : decode c_C_Ca_kind 139 = .ok (.bipush 16, 2) := by decide +kernel
theorem dc_Ca_kind_141 : decode c_C_Ca_kind 141 = .ok (.ishr, 1) := by decide +kernel
theorem dc_Ca_kind_142 : decode c_C_Ca_kind 142 = .ok (.iadd, 1) := by decide +kernel
theorem dc_Ca_kind_143 : decode c_C_Ca_kind 143 = .ok (.invokestatic 37, 3) := by decide +kernel
theorem dc_Ca_kind_146 : decode c_C_Ca_kind 146 = .ok (.ireturn, 1) := by decide +kernel
theorem dc_Pa_makeLayer_0 : decode c_C_Pa_makeLayer 0 = .ok (.aload_n 0, 1) := by decide +kernel
theorem dc_Pa_makeLayer_1 : decode c_C_Pa_makeLayer 1 = .ok (.getfield 31, 3) := by decide +kernel
theorem dc_Pa_makeLayer_4 : decode c_C_Pa_makeLayer 4 = .ok (.getfield 121, 3) := by decide +kernel
theorem dc_Pa_makeLayer_7 : decode c_C_Pa_makeLayer 7 = .ok (.iload_n 2, 1) := by decide +kernel
theorem dc_Pa_makeLayer_8 : decode c_C_Pa_makeLayer 8 = .ok (.iaload, 1) := by decide +kernel
theorem dc_Pa_makeLayer_9 : decode c_C_Pa_makeLayer 9 = .ok (.aload_n 0, 1) := by decide +kernel
theorem dc_Pa_makeLayer_10 : decode c_C_Pa_makeLayer 10 = .ok (.getfield 31, 3) := by decide +kernel
theorem dc_Pa_makeLayer_13 : decode c_C_Pa_makeLayer 13 = .ok (.getfield 124, 3) := by decide +kernel
theorem dc_Pa_makeLayer_16 : decode c_C_Pa_makeLayer 16 = .ok (.if_icmp .ge 7, 3) := by decide +kernel
theorem dc_Pa_makeLayer_19 : decode c_C_Pa_makeLayer 19 = .ok (.iconst 2, 1) := by decide +kernel
theorem dc_Pa_makeLayer_20 : decode c_C_Pa_makeLayer 20 = .ok (.goto 4, 3) := by decide +kernel
theorem dc_Pa_makeLayer_23 : decode c_C_Pa_makeLayer 23 = .ok (.iconst 1, 1) := by decide +kernel
theorem dc_Pa_makeLayer_24 : decode c_C_Pa_makeLayer 24 = .ok (.istore_n 3, 1) := by decide +kernel
theorem dc_Pa_makeLayer_25 : decode c_C_Pa_makeLayer 25 = .ok (.aload_n 0, 1) := by decide +kernel
theorem dc_Pa_makeLayer_26 : decode c_C_Pa_makeLayer 26 = .ok (.getfield 31, 3) := by decide +kernel
theorem dc_Pa_makeLayer_29 : decode c_C_Pa_makeLayer 29 = .ok (.getfield 127, 3) := by decide +kernel
theorem dc_Pa_makeLayer_32 : decode c_C_Pa_makeLayer 32 = .ok (.iload_n 2, 1) := by decide +kernel
theorem dc_Pa_makeLayer_33 : decode c_C_Pa_makeLayer 33 = .ok (.iaload, 1) := by decide +kernel
theorem dc_Pa_makeLayer_34 : decode c_C_Pa_makeLayer 34 = .ok (.aload_n 0, 1) := by decide +kernel
theorem dc_Pa_makeLayer_35 : decode c_C_Pa_makeLayer 35 = .ok (.getfield 31, 3) := by decide +kernel
theorem dc_Pa_makeLayer_38 : decode c_C_Pa_makeLayer 38 = .ok (.getfield 130, 3) := by decide +kernel
theorem dc_Pa_makeLayer_41 : decode c_C_Pa_makeLayer 41 = .ok (.if_icmp .ge 7, 3) := by decide +kernel
theorem dc_Pa_makeLayer_44 : decode c_C_Pa_makeLayer 44 = .ok (.iconst 2, 1) := by decide +kernel
theorem dc_Pa_makeLayer_45 : decode c_C_Pa_makeLayer 45 = .ok (.goto 4, 3) := by decide +kernel
theorem dc_Pa_makeLayer_48 : decode c_C_Pa_makeLayer 48 = .ok (.iconst 1, 1) := by decide +kernel
theorem dc_Pa_makeLayer_49 : decode c_C_Pa_makeLayer 49 = .ok (.istore 4, 2) := by decide +kernel
theorem dc_Pa_makeLayer_51 : decode c_C_Pa_makeLayer 51 = .ok (.iconst 0, 1) := by decide +kernel
theorem dc_Pa_makeLayer_52 : decode c_C_Pa_makeLayer 52 = .ok (.istore 5, 2) := by decide +kernel
theorem dc_Pa_makeLayer_54 : decode c_C_Pa_makeLayer 54 = .ok (.iload 5, 2) := by decide +kernel
theorem dc_Pa_makeLayer_56 : decode c_C_Pa_makeLayer 56 = .ok (.aload_n 0, 1) := by decide +kernel
theorem dc_Pa_makeLayer_57 : decode c_C_Pa_makeLayer 57 = .ok (.getfield 31, 3) := by decide +kernel
theorem dc_Pa_makeLayer_60 : decode c_C_Pa_makeLayer 60 = .ok (.getfield 133, 3) := by decide +kernel
theorem dc_Pa_makeLayer_63 : decode c_C_Pa_makeLayer 63 = .ok (.iload_n 2, 1) := by decide +kernel
theorem dc_Pa_makeLayer_64 : decode c_C_Pa_makeLayer 64 = .ok (.iaload, 1) := by decide +kernel
theorem dc_Pa_makeLayer_65 : decode c_C_Pa_makeLayer 65 = .ok (.if_icmp .ge 128, 3) := by decide +kernel
theorem dc_Pa_makeLayer_68 : decode c_C_Pa_makeLayer 68 = .ok (.iconst 0, 1) := by decide +kernel
theorem dc_Pa_makeLayer_69 : decode c_C_Pa_makeLayer 69 = .ok (.istore 6, 2) := by decide +kernel
theorem dc_Pa_makeLayer_71 : decode c_C_Pa_makeLayer 71 = .ok (.iload 6, 2) := by decide +kernel
theorem dc_Pa_makeLayer_73 : decode c_C_Pa_makeLayer 73 = .ok (.aload_n 0, 1) := by decide +kernel
theorem dc_Pa_makeLayer_74 : decode c_C_Pa_makeLayer 74 = .ok (.getfield 31, 3) := by decide +kernel
theorem dc_Pa_makeLayer_77 : decode c_C_Pa_makeLayer 77 = .ok (.getfield 136, 3) := by decide +kernel
theorem dc_Pa_makeLayer_80 : decode c_C_Pa_makeLayer 80 = .ok (.iload_n 2, 1) := by decide +kernel
theorem dc_Pa_makeLayer_81 : decode c_C_Pa_makeLayer 81 = .ok (.iaload, 1) := by decide +kernel
theorem dc_Pa_makeLayer_82 : decode c_C_Pa_makeLayer 82 = .ok (.if_icmp .ge 105, 3) := by decide +kernel
theorem dc_Pa_makeLayer_85 : decode c_C_Pa_makeLayer 85 = .ok (.iload_n 3, 1) := by decide +kernel
theorem dc_Pa_makeLayer_86 : decode c_C_Pa_makeLayer 86 = .ok (.iload 4, 2) := by decide +kernel
theorem dc_Pa_makeLayer_88 : decode c_C_Pa_makeLayer 88 = .ok (.imul, 1) := by decide +kernel
theorem dc_Pa_makeLayer_89 : decode c_C_Pa_makeLayer 89 = .ok (.iconst 2, 1) := by decide +kernel
theorem dc_Pa_makeLayer_90 : decode c_C_Pa_makeLayer 90 = .ok (.idiv, 1) := by decide +kernel
theorem dc_Pa_makeLayer_91 : decode c_C_Pa_makeLayer 91 = .ok (.istore 7, 2) := by decide +kernel
theorem dc_Pa_makeLayer_93 : decode c_C_Pa_makeLayer 93 = .ok (.iconst 0, 1) := by decide +kernel
theorem dc_Pa_makeLayer_94 : decode c_C_Pa_makeLayer 94 = .ok (.istore 8, 2) := by decide +kernel
theorem dc_Pa_makeLayer_96 : decode c_C_Pa_makeLayer 96 = .ok (.iload 8, 2) := by decide +kernel
theorem dc_Pa_makeLayer_98 : decode c_C_Pa_makeLayer 98 = .ok (.iload_n 3, 1) := by decide +kernel
theorem dc_Pa_makeLayer_99 : decode c_C_Pa_makeLayer 99 = .ok (.iload 4, 2) := by decide +kernel
theorem dc_Pa_makeLayer_101 : decode c_C_Pa_makeLayer 101 = .ok (.imul, 1) := by decide +kernel
theorem dc_Pa_makeLayer_102 : decode c_C_Pa_makeLayer 102 = .ok (.if_icmp .ge 56, 3) := by decide +kernel
theorem dc_Pa_makeLayer_105 : decode c_C_Pa_makeLayer 105 = .ok (.iload 7, 2) := by decide +kernel
theorem dc_Pa_makeLayer_107 : decode c_C_Pa_makeLayer 107 = .ok (.aload_n 1, 1) := by decide +kernel
theorem dc_Pa_makeLayer_108 : decode c_C_Pa_makeLayer 108 = .ok (.iload_n 2, 1) := by decide +kernel
theorem dc_Pa_makeLayer_109 : decode c_C_Pa_makeLayer 109 = .ok (.aload_n 1, 1) := by decide +kernel
theorem dc_Pa_makeLayer_110 : decode c_C_Pa_makeLayer 110 = .ok (.getfield 72, 3) := by decide +kernel
theorem dc_Pa_makeLayer_113 : decode c_C_Pa_makeLayer 113 = .ok (.iconst 1, 1) := by decide +kernel
theorem dc_Pa_makeLayer_114 : decode c_C_Pa_makeLayer 114 = .ok (.isub, 1) := by decide +kernel
theorem dc_Pa_makeLayer_115 : decode c_C_Pa_makeLayer 115 = .ok (.iload_n 3, 1) := by decide +kernel
theorem dc_Pa_makeLayer_116 : decode c_C_Pa_makeLayer 116 = .ok (.iload 6, 2) := by decide +kernel
theorem dc_Pa_makeLayer_118 : decode c_C_Pa_makeLayer 118 = .ok (.imul, 1) := by decide +kernel
theorem dc_Pa_makeLayer_119 : decode c_C_Pa_makeLayer 119 = .ok (.iload 8, 2) := by decide +kernel
theorem dc_Pa_makeLayer_121 : decode c_C_Pa_makeLayer 121 = .ok (.iload_n 3, 1) := by decide +kernel
theorem dc_Pa_makeLayer_122 : decode c_C_Pa_makeLayer 122 = .ok (.irem, 1) := by decide +kernel
theorem dc_Pa_makeLayer_123 : decode c_C_Pa_makeLayer 123 = .ok (.iadd, 1) := by decide +kernel
theorem dc_Pa_makeLayer_124 : decode c_C_Pa_makeLayer 124 = .ok (.invokestatic 139, 3) := by decide +kernel
theorem dc_Pa_makeLayer_127 : decode c_C_Pa_makeLayer 127 = .ok (.aload_n 1, 1) := by decide +kernel
theorem dc_Pa_makeLayer_128 : decode c_C_Pa_makeLayer 128 = .ok (.getfield 75, 3) := by decide +kernel
theorem dc_Pa_makeLayer_131 : decode c_C_Pa_makeLayer 131 = .ok (.iconst 1, 1) := by decide +kernel
theorem dc_Pa_makeLayer_132 : decode c_C_Pa_makeLayer 132 = .ok (.isub, 1) := by decide +kernel
theorem dc_Pa_makeLayer_133 : decode c_C_Pa_makeLayer 133 = .ok (.iload 4, 2) := by decide +kernel
theorem dc_Pa_makeLayer_135 : decode c_C_Pa_makeLayer 135 = .ok (.iload 5, 2) := by decide +kernel
theorem dc_Pa_makeLayer_137 : decode c_C_Pa_makeLayer 137 = .ok (.imul, 1) := by decide +kernel
theorem dc_Pa_makeLayer_138 : decode c_C_Pa_makeLayer 138 = .ok (.iload 8, 2) := by decide +kernel
theorem dc_Pa_makeLayer_140 : decode c_C_Pa_makeLayer 140 = .ok (.iload_n 3, 1) := by decide +kernel
theorem dc_Pa_makeLayer_141 : decode c_C_Pa_makeLayer 141 = .ok (.idiv, 1) := by decide +kernel
theorem dc_Pa_makeLayer_142 : decode c_C_Pa_makeLayer 142 = .ok (.iadd, 1) := by decide +kernel
theorem dc_Pa_makeLayer_143 : decode c_C_Pa_makeLayer 143 = .ok (.invokestatic 139, 3) := by decide +kernel
theorem dc_Pa_makeLayer_146 : decode c_C_Pa_makeLayer 146 = .ok (.invokevirtual 145, 3) := by decide +kernel
theorem dc_Pa_makeLayer_149 : decode c_C_Pa_makeLayer 149 = .ok (.iadd, 1) := by decide +kernel
theorem dc_Pa_makeLayer_150 : decode c_C_Pa_makeLayer 150 = .ok (.istore 7, 2) := by decide +kernel
theorem dc_Pa_makeLayer_152 : decode c_C_Pa_makeLayer 152 = .ok (.iinc 8 1, 3) := by decide +kernel
theorem dc_Pa_makeLayer_155 : decode c_C_Pa_makeLayer 155 = .ok (.goto (-59), 3) := by decide +kernel
theorem dc_Pa_makeLayer_158 : decode c_C_Pa_makeLayer 158 = .ok (.aload_n 0, 1) := by decide +kernel
theorem dc_Pa_makeLayer_159 : decode c_C_Pa_makeLayer 159 = .ok (.getfield 31, 3) := by decide +kernel
theorem dc_Pa_makeLayer_162 : decode c_C_Pa_makeLayer 162 = .ok (.getfield 149, 3) := by decide +kernel
theorem dc_Pa_makeLayer_165 : decode c_C_Pa_makeLayer 165 = .ok (.iload_n 2, 1) := by decide +kernel
theorem dc_Pa_makeLayer_166 : decode c_C_Pa_makeLayer 166 = .ok (.iload 6, 2) := by decide +kernel
theorem dc_Pa_makeLayer_168 : decode c_C_Pa_makeLayer 168 = .ok (.iload 5, 2) := by decide +kernel
theorem dc_Pa_makeLayer_170 : decode c_C_Pa_makeLayer 170 = .ok (.invokestatic 152, 3) := by decide +kernel
theorem dc_Pa_makeLayer_173 : decode c_C_Pa_makeLayer 173 = .ok (.iload 7, 2) := by decide +kernel
theorem dc_Pa_makeLayer_175 : decode c_C_Pa_makeLayer 175 = .ok (.iload_n 3, 1) := by decide +kernel
theorem dc_Pa_makeLayer_176 : decode c_C_Pa_makeLayer 176 = .ok (.iload 4, 2) := by decide +kernel
theorem dc_Pa_makeLayer_178 : decode c_C_Pa_makeLayer 178 = .ok (.imul, 1) := by decide +kernel
theorem dc_Pa_makeLayer_179 : decode c_C_Pa_makeLayer 179 = .ok (.idiv, 1) := by decide +kernel
theorem dc_Pa_makeLayer_180 : decode c_C_Pa_makeLayer 180 = .ok (.iastore, 1) := by decide +kernel
theorem dc_Pa_makeLayer_181 : decode c_C_Pa_makeLayer 181 = .ok (.iinc 6 1, 3) := by decide +kernel
theorem dc_Pa_makeLayer_184 : decode c_C_Pa_makeLayer 184 = .ok (.goto (-113), 3) := by decide +kernel
theorem dc_Pa_makeLayer_187 : decode c_C_Pa_makeLayer 187 = .ok (.iinc 5 1, 3) := by decide +kernel
theorem dc_Pa_makeLayer_190 : decode c_C_Pa_makeLayer 190 = .ok (.goto (-136), 3) := by decide +kernel
theorem dc_Pa_makeLayer_193 : decode c_C_Pa_makeLayer 193 = .ok (.return_, 1) := by decide +kernel
theorem dc_Wa_makeWeights_0 : decode c_C_Wa_makeWeights 0 = .ok (.iconst 0, 1) := by decide +kernel
theorem dc_Wa_makeWeights_1 : decode c_C_Wa_makeWeights 1 = .ok (.istore_n 1, 1) := by decide +kernel
theorem dc_Wa_makeWeights_2 : decode c_C_Wa_makeWeights 2 = .ok (.iload_n 1, 1) := by decide +kernel
theorem dc_Wa_makeWeights_3 : decode c_C_Wa_makeWeights 3 = .ok (.bipush 8, 2) := by decide +kernel
theorem dc_Wa_makeWeights_5 : decode c_C_Wa_makeWeights 5 = .ok (.if_icmp .ge 91, 3) := by decide +kernel
theorem dc_Wa_makeWeights_8 : decode c_C_Wa_makeWeights 8 = .ok (.iconst 0, 1) := by decide +kernel
theorem dc_Wa_makeWeights_9 : decode c_C_Wa_makeWeights 9 = .ok (.istore_n 2, 1) := by decide +kernel
theorem dc_Wa_makeWeights_10 : decode c_C_Wa_makeWeights 10 = .ok (.iload_n 2, 1) := by decide +kernel
theorem dc_Wa_makeWeights_11 : decode c_C_Wa_makeWeights 11 = .ok (.bipush 8, 2) := by decide +kernel
theorem dc_Wa_makeWeights_13 : decode c_C_Wa_makeWeights 13 = .ok (.if_icmp .ge 77, 3) := by decide +kernel
theorem dc_Wa_makeWeights_16 : decode c_C_Wa_makeWeights 16 = .ok (.sipush 256, 3) := by decide +kernel
theorem dc_Wa_makeWeights_19 : decode c_C_Wa_makeWeights 19 = .ok (.istore_n 3, 1) := by decide +kernel
theorem dc_Wa_makeWeights_20 : decode c_C_Wa_makeWeights 20 = .ok (.iconst 0, 1) := by decide +kernel
theorem dc_Wa_makeWeights_21 : decode c_C_Wa_makeWeights 21 = .ok (.istore 4, 2) := by decide +kernel
theorem dc_Wa_makeWeights_23 : decode c_C_Wa_makeWeights 23 = .ok (.iload 4, 2) := by decide +kernel
theorem dc_Wa_makeWeights_25 : decode c_C_Wa_makeWeights 25 = .ok (.bipush 8, 2) := by decide +kernel
theorem dc_Wa_makeWeights_27 : decode c_C_Wa_makeWeights 27 = .ok (.if_icmp .ge 41, 3) := by decide +kernel
theorem dc_Wa_makeWeights_30 : decode c_C_Wa_makeWeights 30 = .ok (.iload_n 3, 1) := by decide +kernel
theorem dc_Wa_makeWeights_31 : decode c_C_Wa_makeWeights 31 = .ok (.aload_n 0, 1) := by decide +kernel
theorem dc_Wa_makeWeights_32 : decode c_C_Wa_makeWeights 32 = .ok (.getfield 9, 3) := by decide +kernel
theorem dc_Wa_makeWeights_35 : decode c_C_Wa_makeWeights 35 = .ok (.bipush 8, 2) := by decide +kernel
theorem dc_Wa_makeWeights_37 : decode c_C_Wa_makeWeights 37 = .ok (.iload_n 2, 1) := by decide +kernel
theorem dc_Wa_makeWeights_38 : decode c_C_Wa_makeWeights 38 = .ok (.imul, 1) := by decide +kernel
theorem dc_Wa_makeWeights_39 : decode c_C_Wa_makeWeights 39 = .ok (.iload 4, 2) := by decide +kernel
theorem dc_Wa_makeWeights_41 : decode c_C_Wa_makeWeights 41 = .ok (.iadd, 1) := by decide +kernel
theorem dc_Wa_makeWeights_42 : decode c_C_Wa_makeWeights 42 = .ok (.iaload, 1) := by decide +kernel
theorem dc_Wa_makeWeights_43 : decode c_C_Wa_makeWeights 43 = .ok (.aload_n 0, 1) := by decide +kernel
theorem dc_Wa_makeWeights_44 : decode c_C_Wa_makeWeights 44 = .ok (.getfield 15, 3) := by decide +kernel
theorem dc_Wa_makeWeights_47 : decode c_C_Wa_makeWeights 47 = .ok (.bipush 8, 2) := by decide +kernel
theorem dc_Wa_makeWeights_49 : decode c_C_Wa_makeWeights 49 = .ok (.iload_n 1, 1) := by decide +kernel
theorem dc_Wa_makeWeights_50 : decode c_C_Wa_makeWeights 50 = .ok (.imul, 1) := by decide +kernel
theorem dc_Wa_makeWeights_51 : decode c_C_Wa_makeWeights 51 = .ok (.iload 4, 2) := by decide +kernel
theorem dc_Wa_makeWeights_53 : decode c_C_Wa_makeWeights 53 = .ok (.iadd, 1) := by decide +kernel
theorem dc_Wa_makeWeights_54 : decode c_C_Wa_makeWeights 54 = .ok (.iaload, 1) := by decide +kernel
theorem dc_Wa_makeWeights_55 : decode c_C_Wa_makeWeights 55 = .ok (.sipush 128, 3) := by decide +kernel
theorem dc_Wa_makeWeights_58 : decode c_C_Wa_makeWeights 58 = .ok (.isub, 1) := by decide +kernel
theorem dc_Wa_makeWeights_59 : decode c_C_Wa_makeWeights 59 = .ok (.imul, 1) := by decide +kernel
theorem dc_Wa_makeWeights_60 : decode c_C_Wa_makeWeights 60 = .ok (.iadd, 1) := by decide +kernel
theorem dc_Wa_makeWeights_61 : decode c_C_Wa_makeWeights 61 = .ok (.istore_n 3, 1) := by decide +kernel
theorem dc_Wa_makeWeights_62 : decode c_C_Wa_makeWeights 62 = .ok (.iinc 4 1, 3) := by decide +kernel
theorem dc_Wa_makeWeights_65 : decode c_C_Wa_makeWeights 65 = .ok (.goto (-42), 3) := by decide +kernel
theorem dc_Wa_makeWeights_68 : decode c_C_Wa_makeWeights 68 = .ok (.aload_n 0, 1) := by decide +kernel
theorem dc_Wa_makeWeights_69 : decode c_C_Wa_makeWeights 69 = .ok (.getfield 21, 3) := by decide +kernel
theorem dc_Wa_makeWeights_72 : decode c_C_Wa_makeWeights 72 = .ok (.bipush 8, 2) := by decide +kernel
theorem dc_Wa_makeWeights_74 : decode c_C_Wa_makeWeights 74 = .ok (.iload_n 1, 1) := by decide +kernel
theorem dc_Wa_makeWeights_75 : decode c_C_Wa_makeWeights 75 = .ok (.imul, 1) := by decide +kernel
theorem dc_Wa_makeWeights_76 : decode c_C_Wa_makeWeights 76 = .ok (.iload_n 2, 1) := by decide +kernel
theorem dc_Wa_makeWeights_77 : decode c_C_Wa_makeWeights 77 = .ok (.iadd, 1) := by decide +kernel
theorem dc_Wa_makeWeights_78 : decode c_C_Wa_makeWeights 78 = .ok (.iload_n 3, 1) := by decide +kernel
theorem dc_Wa_makeWeights_79 : decode c_C_Wa_makeWeights 79 = .ok (.bipush 9, 2) := by decide +kernel
theorem dc_Wa_makeWeights_81 : decode c_C_Wa_makeWeights 81 = .ok (.ishr, 1) := by decide +kernel
theorem dc_Wa_makeWeights_82 : decode c_C_Wa_makeWeights 82 = .ok (.i2l, 1) := by decide +kernel
theorem dc_Wa_makeWeights_83 : decode c_C_Wa_makeWeights 83 = .ok (.lastore, 1) := by decide +kernel
theorem dc_Wa_makeWeights_84 : decode c_C_Wa_makeWeights 84 = .ok (.iinc 2 1, 3) := by decide +kernel
theorem dc_Wa_makeWeights_87 : decode c_C_Wa_makeWeights 87 = .ok (.goto (-77), 3) := by decide +kernel
theorem dc_Wa_makeWeights_90 : decode c_C_Wa_makeWeights 90 = .ok (.iinc 1 1, 3) := by decide +kernel
theorem dc_Wa_makeWeights_93 : decode c_C_Wa_makeWeights 93 = .ok (.goto (-91), 3) := by decide +kernel
theorem dc_Wa_makeWeights_96 : decode c_C_Wa_makeWeights 96 = .ok (.iconst 0, 1) := by decide +kernel
theorem dc_Wa_makeWeights_97 : decode c_C_Wa_makeWeights 97 = .ok (.istore_n 1, 1) := by decide +kernel
theorem dc_Wa_makeWeights_98 : decode c_C_Wa_makeWeights 98 = .ok (.iload_n 1, 1) := by decide +kernel
theorem dc_Wa_makeWeights_99 : decode c_C_Wa_makeWeights 99 = .ok (.bipush 8, 2) := by decide +kernel
theorem dc_Wa_makeWeights_101 : decode c_C_Wa_makeWeights 101 = .ok (.if_icmp .ge 88, 3) := by decide +kernel
theorem dc_Wa_makeWeights_104 : decode c_C_Wa_makeWeights 104 = .ok (.iconst 0, 1) := by decide +kernel
theorem dc_Wa_makeWeights_105 : decode c_C_Wa_makeWeights 105 = .ok (.istore_n 2, 1) := by decide +kernel
theorem dc_Wa_makeWeights_106 : decode c_C_Wa_makeWeights 106 = .ok (.iload_n 2, 1) := by decide +kernel
theorem dc_Wa_makeWeights_107 : decode c_C_Wa_makeWeights 107 = .ok (.bipush 8, 2) := by decide +kernel
theorem dc_Wa_makeWeights_109 : decode c_C_Wa_makeWeights 109 = .ok (.if_icmp .ge 74, 3) := by decide +kernel
theorem dc_Wa_makeWeights_112 : decode c_C_Wa_makeWeights 112 = .ok (.ldc2_w 32, 3) := by decide +kernel
theorem dc_Wa_makeWeights_115 : decode c_C_Wa_makeWeights 115 = .ok (.lstore_n 3, 1) := by decide +kernel
theorem dc_Wa_makeWeights_116 : decode c_C_Wa_makeWeights 116 = .ok (.iconst 0, 1) := by decide +kernel
theorem dc_Wa_makeWeights_117 : decode c_C_Wa_makeWeights 117 = .ok (.istore 5, 2) := by decide +kernel
theorem dc_Wa_makeWeights_119 : decode c_C_Wa_makeWeights 119 = .ok (.iload 5, 2) := by decide +kernel
theorem dc_Wa_makeWeights_121 : decode c_C_Wa_makeWeights 121 = .ok (.bipush 8, 2) := by decide +kernel
theorem dc_Wa_makeWeights_123 : decode c_C_Wa_makeWeights 123 = .ok (.if_icmp .ge 38, 3) := by decide +kernel
theorem dc_Wa_makeWeights_126 : decode c_C_Wa_makeWeights 126 = .ok (.lload_n 3, 1) := by decide +kernel
theorem dc_Wa_makeWeights_127 : decode c_C_Wa_makeWeights 127 = .ok (.aload_n 0, 1) := by decide +kernel
theorem dc_Wa_makeWeights_128 : decode c_C_Wa_makeWeights 128 = .ok (.getfield 9, 3) := by decide +kernel
theorem dc_Wa_makeWeights_131 : decode c_C_Wa_makeWeights 131 = .ok (.bipush 8, 2) := by decide +kernel
theorem dc_Wa_makeWeights_133 : decode c_C_Wa_makeWeights 133 = .ok (.iload_n 1, 1) := by decide +kernel
theorem dc_Wa_makeWeights_134 : decode c_C_Wa_makeWeights 134 = .ok (.imul, 1) := by decide +kernel
theorem dc_Wa_makeWeights_135 : decode c_C_Wa_makeWeights 135 = .ok (.iload 5, 2) := by decide +kernel
theorem dc_Wa_makeWeights_137 : decode c_C_Wa_makeWeights 137 = .ok (.iadd, 1) := by decide +kernel
theorem dc_Wa_makeWeights_138 : decode c_C_Wa_makeWeights 138 = .ok (.iaload, 1) := by decide +kernel
theorem dc_Wa_makeWeights_139 : decode c_C_Wa_makeWeights 139 = .ok (.i2l, 1) := by decide +kernel
theorem dc_Wa_makeWeights_140 : decode c_C_Wa_makeWeights 140 = .ok (.aload_n 0, 1) := by decide +kernel
theorem dc_Wa_makeWeights_141 : decode c_C_Wa_makeWeights 141 = .ok (.getfield 21, 3) := by decide +kernel
theorem dc_Wa_makeWeights_144 : decode c_C_Wa_makeWeights 144 = .ok (.bipush 8, 2) := by decide +kernel
theorem dc_Wa_makeWeights_146 : decode c_C_Wa_makeWeights 146 = .ok (.iload 5, 2) := by decide +kernel
theorem dc_Wa_makeWeights_148 : decode c_C_Wa_makeWeights 148 = .ok (.imul, 1) := by decide +kernel
theorem dc_Wa_makeWeights_149 : decode c_C_Wa_makeWeights 149 = .ok (.iload_n 2, 1) := by decide +kernel
theorem dc_Wa_makeWeights_150 : decode c_C_Wa_makeWeights 150 = .ok (.iadd, 1) := by decide +kernel
theorem dc_Wa_makeWeights_151 : decode c_C_Wa_makeWeights 151 = .ok (.laload, 1) := by decide +kernel
theorem dc_Wa_makeWeights_152 : decode c_C_Wa_makeWeights 152 = .ok (.lmul, 1) := by decide +kernel
theorem dc_Wa_makeWeights_153 : decode c_C_Wa_makeWeights 153 = .ok (.ladd, 1) := by decide +kernel
theorem dc_Wa_makeWeights_154 : decode c_C_Wa_makeWeights 154 = .ok (.lstore_n 3, 1) := by decide +kernel
theorem dc_Wa_makeWeights_155 : decode c_C_Wa_makeWeights 155 = .ok (.iinc 5 1, 3) := by decide +kernel
theorem dc_Wa_makeWeights_158 : decode c_C_Wa_makeWeights 158 = .ok (.goto (-39), 3) := by decide +kernel
theorem dc_Wa_makeWeights_161 : decode c_C_Wa_makeWeights 161 = .ok (.aload_n 0, 1) := by decide +kernel
theorem dc_Wa_makeWeights_162 : decode c_C_Wa_makeWeights 162 = .ok (.getfield 18, 3) := by decide +kernel
theorem dc_Wa_makeWeights_165 : decode c_C_Wa_makeWeights 165 = .ok (.bipush 8, 2) := by decide +kernel
theorem dc_Wa_makeWeights_167 : decode c_C_Wa_makeWeights 167 = .ok (.iload_n 1, 1) := by decide +kernel
theorem dc_Wa_makeWeights_168 : decode c_C_Wa_makeWeights 168 = .ok (.imul, 1) := by decide +kernel
theorem dc_Wa_makeWeights_169 : decode c_C_Wa_makeWeights 169 = .ok (.iload_n 2, 1) := by decide +kernel
theorem dc_Wa_makeWeights_170 : decode c_C_Wa_makeWeights 170 = .ok (.iadd, 1) := by decide +kernel
theorem dc_Wa_makeWeights_171 : decode c_C_Wa_makeWeights 171 = .ok (.lload_n 3, 1) := by decide +kernel
theorem dc_Wa_makeWeights_172 : decode c_C_Wa_makeWeights 172 = .ok (.bipush 17, 2) := by decide +kernel
theorem dc_Wa_makeWeights_174 : decode c_C_Wa_makeWeights 174 = .ok (.lshr, 1) := by decide +kernel
theorem dc_Wa_makeWeights_175 : decode c_C_Wa_makeWeights 175 = .ok (.l2i, 1) := by decide +kernel
theorem dc_Wa_makeWeights_176 : decode c_C_Wa_makeWeights 176 = .ok (.iastore, 1) := by decide +kernel
theorem dc_Wa_makeWeights_177 : decode c_C_Wa_makeWeights 177 = .ok (.iinc 2 1, 3) := by decide +kernel
theorem dc_Wa_makeWeights_180 : decode c_C_Wa_makeWeights 180 = .ok (.goto (-74), 3) := by decide +kernel
theorem dc_Wa_makeWeights_183 : decode c_C_Wa_makeWeights 183 = .ok (.iinc 1 1, 3) := by decide +kernel
theorem dc_Wa_makeWeights_186 : decode c_C_Wa_makeWeights 186 = .ok (.goto (-88), 3) := by decide +kernel
theorem dc_Wa_makeWeights_189 : decode c_C_Wa_makeWeights 189 = .ok (.return_, 1) := by decide +kernel
theorem dc_Pa_makeBlock_0 : decode c_C_Pa_makeBlock 0 = .ok (.iload_n 1, 1) := by decide +kernel
theorem dc_Pa_makeBlock_1 : decode c_C_Pa_makeBlock 1 = .ok (.bipush 64, 2) := by decide +kernel
theorem dc_Pa_makeBlock_3 : decode c_C_Pa_makeBlock 3 = .ok (.idiv, 1) := by decide +kernel
theorem dc_Pa_makeBlock_4 : decode c_C_Pa_makeBlock 4 = .ok (.istore_n 3, 1) := by decide +kernel
theorem dc_Pa_makeBlock_5 : decode c_C_Pa_makeBlock 5 = .ok (.iconst 1, 1) := by decide +kernel
theorem dc_Pa_makeBlock_6 : decode c_C_Pa_makeBlock 6 = .ok (.aload_n 0, 1) := by decide +kernel
theorem dc_Pa_makeBlock_7 : decode c_C_Pa_makeBlock 7 = .ok (.getfield 31, 3) := by decide +kernel
theorem dc_Pa_makeBlock_10 : decode c_C_Pa_makeBlock 10 = .ok (.getfield 155, 3) := by decide +kernel
theorem dc_Pa_makeBlock_13 : decode c_C_Pa_makeBlock 13 = .ok (.iload_n 3, 1) := by decide +kernel
theorem dc_Pa_makeBlock_14 : decode c_C_Pa_makeBlock 14 = .ok (.iaload, 1) := by decide +kernel
theorem dc_Pa_makeBlock_15 : decode c_C_Pa_makeBlock 15 = .ok (.invokestatic 158, 3) := by decide +kernel
theorem dc_Pa_makeBlock_18 : decode c_C_Pa_makeBlock 18 = .ok (.istore 4, 2) := by decide +kernel
theorem dc_Pa_makeBlock_20 : decode c_C_Pa_makeBlock 20 = .ok (.iload_n 1, 1) := by decide +kernel
theorem dc_Pa_makeBlock_21 : decode c_C_Pa_makeBlock 21 = .ok (.bipush 64, 2) := by decide +kernel
theorem dc_Pa_makeBlock_23 : decode c_C_Pa_makeBlock 23 = .ok (.irem, 1) := by decide +kernel
theorem dc_Pa_makeBlock_24 : decode c_C_Pa_makeBlock 24 = .ok (.iload 4, 2) := by decide +kernel
theorem dc_Pa_makeBlock_26 : decode c_C_Pa_makeBlock 26 = .ok (.irem, 1) := by decide +kernel
theorem dc_Pa_makeBlock_27 : decode c_C_Pa_makeBlock 27 = .ok (.bipush 8, 2) := by decide +kernel
theorem dc_Pa_makeBlock_29 : decode c_C_Pa_makeBlock 29 = .ok (.imul, 1) := by decide +kernel
theorem dc_Pa_makeBlock_30 : decode c_C_Pa_makeBlock 30 = .ok (.istore 5, 2) := by decide +kernel
theorem dc_Pa_makeBlock_32 : decode c_C_Pa_makeBlock 32 = .ok (.iload_n 1, 1) := by decide +kernel
theorem dc_Pa_makeBlock_33 : decode c_C_Pa_makeBlock 33 = .ok (.bipush 64, 2) := by decide +kernel
theorem dc_Pa_makeBlock_35 : decode c_C_Pa_makeBlock 35 = .ok (.irem, 1) := by decide +kernel
theorem dc_Pa_makeBlock_36 : decode c_C_Pa_makeBlock 36 = .ok (.iload 4, 2) := by decide +kernel
theorem dc_Pa_makeBlock_38 : decode c_C_Pa_makeBlock 38 = .ok (.idiv, 1) := by decide +kernel
theorem dc_Pa_makeBlock_39 : decode c_C_Pa_makeBlock 39 = .ok (.bipush 8, 2) := by decide +kernel
theorem dc_Pa_makeBlock_41 : decode c_C_Pa_makeBlock 41 = .ok (.imul, 1) := by decide +kernel
theorem dc_Pa_makeBlock_42 : decode c_C_Pa_makeBlock 42 = .ok (.istore 6, 2) := by decide +kernel
theorem dc_Pa_makeBlock_44 : decode c_C_Pa_makeBlock 44 = .ok (.aload_n 0, 1) := by decide +kernel
theorem dc_Pa_makeBlock_45 : decode c_C_Pa_makeBlock 45 = .ok (.getfield 31, 3) := by decide +kernel
theorem dc_Pa_makeBlock_48 : decode c_C_Pa_makeBlock 48 = .ok (.getfield 136, 3) := by decide +kernel
theorem dc_Pa_makeBlock_51 : decode c_C_Pa_makeBlock 51 = .ok (.iload_n 3, 1) := by decide +kernel
theorem dc_Pa_makeBlock_52 : decode c_C_Pa_makeBlock 52 = .ok (.iaload, 1) := by decide +kernel
theorem dc_Pa_makeBlock_53 : decode c_C_Pa_makeBlock 53 = .ok (.iconst 1, 1) := by decide +kernel
theorem dc_Pa_makeBlock_54 : decode c_C_Pa_makeBlock 54 = .ok (.isub, 1) := by decide +kernel
theorem dc_Pa_makeBlock_55 : decode c_C_Pa_makeBlock 55 = .ok (.istore 7, 2) := by decide +kernel
theorem dc_Pa_makeBlock_57 : decode c_C_Pa_makeBlock 57 = .ok (.aload_n 0, 1) := by decide +kernel
theorem dc_Pa_makeBlock_58 : decode c_C_Pa_makeBlock 58 = .ok (.getfield 31, 3) := by decide +kernel
theorem dc_Pa_makeBlock_61 : decode c_C_Pa_makeBlock 61 = .ok (.getfield 133, 3) := by decide +kernel
theorem dc_Pa_makeBlock_64 : decode c_C_Pa_makeBlock 64 = .ok (.iload_n 3, 1) := by decide +kernel
theorem dc_Pa_makeBlock_65 : decode c_C_Pa_makeBlock 65 = .ok (.iaload, 1) := by decide +kernel
theorem dc_Pa_makeBlock_66 : decode c_C_Pa_makeBlock 66 = .ok (.iconst 1, 1) := by decide +kernel
theorem dc_Pa_makeBlock_67 : decode c_C_Pa_makeBlock 67 = .ok (.isub, 1) := by decide +kernel
theorem dc_Pa_makeBlock_68 : decode c_C_Pa_makeBlock 68 = .ok (.istore 8, 2) := by decide +kernel
theorem dc_Pa_makeBlock_70 : decode c_C_Pa_makeBlock 70 = .ok (.iconst 0, 1) := by decide +kernel
theorem dc_Pa_makeBlock_71 : decode c_C_Pa_makeBlock 71 = .ok (.istore 9, 2) := by decide +kernel
theorem dc_Pa_makeBlock_73 : decode c_C_Pa_makeBlock 73 = .ok (.iload 9, 2) := by decide +kernel
theorem dc_Pa_makeBlock_75 : decode c_C_Pa_makeBlock 75 = .ok (.bipush 64, 2) := by decide +kernel
theorem dc_Pa_makeBlock_77 : decode c_C_Pa_makeBlock 77 = .ok (.if_icmp .ge 65, 3) := by decide +kernel
theorem dc_Pa_makeBlock_80 : decode c_C_Pa_makeBlock 80 = .ok (.iload 7, 2) := by decide +kernel
theorem dc_Pa_makeBlock_82 : decode c_C_Pa_makeBlock 82 = .ok (.iload 5, 2) := by decide +kernel
theorem dc_Pa_makeBlock_84 : decode c_C_Pa_makeBlock 84 = .ok (.iload 9, 2) := by decide +kernel
theorem dc_Pa_makeBlock_86 : decode c_C_Pa_makeBlock 86 = .ok (.bipush 8, 2) := by decide +kernel
theorem dc_Pa_makeBlock_88 : decode c_C_Pa_makeBlock 88 = .ok (.irem, 1) := by decide +kernel
theorem dc_Pa_makeBlock_89 : decode c_C_Pa_makeBlock 89 = .ok (.iadd, 1) := by decide +kernel
theorem dc_Pa_makeBlock_90 : decode c_C_Pa_makeBlock 90 = .ok (.invokestatic 139, 3) := by decide +kernel
theorem dc_Pa_makeBlock_93 : decode c_C_Pa_makeBlock 93 = .ok (.istore 10, 2) := by decide +kernel
theorem dc_Pa_makeBlock_95 : decode c_C_Pa_makeBlock 95 = .ok (.iload 8, 2) := by decide +kernel
theorem dc_Pa_makeBlock_97 : decode c_C_Pa_makeBlock 97 = .ok (.iload 6, 2) := by decide +kernel
theorem dc_Pa_makeBlock_99 : decode c_C_Pa_makeBlock 99 = .ok (.iload 9, 2) := by decide +kernel
theorem dc_Pa_makeBlock_101 : decode c_C_Pa_makeBlock 101 = .ok (.bipush 8, 2) := by decide +kernel
theorem dc_Pa_makeBlock_103 : decode c_C_Pa_makeBlock 103 = .ok (.idiv, 1) := by decide +kernel
theorem dc_Pa_makeBlock_104 : decode c_C_Pa_makeBlock 104 = .ok (.iadd, 1) := by decide +kernel
theorem dc_Pa_makeBlock_105 : decode c_C_Pa_makeBlock 105 = .ok (.invokestatic 139, 3) := by decide +kernel
theorem dc_Pa_makeBlock_108 : decode c_C_Pa_makeBlock 108 = .ok (.istore 11, 2) := by decide +kernel
theorem dc_Pa_makeBlock_110 : decode c_C_Pa_makeBlock 110 = .ok (.aload_n 0, 1) := by decide +kernel
theorem dc_Pa_makeBlock_111 : decode c_C_Pa_makeBlock 111 = .ok (.getfield 24, 3) := by decide +kernel
theorem dc_Pa_makeBlock_114 : decode c_C_Pa_makeBlock 114 = .ok (.getfield 161, 3) := by decide +kernel
theorem dc_Pa_makeBlock_117 : decode c_C_Pa_makeBlock 117 = .ok (.iload 9, 2) := by decide +kernel
theorem dc_Pa_makeBlock_119 : decode c_C_Pa_makeBlock 119 = .ok (.aload_n 0, 1) := by decide +kernel
theorem dc_Pa_makeBlock_120 : decode c_C_Pa_makeBlock 120 = .ok (.getfield 31, 3) := by decide +kernel
theorem dc_Pa_makeBlock_123 : decode c_C_Pa_makeBlock 123 = .ok (.getfield 149, 3) := by decide +kernel
theorem dc_Pa_makeBlock_126 : decode c_C_Pa_makeBlock 126 = .ok (.iload_n 3, 1) := by decide +kernel
theorem dc_Pa_makeBlock_127 : decode c_C_Pa_makeBlock 127 = .ok (.iload 10, 2) := by decide +kernel
theorem dc_Pa_makeBlock_129 : decode c_C_Pa_makeBlock 129 = .ok (.iload 11, 2) := by decide +kernel
theorem dc_Pa_makeBlock_131 : decode c_C_Pa_makeBlock 131 = .ok (.invokestatic 152, 3) := by decide +kernel
theorem dc_Pa_makeBlock_134 : decode c_C_Pa_makeBlock 134 = .ok (.iaload, 1) := by decide +kernel
theorem dc_Pa_makeBlock_135 : decode c_C_Pa_makeBlock 135 = .ok (.iastore, 1) := by decide +kernel
theorem dc_Pa_makeBlock_136 : decode c_C_Pa_makeBlock 136 = .ok (.iinc 9 1, 3) := by decide +kernel
theorem dc_Pa_makeBlock_139 : decode c_C_Pa_makeBlock 139 = .ok (.goto (-66), 3) := by decide +kernel
theorem dc_Pa_makeBlock_142 : decode c_C_Pa_makeBlock 142 = .ok (.aload_n 0, 1) := by decide +kernel
theorem dc_Pa_makeBlock_143 : decode c_C_Pa_makeBlock 143 = .ok (.getfield 24, 3) := by decide +kernel
theorem dc_Pa_makeBlock_146 : decode c_C_Pa_makeBlock 146 = .ok (.invokevirtual 162, 3) := by decide +kernel
theorem dc_Pa_makeBlock_149 : decode c_C_Pa_makeBlock 149 = .ok (.iconst 0, 1) := by decide +kernel
theorem dc_Pa_makeBlock_150 : decode c_C_Pa_makeBlock 150 = .ok (.istore 9, 2) := by decide +kernel
theorem dc_Pa_makeBlock_152 : decode c_C_Pa_makeBlock 152 = .ok (.iload 9, 2) := by decide +kernel
theorem dc_Pa_makeBlock_154 : decode c_C_Pa_makeBlock 154 = .ok (.bipush 64, 2) := by decide +kernel
theorem dc_Pa_makeBlock_156 : decode c_C_Pa_makeBlock 156 = .ok (.if_icmp .ge 90, 3) := by decide +kernel
theorem dc_Pa_makeBlock_159 : decode c_C_Pa_makeBlock 159 = .ok (.aload_n 0, 1) := by decide +kernel
theorem dc_Pa_makeBlock_160 : decode c_C_Pa_makeBlock 160 = .ok (.getfield 24, 3) := by decide +kernel
theorem dc_Pa_makeBlock_163 : decode c_C_Pa_makeBlock 163 = .ok (.getfield 165, 3) := by decide +kernel
theorem dc_Pa_makeBlock_166 : decode c_C_Pa_makeBlock 166 = .ok (.getstatic 168, 3) := by decide +kernel
theorem dc_Pa_makeBlock_169 : decode c_C_Pa_makeBlock 169 = .ok (.iload 9, 2) := by decide +kernel
theorem dc_Pa_makeBlock_171 : decode c_C_Pa_makeBlock 171 = .ok (.iaload, 1) := by decide +kernel
theorem dc_Pa_makeBlock_172 : decode c_C_Pa_makeBlock 172 = .ok (.iaload, 1) := by decide +kernel
theorem dc_Pa_makeBlock_173 : decode c_C_Pa_makeBlock 173 = .ok (.istore 10, 2) := by decide +kernel
theorem dc_Pa_makeBlock_175 : decode c_C_Pa_makeBlock 175 = .ok (.iconst 1, 1) := by decide +kernel
theorem dc_Pa_makeBlock_176 : decode c_C_Pa_makeBlock 176 = .ok (.aload_n 2, 1) := by decide +kernel
theorem dc_Pa_makeBlock_177 : decode c_C_Pa_makeBlock 177 = .ok (.bipush 64, 2) := by decide +kernel
theorem dc_Pa_makeBlock_179 : decode c_C_Pa_makeBlock 179 = .ok (.iload_n 3, 1) := by decide +kernel
theorem dc_Pa_makeBlock_180 : decode c_C_Pa_makeBlock 180 = .ok (.invokestatic 89, 3) := by decide +kernel
theorem dc_Pa_makeBlock_183 : decode c_C_Pa_makeBlock 183 = .ok (.imul, 1) := by decide +kernel
theorem dc_Pa_makeBlock_184 : decode c_C_Pa_makeBlock 184 = .ok (.getstatic 168, 3) := by decide +kernel
theorem dc_Pa_makeBlock_187 : decode c_C_Pa_makeBlock 187 = .ok (.iload 9, 2) := by decide +kernel
theorem dc_Pa_makeBlock_189 : decode c_C_Pa_makeBlock 189 = .ok (.iaload, 1) := by decide +kernel
theorem dc_Pa_makeBlock_190 : decode c_C_Pa_makeBlock 190 = .ok (.iadd, 1) := by decide +kernel
theorem dc_Pa_makeBlock_191 : decode c_C_Pa_makeBlock 191 = .ok (.iaload, 1) := by decide +kernel
theorem dc_Pa_makeBlock_192 : decode c_C_Pa_makeBlock 192 = .ok (.invokestatic 158, 3) := by decide +kernel
theorem dc_Pa_makeBlock_195 : decode c_C_Pa_makeBlock 195 = .ok (.istore 11, 2) := by decide +kernel
theorem dc_Pa_makeBlock_197 : decode c_C_Pa_makeBlock 197 = .ok (.iload 10, 2) := by decide +kernel
theorem dc_Pa_makeBlock_199 : decode c_C_Pa_makeBlock 199 = .ok (.invokestatic 171, 3) := by decide +kernel
theorem dc_Pa_makeBlock_202 : decode c_C_Pa_makeBlock 202 = .ok (.iload 11, 2) := by decide +kernel
theorem dc_Pa_makeBlock_204 : decode c_C_Pa_makeBlock 204 = .ok (.iconst 2, 1) := by decide +kernel
theorem dc_Pa_makeBlock_205 : decode c_C_Pa_makeBlock 205 = .ok (.idiv, 1) := by decide +kernel
theorem dc_Pa_makeBlock_206 : decode c_C_Pa_makeBlock 206 = .ok (.iadd, 1) := by decide +kernel
theorem dc_Pa_makeBlock_207 : decode c_C_Pa_makeBlock 207 = .ok (.iload 11, 2) := by decide +kernel
theorem dc_Pa_makeBlock_209 : decode c_C_Pa_makeBlock 209 = .ok (.idiv, 1) := by decide +kernel
theorem dc_Pa_makeBlock_210 : decode c_C_Pa_makeBlock 210 = .ok (.istore 12, 2) := by decide +kernel
theorem dc_Pa_makeBlock_212 : decode c_C_Pa_makeBlock 212 = .ok (.aload_n 0, 1) := by decide +kernel
theorem dc_Pa_makeBlock_213 : decode c_C_Pa_makeBlock 213 = .ok (.getfield 31, 3) := by decide +kernel
theorem dc_Pa_makeBlock_216 : decode c_C_Pa_makeBlock 216 = .ok (.getfield 174, 3) := by decide +kernel
theorem dc_Pa_makeBlock_219 : decode c_C_Pa_makeBlock 219 = .ok (.bipush 64, 2) := by decide +kernel
theorem dc_Pa_makeBlock_221 : decode c_C_Pa_makeBlock 221 = .ok (.iload_n 1, 1) := by decide +kernel
theorem dc_Pa_makeBlock_222 : decode c_C_Pa_makeBlock 222 = .ok (.imul, 1) := by decide +kernel
theorem dc_Pa_makeBlock_223 : decode c_C_Pa_makeBlock 223 = .ok (.iload 9, 2) := by decide +kernel
theorem dc_Pa_makeBlock_225 : decode c_C_Pa_makeBlock 225 = .ok (.iadd, 1) := by decide +kernel
theorem dc_Pa_makeBlock_226 : decode c_C_Pa_makeBlock 226 = .ok (.iload 10, 2) := by decide +kernel
theorem dc_Pa_makeBlock_228 : decode c_C_Pa_makeBlock 228 = .ok (.ifCond .ge 9, 3) := by decide +kernel
theorem dc_Pa_makeBlock_231 : decode c_C_Pa_makeBlock 231 = .ok (.iload 12, 2) := by decide +kernel
theorem dc_Pa_makeBlock_233 : decode c_C_Pa_makeBlock 233 = .ok (.ineg, 1) := by decide +kernel
theorem dc_Pa_makeBlock_234 : decode c_C_Pa_makeBlock 234 = .ok (.goto 5, 3) := by decide +kernel
theorem dc_Pa_makeBlock_237 : decode c_C_Pa_makeBlock 237 = .ok (.iload 12, 2) := by decide +kernel
theorem dc_Pa_makeBlock_239 : decode c_C_Pa_makeBlock 239 = .ok (.iastore, 1) := by decide +kernel
theorem dc_Pa_makeBlock_240 : decode c_C_Pa_makeBlock 240 = .ok (.iinc 9 1, 3) := by decide +kernel
theorem dc_Pa_makeBlock_243 : decode c_C_Pa_makeBlock 243 = .ok (.goto (-91), 3) := by decide +kernel
theorem dc_Pa_makeBlock_246 : decode c_C_Pa_makeBlock 246 = .ok (.return_, 1) := by decide +kernel
