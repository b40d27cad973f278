theorem d_out_0 : decode c_M_out 0 = .ok (.aload_n 0, 1) := by decide +kernel
theorem d_out_1 : decode c_M_out 1 = .ok (.iload_n 1, 1) := by decide +kernel
theorem d_out_2 : decode c_M_out 2 = .ok (.ifCond .lt 11, 3) := by decide +kernel
theorem d_out_5 : decode c_M_out 5 = .ok (.iload_n 1, 1) := by decide +kernel
theorem d_out_6 : decode c_M_out 6 = .ok (.aload_n 0, 1) := by decide +kernel
theorem d_out_7 : decode c_M_out 7 = .ok (.getfield 197, 3) := by decide +kernel
theorem d_out_10 : decode c_M_out 10 = .ok (.if_icmp .lt 7, 3) := by decide +kernel
theorem d_out_13 : decode c_M_out 13 = .ok (.iconst 1, 1) := by decide +kernel
theorem d_out_14 : decode c_M_out 14 = .ok (.goto 4, 3) := by decide +kernel
theorem d_out_17 : decode c_M_out 17 = .ok (.iconst 0, 1) := by decide +kernel
theorem d_out_18 : decode c_M_out 18 = .ok (.putfield 146, 3) := by decide +kernel
theorem d_out_21 : decode c_M_out 21 = .ok (.aload_n 0, 1) := by decide +kernel
theorem d_out_22 : decode c_M_out 22 = .ok (.getfield 146, 3) := by decide +kernel
theorem d_out_25 : decode c_M_out 25 = .ok (.ifCond .le 7, 3) := by decide +kernel
theorem d_out_28 : decode c_M_out 28 = .ok (.iconst 0, 1) := by decide +kernel
theorem d_out_29 : decode c_M_out 29 = .ok (.goto 9, 3) := by decide +kernel
theorem d_out_32 : decode c_M_out 32 = .ok (.aload_n 0, 1) := by decide +kernel
theorem d_out_33 : decode c_M_out 33 = .ok (.getfield 31, 3) := by decide +kernel
theorem d_out_36 : decode c_M_out 36 = .ok (.iload_n 1, 1) := by decide +kernel
theorem d_out_37 : decode c_M_out 37 = .ok (.iaload, 1) := by decide +kernel
theorem d_out_38 : decode c_M_out 38 = .ok (.ireturn, 1) := by decide +kernel
theorem d_feed_0 : decode c_M_feed 0 = .ok (.aload_n 0, 1) := by decide +kernel
theorem d_feed_1 : decode c_M_feed 1 = .ok (.aload_n 0, 1) := by decide +kernel
theorem d_feed_2 : decode c_M_feed 2 = .ok (.getfield 262, 3) := by decide +kernel
theorem d_feed_5 : decode c_M_feed 5 = .ok (.bipush 20, 2) := by decide +kernel
theorem d_feed_7 : decode c_M_feed 7 = .ok (.iadd, 1) := by decide +kernel
theorem d_feed_8 : decode c_M_feed 8 = .ok (.ldc 26, 2) := by decide +kernel
theorem d_feed_10 : decode c_M_feed 10 = .ok (.if_icmp .le 7, 3) := by decide +kernel
theorem d_feed_13 : decode c_M_feed 13 = .ok (.iconst 1, 1) := by decide +kernel
theorem d_feed_14 : decode c_M_feed 14 = .ok (.goto 4, 3) := by decide +kernel
theorem d_feed_17 : decode c_M_feed 17 = .ok (.iconst 0, 1) := by decide +kernel
theorem d_feed_18 : decode c_M_feed 18 = .ok (.putfield 146, 3) := by decide +kernel
theorem d_feed_21 : decode c_M_feed 21 = .ok (.aload_n 0, 1) := by decide +kernel
theorem d_feed_22 : decode c_M_feed 22 = .ok (.getfield 146, 3) := by decide +kernel
theorem d_feed_25 : decode c_M_feed 25 = .ok (.ifCond .le 5, 3) := by decide +kernel
theorem d_feed_28 : decode c_M_feed 28 = .ok (.iconst 0, 1) := by decide +kernel
theorem d_feed_29 : decode c_M_feed 29 = .ok (.ireturn, 1) := by decide +kernel
theorem d_feed_30 : decode c_M_feed 30 = .ok (.iconst 0, 1) := by decide +kernel
theorem d_feed_31 : decode c_M_feed 31 = .ok (.istore 6, 2) := by decide +kernel
theorem d_feed_33 : decode c_M_feed 33 = .ok (.iload 6, 2) := by decide +kernel
theorem d_feed_35 : decode c_M_feed 35 = .ok (.bipush 20, 2) := by decide +kernel
theorem d_feed_37 : decode c_M_feed 37 = .ok (.if_icmp .ge 93, 3) := by decide +kernel
theorem d_feed_40 : decode c_M_feed 40 = .ok (.iload 6, 2) := by decide +kernel
theorem d_feed_42 : decode c_M_feed 42 = .ok (.iconst 4, 1) := by decide +kernel
theorem d_feed_43 : decode c_M_feed 43 = .ok (.if_icmp .ge 7, 3) := by decide +kernel
theorem d_feed_46 : decode c_M_feed 46 = .ok (.iload_n 1, 1) := by decide +kernel
theorem d_feed_47 : decode c_M_feed 47 = .ok (.goto 39, 3) := by decide +kernel
theorem d_feed_50 : decode c_M_feed 50 = .ok (.iload 6, 2) := by decide +kernel
theorem d_feed_52 : decode c_M_feed 52 = .ok (.bipush 8, 2) := by decide +kernel
theorem d_feed_54 : decode c_M_feed 54 = .ok (.if_icmp .ge 7, 3) := by decide +kernel
theorem d_feed_57 : decode c_M_feed 57 = .ok (.iload_n 2, 1) := by decide +kernel
theorem d_feed_58 : decode c_M_feed 58 = .ok (.goto 28, 3) := by decide +kernel
theorem d_feed_61 : decode c_M_feed 61 = .ok (.iload 6, 2) := by decide +kernel
theorem d_feed_63 : decode c_M_feed 63 = .ok (.bipush 12, 2) := by decide +kernel
theorem d_feed_65 : decode c_M_feed 65 = .ok (.if_icmp .ge 7, 3) := by decide +kernel
theorem d_feed_68 : decode c_M_feed 68 = .ok (.iload_n 3, 1) := by decide +kernel
theorem d_feed_69 : decode c_M_feed 69 = .ok (.goto 17, 3) := by decide +kernel
theorem d_feed_72 : decode c_M_feed 72 = .ok (.iload 6, 2) := by decide +kernel
theorem d_feed_74 : decode c_M_feed 74 = .ok (.bipush 16, 2) := by decide +kernel
theorem d_feed_76 : decode c_M_feed 76 = .ok (.if_icmp .ge 8, 3) := by decide +kernel
theorem d_feed_79 : decode c_M_feed 79 = .ok (.iload 4, 2) := by decide +kernel
theorem d_feed_81 : decode c_M_feed 81 = .ok (.goto 5, 3) := by decide +kernel
theorem d_feed_84 : decode c_M_feed 84 = .ok (.iload 5, 2) := by decide +kernel
theorem d_feed_86 : decode c_M_feed 86 = .ok (.istore 7, 2) := by decide +kernel
theorem d_feed_88 : decode c_M_feed 88 = .ok (.aload_n 0, 1) := by decide +kernel
theorem d_feed_89 : decode c_M_feed 89 = .ok (.getfield 27, 3) := by decide +kernel
theorem d_feed_92 : decode c_M_feed 92 = .ok (.aload_n 0, 1) := by decide +kernel
theorem d_feed_93 : decode c_M_feed 93 = .ok (.getfield 262, 3) := by decide +kernel
theorem d_feed_96 : decode c_M_feed 96 = .ok (.iload 7, 2) := by decide +kernel
theorem d_feed_98 : decode c_M_feed 98 = .ok (.bipush 24, 2) := by decide +kernel
theorem d_feed_100 : decode c_M_feed 100 = .ok (.bipush 8, 2) := by decide +kernel
theorem d_feed_102 : decode c_M_feed 102 = .ok (.iload 6, 2) := by decide +kernel
theorem d_feed_104 : decode c_M_feed 104 = .ok (.iconst 4, 1) := by decide +kernel
theorem d_feed_105 : decode c_M_feed 105 = .ok (.irem, 1) := by decide +kernel
theorem d_feed_106 : decode c_M_feed 106 = .ok (.imul, 1) := by decide +kernel
theorem d_feed_107 : decode c_M_feed 107 = .ok (.isub, 1) := by decide +kernel
theorem d_feed_108 : decode c_M_feed 108 = .ok (.ishr, 1) := by decide +kernel
theorem d_feed_109 : decode c_M_feed 109 = .ok (.sipush 255, 3) := by decide +kernel
theorem d_feed_112 : decode c_M_feed 112 = .ok (.iand, 1) := by decide +kernel
theorem d_feed_113 : decode c_M_feed 113 = .ok (.iastore, 1) := by decide +kernel
theorem d_feed_114 : decode c_M_feed 114 = .ok (.aload_n 0, 1) := by decide +kernel
theorem d_feed_115 : decode c_M_feed 115 = .ok (.dup, 1) := by decide +kernel
theorem d_feed_116 : decode c_M_feed 116 = .ok (.getfield 262, 3) := by decide +kernel
theorem d_feed_119 : decode c_M_feed 119 = .ok (.iconst 1, 1) := by decide +kernel
theorem d_feed_120 : decode c_M_feed 120 = .ok (.iadd, 1) := by decide +kernel
theorem d_feed_121 : decode c_M_feed 121 = .ok (.putfield 262, 3) := by decide +kernel
theorem d_feed_124 : decode c_M_feed 124 = .ok (.iinc 6 1, 3) := by decide +kernel
theorem d_feed_127 : decode c_M_feed 127 = .ok (.goto (-94), 3) := by decide +kernel
theorem d_feed_130 : decode c_M_feed 130 = .ok (.aload_n 0, 1) := by decide +kernel
theorem d_feed_131 : decode c_M_feed 131 = .ok (.getfield 262, 3) := by decide +kernel
theorem d_feed_134 : decode c_M_feed 134 = .ok (.ireturn, 1) := by decide +kernel
theorem d_end_0 : decode c_M_end 0 = .ok (.aload_n 0, 1) := by decide +kernel
theorem d_end_1 : decode c_M_end 1 = .ok (.iload_n 1, 1) := by decide +kernel
theorem d_end_2 : decode c_M_end 2 = .ok (.ifCond .lt 11, 3) := by decide +kernel
theorem d_end_5 : decode c_M_end 5 = .ok (.iload_n 1, 1) := by decide +kernel
theorem d_end_6 : decode c_M_end 6 = .ok (.aload_n 0, 1) := by decide +kernel
theorem d_end_7 : decode c_M_end 7 = .ok (.getfield 262, 3) := by decide +kernel
theorem d_end_10 : decode c_M_end 10 = .ok (.if_icmp .le 7, 3) := by decide +kernel
theorem d_end_13 : decode c_M_end 13 = .ok (.iconst 1, 1) := by decide +kernel
theorem d_end_14 : decode c_M_end 14 = .ok (.goto 4, 3) := by decide +kernel
theorem d_end_17 : decode c_M_end 17 = .ok (.iconst 0, 1) := by decide +kernel
theorem d_end_18 : decode c_M_end 18 = .ok (.putfield 146, 3) := by decide +kernel
theorem d_end_21 : decode c_M_end 21 = .ok (.aload_n 0, 1) := by decide +kernel
theorem d_end_22 : decode c_M_end 22 = .ok (.aload_n 0, 1) := by decide +kernel
theorem d_end_23 : decode c_M_end 23 = .ok (.getfield 146, 3) := by decide +kernel
theorem d_end_26 : decode c_M_end 26 = .ok (.ifCond .le 10, 3) := by decide +kernel
theorem d_end_29 : decode c_M_end 29 = .ok (.aload_n 0, 1) := by decide +kernel
theorem d_end_30 : decode c_M_end 30 = .ok (.getfield 262, 3) := by decide +kernel
theorem d_end_33 : decode c_M_end 33 = .ok (.goto 4, 3) := by decide +kernel
theorem d_end_36 : decode c_M_end 36 = .ok (.iload_n 1, 1) := by decide +kernel
theorem d_end_37 : decode c_M_end 37 = .ok (.putfield 262, 3) := by decide +kernel
theorem d_end_40 : decode c_M_end 40 = .ok (.return_, 1) := by decide +kernel
theorem d_change_0 : decode c_M_change 0 = .ok (.aload_n 0, 1) := by decide +kernel
theorem d_change_1 : decode c_M_change 1 = .ok (.iload_n 1, 1) := by decide +kernel
theorem d_change_2 : decode c_M_change 2 = .ok (.ifCond .lt 11, 3) := by decide +kernel
theorem d_change_5 : decode c_M_change 5 = .ok (.iload_n 1, 1) := by decide +kernel
theorem d_change_6 : decode c_M_change 6 = .ok (.aload_n 0, 1) := by decide +kernel
theorem d_change_7 : decode c_M_change 7 = .ok (.getfield 262, 3) := by decide +kernel
theorem d_change_10 : decode c_M_change 10 = .ok (.if_icmp .lt 7, 3) := by decide +kernel
theorem d_change_13 : decode c_M_change 13 = .ok (.iconst 1, 1) := by decide +kernel
theorem d_change_14 : decode c_M_change 14 = .ok (.goto 19, 3) := by decide +kernel
theorem d_change_17 : decode c_M_change 17 = .ok (.iload_n 2, 1) := by decide +kernel
theorem d_change_18 : decode c_M_change 18 = .ok (.ifCond .lt 10, 3) := by decide +kernel
theorem d_change_21 : decode c_M_change 21 = .ok (.iload_n 2, 1) := by decide +kernel
theorem d_change_22 : decode c_M_change 22 = .ok (.sipush 255, 3) := by decide +kernel
theorem d_change_25 : decode c_M_change 25 = .ok (.if_icmp .le 7, 3) := by decide +kernel
theorem d_change_28 : decode c_M_change 28 = .ok (.iconst 2, 1) := by decide +kernel
theorem d_change_29 : decode c_M_change 29 = .ok (.goto 4, 3) := by decide +kernel
theorem d_change_32 : decode c_M_change 32 = .ok (.iconst 0, 1) := by decide +kernel
theorem d_change_33 : decode c_M_change 33 = .ok (.putfield 146, 3) := by decide +kernel
theorem d_change_36 : decode c_M_change 36 = .ok (.aload_n 0, 1) := by decide +kernel
theorem d_change_37 : decode c_M_change 37 = .ok (.getfield 146, 3) := by decide +kernel
theorem d_change_40 : decode c_M_change 40 = .ok (.ifCond .le 5, 3) := by decide +kernel
theorem d_change_43 : decode c_M_change 43 = .ok (.iconst 0, 1) := by decide +kernel
theorem d_change_44 : decode c_M_change 44 = .ok (.ireturn, 1) := by decide +kernel
theorem d_change_45 : decode c_M_change 45 = .ok (.aload_n 0, 1) := by decide +kernel
theorem d_change_46 : decode c_M_change 46 = .ok (.getfield 27, 3) := by decide +kernel
theorem d_change_49 : decode c_M_change 49 = .ok (.iload_n 1, 1) := by decide +kernel
theorem d_change_50 : decode c_M_change 50 = .ok (.aload_n 0, 1) := by decide +kernel
theorem d_change_51 : decode c_M_change 51 = .ok (.getfield 27, 3) := by decide +kernel
theorem d_change_54 : decode c_M_change 54 = .ok (.iload_n 1, 1) := by decide +kernel
theorem d_change_55 : decode c_M_change 55 = .ok (.iaload, 1) := by decide +kernel
theorem d_change_56 : decode c_M_change 56 = .ok (.iload_n 2, 1) := by decide +kernel
theorem d_change_57 : decode c_M_change 57 = .ok (.ixor, 1) := by decide +kernel
theorem d_change_58 : decode c_M_change 58 = .ok (.iastore, 1) := by decide +kernel
theorem d_change_59 : decode c_M_change 59 = .ok (.aload_n 0, 1) := by decide +kernel
theorem d_change_60 : decode c_M_change 60 = .ok (.getfield 27, 3) := by decide +kernel
theorem d_change_63 : decode c_M_change 63 = .ok (.iload_n 1, 1) := by decide +kernel
theorem d_change_64 : decode c_M_change 64 = .ok (.iaload, 1) := by decide +kernel
theorem d_change_65 : decode c_M_change 65 = .ok (.ireturn, 1) := by decide +kernel
theorem d_turn2_0 : decode c_M_turn2 0 = .ok (.aload_n 0, 1) := by decide +kernel
theorem d_turn2_1 : decode c_M_turn2 1 = .ok (.aload_n 0, 1) := by decide +kernel
theorem d_turn2_2 : decode c_M_turn2 2 = .ok (.getfield 197, 3) := by decide +kernel
theorem d_turn2_5 : decode c_M_turn2 5 = .ok (.ldc 26, 2) := by decide +kernel
theorem d_turn2_7 : decode c_M_turn2 7 = .ok (.if_icmp .le 7, 3) := by decide +kernel
theorem d_turn2_10 : decode c_M_turn2 10 = .ok (.iconst 1, 1) := by decide +kernel
theorem d_turn2_11 : decode c_M_turn2 11 = .ok (.goto 4, 3) := by decide +kernel
theorem d_turn2_14 : decode c_M_turn2 14 = .ok (.iconst 0, 1) := by decide +kernel
theorem d_turn2_15 : decode c_M_turn2 15 = .ok (.putfield 146, 3) := by decide +kernel
theorem d_turn2_18 : decode c_M_turn2 18 = .ok (.aload_n 0, 1) := by decide +kernel
theorem d_turn2_19 : decode c_M_turn2 19 = .ok (.getfield 146, 3) := by decide +kernel
theorem d_turn2_22 : decode c_M_turn2 22 = .ok (.ifCond .le 5, 3) := by decide +kernel
theorem d_turn2_25 : decode c_M_turn2 25 = .ok (.iconst 0, 1) := by decide +kernel
theorem d_turn2_26 : decode c_M_turn2 26 = .ok (.ireturn, 1) := by decide +kernel
theorem d_turn2_27 : decode c_M_turn2 27 = .ok (.iconst 0, 1) := by decide +kernel
theorem d_turn2_28 : decode c_M_turn2 28 = .ok (.istore_n 1, 1) := by decide +kernel
theorem d_turn2_29 : decode c_M_turn2 29 = .ok (.iload_n 1, 1) := by decide +kernel
theorem d_turn2_30 : decode c_M_turn2 30 = .ok (.aload_n 0, 1) := by decide +kernel
theorem d_turn2_31 : decode c_M_turn2 31 = .ok (.getfield 197, 3) := by decide +kernel
theorem d_turn2_34 : decode c_M_turn2 34 = .ok (.if_icmp .ge 21, 3) := by decide +kernel
theorem d_turn2_37 : decode c_M_turn2 37 = .ok (.aload_n 0, 1) := by decide +kernel
theorem d_turn2_38 : decode c_M_turn2 38 = .ok (.getfield 27, 3) := by decide +kernel
theorem d_turn2_41 : decode c_M_turn2 41 = .ok (.iload_n 1, 1) := by decide +kernel
theorem d_turn2_42 : decode c_M_turn2 42 = .ok (.aload_n 0, 1) := by decide +kernel
theorem d_turn2_43 : decode c_M_turn2 43 = .ok (.getfield 31, 3) := by decide +kernel
theorem d_turn2_46 : decode c_M_turn2 46 = .ok (.iload_n 1, 1) := by decide +kernel
theorem d_turn2_47 : decode c_M_turn2 47 = .ok (.iaload, 1) := by decide +kernel
theorem d_turn2_48 : decode c_M_turn2 48 = .ok (.iastore, 1) := by decide +kernel
theorem d_turn2_49 : decode c_M_turn2 49 = .ok (.iinc 1 1, 3) := by decide +kernel
theorem d_turn2_52 : decode c_M_turn2 52 = .ok (.goto (-23), 3) := by decide +kernel
theorem d_turn2_55 : decode c_M_turn2 55 = .ok (.aload_n 0, 1) := by decide +kernel
theorem d_turn2_56 : decode c_M_turn2 56 = .ok (.aload_n 0, 1) := by decide +kernel
theorem d_turn2_57 : decode c_M_turn2 57 = .ok (.getfield 197, 3) := by decide +kernel
theorem d_turn2_60 : decode c_M_turn2 60 = .ok (.putfield 262, 3) := by decide +kernel
theorem d_turn2_63 : decode c_M_turn2 63 = .ok (.aload_n 0, 1) := by decide +kernel
theorem d_turn2_64 : decode c_M_turn2 64 = .ok (.getfield 262, 3) := by decide +kernel
theorem d_turn2_67 : decode c_M_turn2 67 = .ok (.ireturn, 1) := by decide +kernel
theorem d_fail_0 : decode c_M_fail 0 = .ok (.aload_n 0, 1) := by decide +kernel
theorem d_fail_1 : decode c_M_fail 1 = .ok (.getfield 265, 3) := by decide +kernel
theorem d_fail_4 : decode c_M_fail 4 = .ok (.ifCond .ne 13, 3) := by decide +kernel
theorem d_fail_7 : decode c_M_fail 7 = .ok (.aload_n 0, 1) := by decide +kernel
theorem d_fail_8 : decode c_M_fail 8 = .ok (.iload_n 1, 1) := by decide +kernel
theorem d_fail_9 : decode c_M_fail 9 = .ok (.putfield 265, 3) := by decide +kernel
theorem d_fail_12 : decode c_M_fail 12 = .ok (.aload_n 0, 1) := by decide +kernel
theorem d_fail_13 : decode c_M_fail 13 = .ok (.iload_n 2, 1) := by decide +kernel
theorem d_fail_14 : decode c_M_fail 14 = .ok (.putfield 34, 3) := by decide +kernel
theorem d_fail_17 : decode c_M_fail 17 = .ok (.iconst 0, 1) := by decide +kernel
theorem d_fail_18 : decode c_M_fail 18 = .ok (.ireturn, 1) := by decide +kernel
theorem d_next_0 : decode c_M_next 0 = .ok (.aload_n 0, 1) := by decide +kernel
theorem d_next_1 : decode c_M_next 1 = .ok (.getfield 268, 3) := by decide +kernel
theorem d_next_4 : decode c_M_next 4 = .ok (.aload_n 0, 1) := by decide +kernel
theorem d_next_5 : decode c_M_next 5 = .ok (.getfield 262, 3) := by decide +kernel
theorem d_next_8 : decode c_M_next 8 = .ok (.if_icmp .lt 15, 3) := by decide +kernel
theorem d_next_11 : decode c_M_next 11 = .ok (.aload_n 0, 1) := by decide +kernel
theorem d_next_12 : decode c_M_next 12 = .ok (.iconst 1, 1) := by decide +kernel
theorem d_next_13 : decode c_M_next 13 = .ok (.aload_n 0, 1) := by decide +kernel
theorem d_next_14 : decode c_M_next 14 = .ok (.getfield 262, 3) := by decide +kernel
theorem d_next_17 : decode c_M_next 17 = .ok (.invokevirtual 271, 3) := by decide +kernel
theorem d_next_20 : decode c_M_next 20 = .ok (.istore_n 1, 1) := by decide +kernel
theorem d_next_21 : decode c_M_next 21 = .ok (.iconst 0, 1) := by decide +kernel
theorem d_next_22 : decode c_M_next 22 = .ok (.ireturn, 1) := by decide +kernel
theorem d_next_23 : decode c_M_next 23 = .ok (.aload_n 0, 1) := by decide +kernel
theorem d_next_24 : decode c_M_next 24 = .ok (.dup, 1) := by decide +kernel
theorem d_next_25 : decode c_M_next 25 = .ok (.getfield 268, 3) := by decide +kernel
theorem d_next_28 : decode c_M_next 28 = .ok (.iconst 1, 1) := by decide +kernel
theorem d_next_29 : decode c_M_next 29 = .ok (.iadd, 1) := by decide +kernel
theorem d_next_30 : decode c_M_next 30 = .ok (.putfield 268, 3) := by decide +kernel
theorem d_next_33 : decode c_M_next 33 = .ok (.aload_n 0, 1) := by decide +kernel
theorem d_next_34 : decode c_M_next 34 = .ok (.getfield 27, 3) := by decide +kernel
theorem d_next_37 : decode c_M_next 37 = .ok (.aload_n 0, 1) := by decide +kernel
theorem d_next_38 : decode c_M_next 38 = .ok (.getfield 268, 3) := by decide +kernel
theorem d_next_41 : decode c_M_next 41 = .ok (.iconst 1, 1) := by decide +kernel
theorem d_next_42 : decode c_M_next 42 = .ok (.isub, 1) := by decide +kernel
theorem d_next_43 : decode c_M_next 43 = .ok (.iaload, 1) := by decide +kernel
theorem d_next_44 : decode c_M_next 44 = .ok (.ireturn, 1) := by decide +kernel
theorem d_nextWithin_0 : decode c_M_nextWithin 0 = .ok (.aload_n 0, 1) := by decide +kernel
theorem d_nextWithin_1 : decode c_M_nextWithin 1 = .ok (.getfield 268, 3) := by decide +kernel
theorem d_nextWithin_4 : decode c_M_nextWithin 4 = .ok (.aload_n 0, 1) := by decide +kernel
theorem d_nextWithin_5 : decode c_M_nextWithin 5 = .ok (.getfield 275, 3) := by decide +kernel
theorem d_nextWithin_8 : decode c_M_nextWithin 8 = .ok (.if_icmp .lt 15, 3) := by decide +kernel
theorem d_nextWithin_11 : decode c_M_nextWithin 11 = .ok (.aload_n 0, 1) := by decide +kernel
theorem d_nextWithin_12 : decode c_M_nextWithin 12 = .ok (.iconst 4, 1) := by decide +kernel
theorem d_nextWithin_13 : decode c_M_nextWithin 13 = .ok (.aload_n 0, 1) := by decide +kernel
theorem d_nextWithin_14 : decode c_M_nextWithin 14 = .ok (.getfield 278, 3) := by decide +kernel
theorem d_nextWithin_17 : decode c_M_nextWithin 17 = .ok (.invokevirtual 271, 3) := by decide +kernel
theorem d_nextWithin_20 : decode c_M_nextWithin 20 = .ok (.istore_n 1, 1) := by decide +kernel
theorem d_nextWithin_21 : decode c_M_nextWithin 21 = .ok (.iconst 0, 1) := by decide +kernel
theorem d_nextWithin_22 : decode c_M_nextWithin 22 = .ok (.ireturn, 1) := by decide +kernel
theorem d_nextWithin_23 : decode c_M_nextWithin 23 = .ok (.aload_n 0, 1) := by decide +kernel
theorem d_nextWithin_24 : decode c_M_nextWithin 24 = .ok (.invokevirtual 281, 3) := by decide +kernel
theorem d_nextWithin_27 : decode c_M_nextWithin 27 = .ok (.ireturn, 1) := by decide +kernel
theorem d_readMark_0 : decode c_M_readMark 0 = .ok (.aload_n 0, 1) := by decide +kernel
theorem d_readMark_1 : decode c_M_readMark 1 = .ok (.getfield 268, 3) := by decide +kernel
theorem d_readMark_4 : decode c_M_readMark 4 = .ok (.istore_n 1, 1) := by decide +kernel
theorem d_readMark_5 : decode c_M_readMark 5 = .ok (.aload_n 0, 1) := by decide +kernel
theorem d_readMark_6 : decode c_M_readMark 6 = .ok (.invokevirtual 281, 3) := by decide +kernel
theorem d_readMark_9 : decode c_M_readMark 9 = .ok (.istore_n 2, 1) := by decide +kernel
theorem d_readMark_10 : decode c_M_readMark 10 = .ok (.aload_n 0, 1) := by decide +kernel
theorem d_readMark_11 : decode c_M_readMark 11 = .ok (.getfield 265, 3) := by decide +kernel
theorem d_readMark_14 : decode c_M_readMark 14 = .ok (.ifCond .ne 17, 3) := by decide +kernel
theorem d_readMark_17 : decode c_M_readMark 17 = .ok (.iload_n 2, 1) := by decide +kernel
theorem d_readMark_18 : decode c_M_readMark 18 = .ok (.sipush 255, 3) := by decide +kernel
theorem d_readMark_21 : decode c_M_readMark 21 = .ok (.if_icmp .eq 10, 3) := by decide +kernel
theorem d_readMark_24 : decode c_M_readMark 24 = .ok (.aload_n 0, 1) := by decide +kernel
theorem d_readMark_25 : decode c_M_readMark 25 = .ok (.iconst 2, 1) := by decide +kernel
theorem d_readMark_26 : decode c_M_readMark 26 = .ok (.iload_n 1, 1) := by decide +kernel
theorem d_readMark_27 : decode c_M_readMark 27 = .ok (.invokevirtual 271, 3) := by decide +kernel
theorem d_readMark_30 : decode c_M_readMark 30 = .ok (.istore_n 3, 1) := by decide +kernel
theorem d_readMark_31 : decode c_M_readMark 31 = .ok (.aload_n 0, 1) := by decide +kernel
theorem d_readMark_32 : decode c_M_readMark 32 = .ok (.getfield 265, 3) := by decide +kernel
theorem d_readMark_35 : decode c_M_readMark 35 = .ok (.ifCond .ne 18, 3) := by decide +kernel
theorem d_readMark_38 : decode c_M_readMark 38 = .ok (.iload_n 2, 1) := by decide +kernel
theorem d_readMark_39 : decode c_M_readMark 39 = .ok (.sipush 255, 3) := by decide +kernel
theorem d_readMark_42 : decode c_M_readMark 42 = .ok (.if_icmp .ne 11, 3) := by decide +kernel
theorem d_readMark_45 : decode c_M_readMark 45 = .ok (.aload_n 0, 1) := by decide +kernel
theorem d_readMark_46 : decode c_M_readMark 46 = .ok (.invokevirtual 281, 3) := by decide +kernel
theorem d_readMark_49 : decode c_M_readMark 49 = .ok (.istore_n 2, 1) := by decide +kernel
theorem d_readMark_50 : decode c_M_readMark 50 = .ok (.goto (-19), 3) := by decide +kernel
theorem d_readMark_53 : decode c_M_readMark 53 = .ok (.iload_n 2, 1) := by decide +kernel
theorem d_readMark_54 : decode c_M_readMark 54 = .ok (.ireturn, 1) := by decide +kernel
theorem d_nextTwo_0 : decode c_M_nextTwo 0 = .ok (.aload_n 0, 1) := by decide +kernel
theorem d_nextTwo_1 : decode c_M_nextTwo 1 = .ok (.invokevirtual 281, 3) := by decide +kernel
theorem d_nextTwo_4 : decode c_M_nextTwo 4 = .ok (.istore_n 1, 1) := by decide +kernel
theorem d_nextTwo_5 : decode c_M_nextTwo 5 = .ok (.aload_n 0, 1) := by decide +kernel
theorem d_nextTwo_6 : decode c_M_nextTwo 6 = .ok (.invokevirtual 281, 3) := by decide +kernel
theorem d_nextTwo_9 : decode c_M_nextTwo 9 = .ok (.istore_n 2, 1) := by decide +kernel
theorem d_nextTwo_10 : decode c_M_nextTwo 10 = .ok (.sipush 256, 3) := by decide +kernel
theorem d_nextTwo_13 : decode c_M_nextTwo 13 = .ok (.iload_n 1, 1) := by decide +kernel
theorem d_nextTwo_14 : decode c_M_nextTwo 14 = .ok (.imul, 1) := by decide +kernel
theorem d_nextTwo_15 : decode c_M_nextTwo 15 = .ok (.iload_n 2, 1) := by decide +kernel
theorem d_nextTwo_16 : decode c_M_nextTwo 16 = .ok (.iadd, 1) := by decide +kernel
theorem d_nextTwo_17 : decode c_M_nextTwo 17 = .ok (.ireturn, 1) := by decide +kernel
theorem d_readLength_0 : decode c_M_readLength 0 = .ok (.aload_n 0, 1) := by decide +kernel
theorem d_readLength_1 : decode c_M_readLength 1 = .ok (.aload_n 0, 1) := by decide +kernel
theorem d_readLength_2 : decode c_M_readLength 2 = .ok (.getfield 268, 3) := by decide +kernel
theorem d_readLength_5 : decode c_M_readLength 5 = .ok (.putfield 278, 3) := by decide +kernel
theorem d_readLength_8 : decode c_M_readLength 8 = .ok (.aload_n 0, 1) := by decide +kernel
theorem d_readLength_9 : decode c_M_readLength 9 = .ok (.invokevirtual 285, 3) := by decide +kernel
theorem d_readLength_12 : decode c_M_readLength 12 = .ok (.istore_n 1, 1) := by decide +kernel
theorem d_readLength_13 : decode c_M_readLength 13 = .ok (.aload_n 0, 1) := by decide +kernel
theorem d_readLength_14 : decode c_M_readLength 14 = .ok (.aload_n 0, 1) := by decide +kernel
theorem d_readLength_15 : decode c_M_readLength 15 = .ok (.getfield 278, 3) := by decide +kernel
theorem d_readLength_18 : decode c_M_readLength 18 = .ok (.iload_n 1, 1) := by decide +kernel
theorem d_readLength_19 : decode c_M_readLength 19 = .ok (.iadd, 1) := by decide +kernel
theorem d_readLength_20 : decode c_M_readLength 20 = .ok (.putfield 275, 3) := by decide +kernel
theorem d_readLength_23 : decode c_M_readLength 23 = .ok (.aload_n 0, 1) := by decide +kernel
theorem d_readLength_24 : decode c_M_readLength 24 = .ok (.getfield 265, 3) := by decide +kernel
theorem d_readLength_27 : decode c_M_readLength 27 = .ok (.ifCond .ne 18, 3) := by decide +kernel
theorem d_readLength_30 : decode c_M_readLength 30 = .ok (.iload_n 1, 1) := by decide +kernel
theorem d_readLength_31 : decode c_M_readLength 31 = .ok (.iconst 2, 1) := by decide +kernel
theorem d_readLength_32 : decode c_M_readLength 32 = .ok (.if_icmp .ge 13, 3) := by decide +kernel
theorem d_readLength_35 : decode c_M_readLength 35 = .ok (.aload_n 0, 1) := by decide +kernel
theorem d_readLength_36 : decode c_M_readLength 36 = .ok (.iconst 4, 1) := by decide +kernel
theorem d_readLength_37 : decode c_M_readLength 37 = .ok (.aload_n 0, 1) := by decide +kernel
theorem d_readLength_38 : decode c_M_readLength 38 = .ok (.getfield 278, 3) := by decide +kernel
theorem d_readLength_41 : decode c_M_readLength 41 = .ok (.invokevirtual 271, 3) := by decide +kernel
theorem d_readLength_44 : decode c_M_readLength 44 = .ok (.istore_n 2, 1) := by decide +kernel
theorem d_readLength_45 : decode c_M_readLength 45 = .ok (.return_, 1) := by decide +kernel
theorem d_must_0 : decode c_M_must 0 = .ok (.aload_n 0, 1) := by decide +kernel
theorem d_must_1 : decode c_M_must 1 = .ok (.getfield 265, 3) := by decide +kernel
theorem d_must_4 : decode c_M_must 4 = .ok (.ifCond .ne 14, 3) := by decide +kernel
theorem d_must_7 : decode c_M_must 7 = .ok (.iload_n 1, 1) := by decide +kernel
theorem d_must_8 : decode c_M_must 8 = .ok (.ifCond .ne 10, 3) := by decide +kernel
theorem d_must_11 : decode c_M_must 11 = .ok (.aload_n 0, 1) := by decide +kernel
theorem d_must_12 : decode c_M_must 12 = .ok (.iconst 5, 1) := by decide +kernel
theorem d_must_13 : decode c_M_must 13 = .ok (.iload_n 2, 1) := by decide +kernel
theorem d_must_14 : decode c_M_must 14 = .ok (.invokevirtual 271, 3) := by decide +kernel
theorem d_must_17 : decode c_M_must 17 = .ok (.istore_n 3, 1) := by decide +kernel
theorem d_must_18 : decode c_M_must 18 = .ok (.return_, 1) := by decide +kernel
theorem d_readTables_0 : decode c_M_readTables 0 = .ok (.iconst 1, 1) := by decide +kernel
theorem d_readTables_1 : decode c_M_readTables 1 = .ok (.istore_n 1, 1) := by decide +kernel
theorem d_readTables_2 : decode c_M_readTables 2 = .ok (.iload_n 1, 1) := by decide +kernel
theorem d_readTables_3 : decode c_M_readTables 3 = .ok (.ifCond .eq 141, 3) := by decide +kernel
theorem d_readTables_6 : decode c_M_readTables 6 = .ok (.aload_n 0, 1) := by decide +kernel
theorem d_readTables_7 : decode c_M_readTables 7 = .ok (.getfield 265, 3) := by decide +kernel
theorem d_readTables_10 : decode c_M_readTables 10 = .ok (.ifCond .ne 134, 3) := by decide +kernel
theorem d_readTables_13 : decode c_M_readTables 13 = .ok (.aload_n 0, 1) := by decide +kernel
theorem d_readTables_14 : decode c_M_readTables 14 = .ok (.invokevirtual 288, 3) := by decide +kernel
theorem d_readTables_17 : decode c_M_readTables 17 = .ok (.istore_n 2, 1) := by decide +kernel
theorem d_readTables_18 : decode c_M_readTables 18 = .ok (.aload_n 0, 1) := by decide +kernel
theorem d_readTables_19 : decode c_M_readTables 19 = .ok (.iload_n 2, 1) := by decide +kernel
theorem d_readTables_20 : decode c_M_readTables 20 = .ok (.iconst 4, 1) := by decide +kernel
theorem d_readTables_21 : decode c_M_readTables 21 = .ok (.if_icmp .ge 7, 3) := by decide +kernel
theorem d_readTables_24 : decode c_M_readTables 24 = .ok (.iconst 1, 1) := by decide +kernel
theorem d_readTables_25 : decode c_M_readTables 25 = .ok (.goto 4, 3) := by decide +kernel
theorem d_readTables_28 : decode c_M_readTables 28 = .ok (.iconst 0, 1) := by decide +kernel
theorem d_readTables_29 : decode c_M_readTables 29 = .ok (.aload_n 0, 1) := by decide +kernel
theorem d_readTables_30 : decode c_M_readTables 30 = .ok (.getfield 268, 3) := by decide +kernel
theorem d_readTables_33 : decode c_M_readTables 33 = .ok (.iconst 1, 1) := by decide +kernel
theorem d_readTables_34 : decode c_M_readTables 34 = .ok (.isub, 1) := by decide +kernel
theorem d_readTables_35 : decode c_M_readTables 35 = .ok (.invokevirtual 291, 3) := by decide +kernel
theorem d_readTables_38 : decode c_M_readTables 38 = .ok (.iconst 0, 1) := by decide +kernel
theorem d_readTables_39 : decode c_M_readTables 39 = .ok (.istore_n 3, 1) := by decide +kernel
theorem d_readTables_40 : decode c_M_readTables 40 = .ok (.iload_n 3, 1) := by decide +kernel
theorem d_readTables_41 : decode c_M_readTables 41 = .ok (.bipush 64, 2) := by decide +kernel
theorem d_readTables_43 : decode c_M_readTables 43 = .ok (.if_icmp .ge 67, 3) := by decide +kernel
theorem d_readTables_46 : decode c_M_readTables 46 = .ok (.aload_n 0, 1) := by decide +kernel
theorem d_readTables_47 : decode c_M_readTables 47 = .ok (.getfield 265, 3) := by decide +kernel
theorem d_readTables_50 : decode c_M_readTables 50 = .ok (.ifCond .ne 60, 3) := by decide +kernel
theorem d_readTables_53 : decode c_M_readTables 53 = .ok (.aload_n 0, 1) := by decide +kernel
theorem d_readTables_54 : decode c_M_readTables 54 = .ok (.invokevirtual 288, 3) := by decide +kernel
theorem d_readTables_57 : decode c_M_readTables 57 = .ok (.istore 4, 2) := by decide +kernel
theorem d_readTables_59 : decode c_M_readTables 59 = .ok (.aload_n 0, 1) := by decide +kernel
theorem d_readTables_60 : decode c_M_readTables 60 = .ok (.iload 4, 2) := by decide +kernel
theorem d_readTables_62 : decode c_M_readTables 62 = .ok (.ifCond .le 7, 3) := by decide +kernel
theorem d_readTables_65 : decode c_M_readTables 65 = .ok (.iconst 1, 1) := by decide +kernel
theorem d_readTables_66 : decode c_M_readTables 66 = .ok (.goto 4, 3) := by decide +kernel
theorem d_readTables_69 : decode c_M_readTables 69 = .ok (.iconst 0, 1) := by decide +kernel
theorem d_readTables_70 : decode c_M_readTables 70 = .ok (.aload_n 0, 1) := by decide +kernel
theorem d_readTables_71 : decode c_M_readTables 71 = .ok (.getfield 268, 3) := by decide +kernel
theorem d_readTables_74 : decode c_M_readTables 74 = .ok (.iconst 1, 1) := by decide +kernel
theorem d_readTables_75 : decode c_M_readTables 75 = .ok (.isub, 1) := by decide +kernel
theorem d_readTables_76 : decode c_M_readTables 76 = .ok (.invokevirtual 291, 3) := by decide +kernel
theorem d_readTables_79 : decode c_M_readTables 79 = .ok (.aload_n 0, 1) := by decide +kernel
theorem d_readTables_80 : decode c_M_readTables 80 = .ok (.getfield 265, 3) := by decide +kernel
theorem d_readTables_83 : decode c_M_readTables 83 = .ok (.ifCond .ne 21, 3) := by decide +kernel
theorem d_readTables_86 : decode c_M_readTables 86 = .ok (.aload_n 0, 1) := by decide +kernel
theorem d_readTables_87 : decode c_M_readTables 87 = .ok (.getfield 103, 3) := by decide +kernel
theorem d_readTables_90 : decode c_M_readTables 90 = .ok (.bipush 64, 2) := by decide +kernel
theorem d_readTables_92 : decode c_M_readTables 92 = .ok (.iload_n 2, 1) := by decide +kernel
theorem d_readTables_93 : decode c_M_readTables 93 = .ok (.imul, 1) := by decide +kernel
theorem d_readTables_94 : decode c_M_readTables 94 = .ok (.aload_n 0, 1) := by decide +kernel
theorem d_readTables_95 : decode c_M_readTables 95 = .ok (.getfield 72, 3) := by decide +kernel
theorem d_readTables_98 : decode c_M_readTables 98 = .ok (.iload_n 3, 1) := by decide +kernel
theorem d_readTables_99 : decode c_M_readTables 99 = .ok (.iaload, 1) := by decide +kernel
theorem d_readTables_100 : decode c_M_readTables 100 = .ok (.iadd, 1) := by decide +kernel
theorem d_readTables_101 : decode c_M_readTables 101 = .ok (.iload 4, 2) := by decide +kernel
theorem d_readTables_103 : decode c_M_readTables 103 = .ok (.iastore, 1) := by decide +kernel
theorem d_readTables_104 : decode c_M_readTables 104 = .ok (.iinc 3 1, 3) := by decide +kernel
theorem d_readTables_107 : decode c_M_readTables 107 = .ok (.goto (-67), 3) := by decide +kernel
theorem d_readTables_110 : decode c_M_readTables 110 = .ok (.aload_n 0, 1) := by decide +kernel
theorem d_readTables_111 : decode c_M_readTables 111 = .ok (.getfield 265, 3) := by decide +kernel
theorem d_readTables_114 : decode c_M_readTables 114 = .ok (.ifCond .ne 10, 3) := by decide +kernel
theorem d_readTables_117 : decode c_M_readTables 117 = .ok (.aload_n 0, 1) := by decide +kernel
theorem d_readTables_118 : decode c_M_readTables 118 = .ok (.getfield 106, 3) := by decide +kernel
theorem d_readTables_121 : decode c_M_readTables 121 = .ok (.iload_n 2, 1) := by decide +kernel
theorem d_readTables_122 : decode c_M_readTables 122 = .ok (.iconst 1, 1) := by decide +kernel
theorem d_readTables_123 : decode c_M_readTables 123 = .ok (.bastore, 1) := by decide +kernel
theorem d_readTables_124 : decode c_M_readTables 124 = .ok (.aload_n 0, 1) := by decide +kernel
theorem d_readTables_125 : decode c_M_readTables 125 = .ok (.getfield 268, 3) := by decide +kernel
theorem d_readTables_128 : decode c_M_readTables 128 = .ok (.aload_n 0, 1) := by decide +kernel
theorem d_readTables_129 : decode c_M_readTables 129 = .ok (.getfield 275, 3) := by decide +kernel
theorem d_readTables_132 : decode c_M_readTables 132 = .ok (.if_icmp .ge 7, 3) := by decide +kernel
theorem d_readTables_135 : decode c_M_readTables 135 = .ok (.iconst 1, 1) := by decide +kernel
theorem d_readTables_136 : decode c_M_readTables 136 = .ok (.goto 4, 3) := by decide +kernel
theorem d_readTables_139 : decode c_M_readTables 139 = .ok (.iconst 0, 1) := by decide +kernel
theorem d_readTables_140 : decode c_M_readTables 140 = .ok (.istore_n 1, 1) := by decide +kernel
theorem d_readTables_141 : decode c_M_readTables 141 = .ok (.goto (-139), 3) := by decide +kernel
theorem d_readTables_144 : decode c_M_readTables 144 = .ok (.return_, 1) := by decide +kernel
theorem d_readCodes_0 : decode c_M_readCodes 0 = .ok (.iconst 1, 1) := by decide +kernel
theorem d_readCodes_1 : decode c_M_readCodes 1 = .ok (.istore_n 1, 1) := by decide +kernel
theorem d_readCodes_2 : decode c_M_readCodes 2 = .ok (.iload_n 1, 1) := by decide +kernel
theorem d_readCodes_3 : decode c_M_readCodes 3 = .ok (.ifCond .eq 359, 3) := by decide +kernel
theorem d_readCodes_6 : decode c_M_readCodes 6 = .ok (.aload_n 0, 1) := by decide +kernel
theorem d_readCodes_7 : decode c_M_readCodes 7 = .ok (.getfield 265, 3) := by decide +kernel
theorem d_readCodes_10 : decode c_M_readCodes 10 = .ok (.ifCond .ne 352, 3) := by decide +kernel
theorem d_readCodes_13 : decode c_M_readCodes 13 = .ok (.aload_n 0, 1) := by decide +kernel
theorem d_readCodes_14 : decode c_M_readCodes 14 = .ok (.invokevirtual 288, 3) := by decide +kernel
theorem d_readCodes_17 : decode c_M_readCodes 17 = .ok (.istore_n 2, 1) := by decide +kernel
theorem d_readCodes_18 : decode c_M_readCodes 18 = .ok (.aload_n 0, 1) := by decide +kernel
theorem d_readCodes_19 : decode c_M_readCodes 19 = .ok (.iload_n 2, 1) := by decide +kernel
theorem d_readCodes_20 : decode c_M_readCodes 20 = .ok (.iconst 2, 1) := by decide +kernel
theorem d_readCodes_21 : decode c_M_readCodes 21 = .ok (.if_icmp .lt 15, 3) := by decide +kernel
theorem d_readCodes_24 : decode c_M_readCodes 24 = .ok (.iload_n 2, 1) := by decide +kernel
theorem d_readCodes_25 : decode c_M_readCodes 25 = .ok (.bipush 16, 2) := by decide +kernel
theorem d_readCodes_27 : decode c_M_readCodes 27 = .ok (.if_icmp .eq 9, 3) := by decide +kernel
theorem d_readCodes_30 : decode c_M_readCodes 30 = .ok (.iload_n 2, 1) := by decide +kernel
theorem d_readCodes_31 : decode c_M_readCodes 31 = .ok (.bipush 17, 2) := by decide +kernel
theorem d_readCodes_33 : decode c_M_readCodes 33 = .ok (.if_icmp .ne 7, 3) := by decide +kernel
theorem d_readCodes_36 : decode c_M_readCodes 36 = .ok (.iconst 1, 1) := by decide +kernel
theorem d_readCodes_37 : decode c_M_readCodes 37 = .ok (.goto 4, 3) := by decide +kernel
theorem d_readCodes_40 : decode c_M_readCodes 40 = .ok (.iconst 0, 1) := by decide +kernel
theorem d_readCodes_41 : decode c_M_readCodes 41 = .ok (.aload_n 0, 1) := by decide +kernel
theorem d_readCodes_42 : decode c_M_readCodes 42 = .ok (.getfield 268, 3) := by decide +kernel
theorem d_readCodes_45 : decode c_M_readCodes 45 = .ok (.iconst 1, 1) := by decide +kernel
theorem d_readCodes_46 : decode c_M_readCodes 46 = .ok (.isub, 1) := by decide +kernel
theorem d_readCodes_47 : decode c_M_readCodes 47 = .ok (.invokevirtual 291, 3) := by decide +kernel
theorem d_readCodes_50 : decode c_M_readCodes 50 = .ok (.iload_n 2, 1) := by decide +kernel
theorem d_readCodes_51 : decode c_M_readCodes 51 = .ok (.iconst 2, 1) := by decide +kernel
theorem d_readCodes_52 : decode c_M_readCodes 52 = .ok (.if_icmp .ge 7, 3) := by decide +kernel
theorem d_readCodes_55 : decode c_M_readCodes 55 = .ok (.iload_n 2, 1) := by decide +kernel
theorem d_readCodes_56 : decode c_M_readCodes 56 = .ok (.goto 7, 3) := by decide +kernel
theorem d_readCodes_59 : decode c_M_readCodes 59 = .ok (.iload_n 2, 1) := by decide +kernel
theorem d_readCodes_60 : decode c_M_readCodes 60 = .ok (.bipush 14, 2) := by decide +kernel
theorem d_readCodes_62 : decode c_M_readCodes 62 = .ok (.isub, 1) := by decide +kernel
theorem d_readCodes_63 : decode c_M_readCodes 63 = .ok (.istore_n 3, 1) := by decide +kernel
theorem d_readCodes_64 : decode c_M_readCodes 64 = .ok (.aload_n 0, 1) := by decide +kernel
theorem d_readCodes_65 : decode c_M_readCodes 65 = .ok (.getfield 268, 3) := by decide +kernel
theorem d_readCodes_68 : decode c_M_readCodes 68 = .ok (.istore 4, 2) := by decide +kernel
theorem d_readCodes_70 : decode c_M_readCodes 70 = .ok (.iconst 0, 1) := by decide +kernel
theorem d_readCodes_71 : decode c_M_readCodes 71 = .ok (.istore 5, 2) := by decide +kernel
theorem d_readCodes_73 : decode c_M_readCodes 73 = .ok (.iconst 0, 1) := by decide +kernel
theorem d_readCodes_74 : decode c_M_readCodes 74 = .ok (.istore 6, 2) := by decide +kernel
theorem d_readCodes_76 : decode c_M_readCodes 76 = .ok (.iconst 1, 1) := by decide +kernel
theorem d_readCodes_77 : decode c_M_readCodes 77 = .ok (.istore 7, 2) := by decide +kernel
theorem d_readCodes_79 : decode c_M_readCodes 79 = .ok (.iconst 0, 1) := by decide +kernel
theorem d_readCodes_80 : decode c_M_readCodes 80 = .ok (.istore 8, 2) := by decide +kernel
theorem d_readCodes_82 : decode c_M_readCodes 82 = .ok (.iload 8, 2) := by decide +kernel
theorem d_readCodes_84 : decode c_M_readCodes 84 = .ok (.bipush 16, 2) := by decide +kernel
theorem d_readCodes_86 : decode c_M_readCodes 86 = .ok (.if_icmp .ge 100, 3) := by decide +kernel
theorem d_readCodes_89 : decode c_M_readCodes 89 = .ok (.aload_n 0, 1) := by decide +kernel
theorem d_readCodes_90 : decode c_M_readCodes 90 = .ok (.getfield 265, 3) := by decide +kernel
theorem d_readCodes_93 : decode c_M_readCodes 93 = .ok (.ifCond .ne 93, 3) := by decide +kernel
theorem d_readCodes_96 : decode c_M_readCodes 96 = .ok (.aload_n 0, 1) := by decide +kernel
theorem d_readCodes_97 : decode c_M_readCodes 97 = .ok (.invokevirtual 288, 3) := by decide +kernel
theorem d_readCodes_100 : decode c_M_readCodes 100 = .ok (.istore 9, 2) := by decide +kernel
theorem d_readCodes_102 : decode c_M_readCodes 102 = .ok (.aload_n 0, 1) := by decide +kernel
theorem d_readCodes_103 : decode c_M_readCodes 103 = .ok (.getfield 265, 3) := by decide +kernel
theorem d_readCodes_106 : decode c_M_readCodes 106 = .ok (.ifCond .ne 74, 3) := by decide +kernel
theorem d_readCodes_109 : decode c_M_readCodes 109 = .ok (.aload_n 0, 1) := by decide +kernel
theorem d_readCodes_110 : decode c_M_readCodes 110 = .ok (.getfield 109, 3) := by decide +kernel
theorem d_readCodes_113 : decode c_M_readCodes 113 = .ok (.bipush 16, 2) := by decide +kernel
theorem d_readCodes_115 : decode c_M_readCodes 115 = .ok (.iload_n 3, 1) := by decide +kernel
theorem d_readCodes_116 : decode c_M_readCodes 116 = .ok (.imul, 1) := by decide +kernel
theorem d_readCodes_117 : decode c_M_readCodes 117 = .ok (.iload 8, 2) := by decide +kernel
theorem d_readCodes_119 : decode c_M_readCodes 119 = .ok (.iadd, 1) := by decide +kernel
theorem d_readCodes_120 : decode c_M_readCodes 120 = .ok (.iload 9, 2) := by decide +kernel
theorem d_readCodes_122 : decode c_M_readCodes 122 = .ok (.iastore, 1) := by decide +kernel
theorem d_readCodes_123 : decode c_M_readCodes 123 = .ok (.iload 5, 2) := by decide +kernel
theorem d_readCodes_125 : decode c_M_readCodes 125 = .ok (.iload 9, 2) := by decide +kernel
theorem d_readCodes_127 : decode c_M_readCodes 127 = .ok (.iadd, 1) := by decide +kernel
theorem d_readCodes_128 : decode c_M_readCodes 128 = .ok (.istore 5, 2) := by decide +kernel
theorem d_readCodes_130 : decode c_M_readCodes 130 = .ok (.iconst 2, 1) := by decide +kernel
theorem d_readCodes_131 : decode c_M_readCodes 131 = .ok (.iload 6, 2) := by decide +kernel
theorem d_readCodes_133 : decode c_M_readCodes 133 = .ok (.imul, 1) := by decide +kernel
theorem d_readCodes_134 : decode c_M_readCodes 134 = .ok (.iload 9, 2) := by decide +kernel
theorem d_readCodes_136 : decode c_M_readCodes 136 = .ok (.iadd, 1) := by decide +kernel
theorem d_readCodes_137 : decode c_M_readCodes 137 = .ok (.istore 6, 2) := by decide +kernel
theorem d_readCodes_139 : decode c_M_readCodes 139 = .ok (.iload 7, 2) := by decide +kernel
theorem d_readCodes_141 : decode c_M_readCodes 141 = .ok (.ifCond .eq 18, 3) := by decide +kernel
theorem d_readCodes_144 : decode c_M_readCodes 144 = .ok (.iload 6, 2) := by decide +kernel
theorem d_readCodes_146 : decode c_M_readCodes 146 = .ok (.iconst 1, 1) := by decide +kernel
theorem d_readCodes_147 : decode c_M_readCodes 147 = .ok (.iload 8, 2) := by decide +kernel
theorem d_readCodes_149 : decode c_M_readCodes 149 = .ok (.iconst 1, 1) := by decide +kernel
theorem d_readCodes_150 : decode c_M_readCodes 150 = .ok (.iadd, 1) := by decide +kernel
theorem d_readCodes_151 : decode c_M_readCodes 151 = .ok (.ishl, 1) := by decide +kernel
theorem d_readCodes_152 : decode c_M_readCodes 152 = .ok (.if_icmp .ge 7, 3) := by decide +kernel
theorem d_readCodes_155 : decode c_M_readCodes 155 = .ok (.iconst 1, 1) := by decide +kernel
theorem d_readCodes_156 : decode c_M_readCodes 156 = .ok (.goto 4, 3) := by decide +kernel
theorem d_readCodes_159 : decode c_M_readCodes 159 = .ok (.iconst 0, 1) := by decide +kernel
theorem d_readCodes_160 : decode c_M_readCodes 160 = .ok (.istore 7, 2) := by decide +kernel
theorem d_readCodes_162 : decode c_M_readCodes 162 = .ok (.iload 6, 2) := by decide +kernel
theorem d_readCodes_164 : decode c_M_readCodes 164 = .ok (.ldc_w 294, 3) := by decide +kernel
theorem d_readCodes_167 : decode c_M_readCodes 167 = .ok (.if_icmp .le 9, 3) := by decide +kernel
theorem d_readCodes_170 : decode c_M_readCodes 170 = .ok (.ldc_w 294, 3) := by decide +kernel
theorem d_readCodes_173 : decode c_M_readCodes 173 = .ok (.goto 5, 3) := by decide +kernel
theorem d_readCodes_176 : decode c_M_readCodes 176 = .ok (.iload 6, 2) := by decide +kernel
theorem d_readCodes_178 : decode c_M_readCodes 178 = .ok (.istore 6, 2) := by decide +kernel
theorem d_readCodes_180 : decode c_M_readCodes 180 = .ok (.iinc 8 1, 3) := by decide +kernel
theorem d_readCodes_183 : decode c_M_readCodes 183 = .ok (.goto (-101), 3) := by decide +kernel
theorem d_readCodes_186 : decode c_M_readCodes 186 = .ok (.aload_n 0, 1) := by decide +kernel
theorem d_readCodes_187 : decode c_M_readCodes 187 = .ok (.iload 7, 2) := by decide +kernel
theorem d_readCodes_189 : decode c_M_readCodes 189 = .ok (.ifCond .eq 15, 3) := by decide +kernel
theorem d_readCodes_192 : decode c_M_readCodes 192 = .ok (.iload 5, 2) := by decide +kernel
theorem d_readCodes_194 : decode c_M_readCodes 194 = .ok (.sipush 256, 3) := by decide +kernel
theorem d_readCodes_197 : decode c_M_readCodes 197 = .ok (.if_icmp .gt 7, 3) := by decide +kernel
theorem d_readCodes_200 : decode c_M_readCodes 200 = .ok (.iconst 1, 1) := by decide +kernel
theorem d_readCodes_201 : decode c_M_readCodes 201 = .ok (.goto 4, 3) := by decide +kernel
theorem d_readCodes_204 : decode c_M_readCodes 204 = .ok (.iconst 0, 1) := by decide +kernel
theorem d_readCodes_205 : decode c_M_readCodes 205 = .ok (.iload 4, 2) := by decide +kernel
theorem d_readCodes_207 : decode c_M_readCodes 207 = .ok (.invokevirtual 291, 3) := by decide +kernel
theorem d_readCodes_210 : decode c_M_readCodes 210 = .ok (.iconst 0, 1) := by decide +kernel
theorem d_readCodes_211 : decode c_M_readCodes 211 = .ok (.istore 8, 2) := by decide +kernel
theorem d_readCodes_213 : decode c_M_readCodes 213 = .ok (.iload 8, 2) := by decide +kernel
theorem d_readCodes_215 : decode c_M_readCodes 215 = .ok (.iload 5, 2) := by decide +kernel
theorem d_readCodes_217 : decode c_M_readCodes 217 = .ok (.if_icmp .ge 111, 3) := by decide +kernel
theorem d_readCodes_220 : decode c_M_readCodes 220 = .ok (.aload_n 0, 1) := by decide +kernel
theorem d_readCodes_221 : decode c_M_readCodes 221 = .ok (.getfield 265, 3) := by decide +kernel
theorem d_readCodes_224 : decode c_M_readCodes 224 = .ok (.ifCond .ne 104, 3) := by decide +kernel
theorem d_readCodes_227 : decode c_M_readCodes 227 = .ok (.aload_n 0, 1) := by decide +kernel
theorem d_readCodes_228 : decode c_M_readCodes 228 = .ok (.invokevirtual 288, 3) := by decide +kernel
theorem d_readCodes_231 : decode c_M_readCodes 231 = .ok (.istore 9, 2) := by decide +kernel
theorem d_readCodes_233 : decode c_M_readCodes 233 = .ok (.iload 9, 2) := by decide +kernel
theorem d_readCodes_235 : decode c_M_readCodes 235 = .ok (.bipush 15, 2) := by decide +kernel
theorem d_readCodes_237 : decode c_M_readCodes 237 = .ok (.iand, 1) := by decide +kernel
theorem d_readCodes_238 : decode c_M_readCodes 238 = .ok (.istore 10, 2) := by decide +kernel
theorem d_readCodes_240 : decode c_M_readCodes 240 = .ok (.aload_n 0, 1) := by decide +kernel
theorem d_readCodes_241 : decode c_M_readCodes 241 = .ok (.iload_n 3, 1) := by decide +kernel
theorem d_readCodes_242 : decode c_M_readCodes 242 = .ok (.iconst 2, 1) := by decide +kernel
theorem d_readCodes_243 : decode c_M_readCodes 243 = .ok (.if_icmp .ge 18, 3) := by decide +kernel
theorem d_readCodes_246 : decode c_M_readCodes 246 = .ok (.iload 9, 2) := by decide +kernel
theorem d_readCodes_248 : decode c_M_readCodes 248 = .ok (.bipush 12, 2) := by decide +kernel
theorem d_readCodes_250 : decode c_M_readCodes 250 = .ok (.if_icmp .ge 7, 3) := by decide +kernel
theorem d_readCodes_253 : decode c_M_readCodes 253 = .ok (.iconst 1, 1) := by decide +kernel
theorem d_readCodes_254 : decode c_M_readCodes 254 = .ok (.goto 37, 3) := by decide +kernel
theorem d_readCodes_257 : decode c_M_readCodes 257 = .ok (.iconst 0, 1) := by decide +kernel
theorem d_readCodes_258 : decode c_M_readCodes 258 = .ok (.goto 33, 3) := by decide +kernel
theorem d_readCodes_261 : decode c_M_readCodes 261 = .ok (.iload 9, 2) := by decide +kernel
theorem d_readCodes_263 : decode c_M_readCodes 263 = .ok (.ifCond .eq 23, 3) := by decide +kernel
theorem d_readCodes_266 : decode c_M_readCodes 266 = .ok (.iload 9, 2) := by decide +kernel
theorem d_readCodes_268 : decode c_M_readCodes 268 = .ok (.sipush 240, 3) := by decide +kernel
theorem d_readCodes_271 : decode c_M_readCodes 271 = .ok (.if_icmp .eq 15, 3) := by decide +kernel
theorem d_readCodes_274 : decode c_M_readCodes 274 = .ok (.iload 10, 2) := by decide +kernel
theorem d_readCodes_276 : decode c_M_readCodes 276 = .ok (.ifCond .le 14, 3) := by decide +kernel
theorem d_readCodes_279 : decode c_M_readCodes 279 = .ok (.iload 10, 2) := by decide +kernel
theorem d_readCodes_281 : decode c_M_readCodes 281 = .ok (.bipush 11, 2) := by decide +kernel
theorem d_readCodes_283 : decode c_M_readCodes 283 = .ok (.if_icmp .ge 7, 3) := by decide +kernel
theorem d_readCodes_286 : decode c_M_readCodes 286 = .ok (.iconst 1, 1) := by decide +kernel
theorem d_readCodes_287 : decode c_M_readCodes 287 = .ok (.goto 4, 3) := by decide +kernel
theorem d_readCodes_290 : decode c_M_readCodes 290 = .ok (.iconst 0, 1) := by decide +kernel
theorem d_readCodes_291 : decode c_M_readCodes 291 = .ok (.aload_n 0, 1) := by decide +kernel
theorem d_readCodes_292 : decode c_M_readCodes 292 = .ok (.getfield 268, 3) := by decide +kernel
theorem d_readCodes_295 : decode c_M_readCodes 295 = .ok (.iconst 1, 1) := by decide +kernel
theorem d_readCodes_296 : decode c_M_readCodes 296 = .ok (.isub, 1) := by decide +kernel
theorem d_readCodes_297 : decode c_M_readCodes 297 = .ok (.invokevirtual 291, 3) := by decide +kernel
theorem d_readCodes_300 : decode c_M_readCodes 300 = .ok (.aload_n 0, 1) := by decide +kernel
theorem d_readCodes_301 : decode c_M_readCodes 301 = .ok (.getfield 265, 3) := by decide +kernel
theorem d_readCodes_304 : decode c_M_readCodes 304 = .ok (.ifCond .ne 18, 3) := by decide +kernel
theorem d_readCodes_307 : decode c_M_readCodes 307 = .ok (.aload_n 0, 1) := by decide +kernel
theorem d_readCodes_308 : decode c_M_readCodes 308 = .ok (.getfield 112, 3) := by decide +kernel
theorem d_readCodes_311 : decode c_M_readCodes 311 = .ok (.sipush 256, 3) := by decide +kernel
theorem d_readCodes_314 : decode c_M_readCodes 314 = .ok (.iload_n 3, 1) := by decide +kernel
theorem d_readCodes_315 : decode c_M_readCodes 315 = .ok (.imul, 1) := by decide +kernel
theorem d_readCodes_316 : decode c_M_readCodes 316 = .ok (.iload 8, 2) := by decide +kernel
theorem d_readCodes_318 : decode c_M_readCodes 318 = .ok (.iadd, 1) := by decide +kernel
theorem d_readCodes_319 : decode c_M_readCodes 319 = .ok (.iload 9, 2) := by decide +kernel
theorem d_readCodes_321 : decode c_M_readCodes 321 = .ok (.iastore, 1) := by decide +kernel
theorem d_readCodes_322 : decode c_M_readCodes 322 = .ok (.iinc 8 1, 3) := by decide +kernel
theorem d_readCodes_325 : decode c_M_readCodes 325 = .ok (.goto (-112), 3) := by decide +kernel
theorem d_readCodes_328 : decode c_M_readCodes 328 = .ok (.aload_n 0, 1) := by decide +kernel
theorem d_readCodes_329 : decode c_M_readCodes 329 = .ok (.getfield 265, 3) := by decide +kernel
theorem d_readCodes_332 : decode c_M_readCodes 332 = .ok (.ifCond .ne 10, 3) := by decide +kernel
theorem d_readCodes_335 : decode c_M_readCodes 335 = .ok (.aload_n 0, 1) := by decide +kernel
theorem d_readCodes_336 : decode c_M_readCodes 336 = .ok (.getfield 115, 3) := by decide +kernel
theorem d_readCodes_339 : decode c_M_readCodes 339 = .ok (.iload_n 3, 1) := by decide +kernel
theorem d_readCodes_340 : decode c_M_readCodes 340 = .ok (.iconst 1, 1) := by decide +kernel
theorem d_readCodes_341 : decode c_M_readCodes 341 = .ok (.bastore, 1) := by decide +kernel
theorem d_readCodes_342 : decode c_M_readCodes 342 = .ok (.aload_n 0, 1) := by decide +kernel
theorem d_readCodes_343 : decode c_M_readCodes 343 = .ok (.getfield 268, 3) := by decide +kernel
theorem d_readCodes_346 : decode c_M_readCodes 346 = .ok (.aload_n 0, 1) := by decide +kernel
theorem d_readCodes_347 : decode c_M_readCodes 347 = .ok (.getfield 275, 3) := by decide +kernel
theorem d_readCodes_350 : decode c_M_readCodes 350 = .ok (.if_icmp .ge 7, 3) := by decide +kernel
theorem d_readCodes_353 : decode c_M_readCodes 353 = .ok (.iconst 1, 1) := by decide +kernel
theorem d_readCodes_354 : decode c_M_readCodes 354 = .ok (.goto 4, 3) := by decide +kernel
theorem d_readCodes_357 : decode c_M_readCodes 357 = .ok (.iconst 0, 1) := by decide +kernel
theorem d_readCodes_358 : decode c_M_readCodes 358 = .ok (.istore_n 1, 1) := by decide +kernel
theorem d_readCodes_359 : decode c_M_readCodes 359 = .ok (.goto (-357), 3) := by decide +kernel
theorem d_readCodes_362 : decode c_M_readCodes 362 = .ok (.return_, 1) := by decide +kernel
