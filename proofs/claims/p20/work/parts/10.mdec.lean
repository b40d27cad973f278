theorem d_turn1_0 : decode c_M_turn1 0 = .ok (.iload_n 0, 1) := by decide +kernel
theorem d_turn1_1 : decode c_M_turn1 1 = .ok (.bipush 16, 2) := by decide +kernel
theorem d_turn1_3 : decode c_M_turn1 3 = .ok (.if_icmp .le 10, 3) := by decide +kernel
theorem d_turn1_6 : decode c_M_turn1 6 = .ok (.bipush 32, 2) := by decide +kernel
theorem d_turn1_8 : decode c_M_turn1 8 = .ok (.iload_n 0, 1) := by decide +kernel
theorem d_turn1_9 : decode c_M_turn1 9 = .ok (.isub, 1) := by decide +kernel
theorem d_turn1_10 : decode c_M_turn1 10 = .ok (.goto 4, 3) := by decide +kernel
theorem d_turn1_13 : decode c_M_turn1 13 = .ok (.iload_n 0, 1) := by decide +kernel
theorem d_turn1_14 : decode c_M_turn1 14 = .ok (.istore_n 1, 1) := by decide +kernel
theorem d_turn1_15 : decode c_M_turn1 15 = .ok (.iload_n 1, 1) := by decide +kernel
theorem d_turn1_16 : decode c_M_turn1 16 = .ok (.bipush 8, 2) := by decide +kernel
theorem d_turn1_18 : decode c_M_turn1 18 = .ok (.if_icmp .le 10, 3) := by decide +kernel
theorem d_turn1_21 : decode c_M_turn1 21 = .ok (.bipush 16, 2) := by decide +kernel
theorem d_turn1_23 : decode c_M_turn1 23 = .ok (.iload_n 1, 1) := by decide +kernel
theorem d_turn1_24 : decode c_M_turn1 24 = .ok (.isub, 1) := by decide +kernel
theorem d_turn1_25 : decode c_M_turn1 25 = .ok (.goto 4, 3) := by decide +kernel
theorem d_turn1_28 : decode c_M_turn1 28 = .ok (.iload_n 1, 1) := by decide +kernel
theorem d_turn1_29 : decode c_M_turn1 29 = .ok (.istore_n 2, 1) := by decide +kernel
theorem d_turn1_30 : decode c_M_turn1 30 = .ok (.iload_n 2, 1) := by decide +kernel
theorem d_turn1_31 : decode c_M_turn1 31 = .ok (.ifCond .ne 9, 3) := by decide +kernel
theorem d_turn1_34 : decode c_M_turn1 34 = .ok (.sipush 4096, 3) := by decide +kernel
theorem d_turn1_37 : decode c_M_turn1 37 = .ok (.goto 83, 3) := by decide +kernel
theorem d_turn1_40 : decode c_M_turn1 40 = .ok (.iload_n 2, 1) := by decide +kernel
theorem d_turn1_41 : decode c_M_turn1 41 = .ok (.iconst 1, 1) := by decide +kernel
theorem d_turn1_42 : decode c_M_turn1 42 = .ok (.if_icmp .ne 9, 3) := by decide +kernel
theorem d_turn1_45 : decode c_M_turn1 45 = .ok (.sipush 4017, 3) := by decide +kernel
theorem d_turn1_48 : decode c_M_turn1 48 = .ok (.goto 72, 3) := by decide +kernel
theorem d_turn1_51 : decode c_M_turn1 51 = .ok (.iload_n 2, 1) := by decide +kernel
theorem d_turn1_52 : decode c_M_turn1 52 = .ok (.iconst 2, 1) := by decide +kernel
theorem d_turn1_53 : decode c_M_turn1 53 = .ok (.if_icmp .ne 9, 3) := by decide +kernel
theorem d_turn1_56 : decode c_M_turn1 56 = .ok (.sipush 3784, 3) := by decide +kernel
theorem d_turn1_59 : decode c_M_turn1 59 = .ok (.goto 61, 3) := by decide +kernel
theorem d_turn1_62 : decode c_M_turn1 62 = .ok (.iload_n 2, 1) := by decide +kernel
theorem d_turn1_63 : decode c_M_turn1 63 = .ok (.iconst 3, 1) := by decide +kernel
theorem d_turn1_64 : decode c_M_turn1 64 = .ok (.if_icmp .ne 9, 3) := by decide +kernel
theorem d_turn1_67 : decode c_M_turn1 67 = .ok (.sipush 3406, 3) := by decide +kernel
theorem d_turn1_70 : decode c_M_turn1 70 = .ok (.goto 50, 3) := by decide +kernel
theorem d_turn1_73 : decode c_M_turn1 73 = .ok (.iload_n 2, 1) := by decide +kernel
theorem d_turn1_74 : decode c_M_turn1 74 = .ok (.iconst 4, 1) := by decide +kernel
theorem d_turn1_75 : decode c_M_turn1 75 = .ok (.if_icmp .ne 9, 3) := by decide +kernel
theorem d_turn1_78 : decode c_M_turn1 78 = .ok (.sipush 2896, 3) := by decide +kernel
theorem d_turn1_81 : decode c_M_turn1 81 = .ok (.goto 39, 3) := by decide +kernel
theorem d_turn1_84 : decode c_M_turn1 84 = .ok (.iload_n 2, 1) := by decide +kernel
theorem d_turn1_85 : decode c_M_turn1 85 = .ok (.iconst 5, 1) := by decide +kernel
theorem d_turn1_86 : decode c_M_turn1 86 = .ok (.if_icmp .ne 9, 3) := by decide +kernel
theorem d_turn1_89 : decode c_M_turn1 89 = .ok (.sipush 2276, 3) := by decide +kernel
theorem d_turn1_92 : decode c_M_turn1 92 = .ok (.goto 28, 3) := by decide +kernel
theorem d_turn1_95 : decode c_M_turn1 95 = .ok (.iload_n 2, 1) := by decide +kernel
theorem d_turn1_96 : decode c_M_turn1 96 = .ok (.bipush 6, 2) := by decide +kernel
theorem d_turn1_98 : decode c_M_turn1 98 = .ok (.if_icmp .ne 9, 3) := by decide +kernel
theorem d_turn1_101 : decode c_M_turn1 101 = .ok (.sipush 1567, 3) := by decide +kernel
theorem d_turn1_104 : decode c_M_turn1 104 = .ok (.goto 16, 3) := by decide +kernel
theorem d_turn1_107 : decode c_M_turn1 107 = .ok (.iload_n 2, 1) := by decide +kernel
theorem d_turn1_108 : decode c_M_turn1 108 = .ok (.bipush 7, 2) := by decide +kernel
theorem d_turn1_110 : decode c_M_turn1 110 = .ok (.if_icmp .ne 9, 3) := by decide +kernel
theorem d_turn1_113 : decode c_M_turn1 113 = .ok (.sipush 799, 3) := by decide +kernel
theorem d_turn1_116 : decode c_M_turn1 116 = .ok (.goto 4, 3) := by decide +kernel
theorem d_turn1_119 : decode c_M_turn1 119 = .ok (.iconst 0, 1) := by decide +kernel
theorem d_turn1_120 : decode c_M_turn1 120 = .ok (.istore_n 3, 1) := by decide +kernel
theorem d_turn1_121 : decode c_M_turn1 121 = .ok (.iload_n 1, 1) := by decide +kernel
theorem d_turn1_122 : decode c_M_turn1 122 = .ok (.bipush 8, 2) := by decide +kernel
theorem d_turn1_124 : decode c_M_turn1 124 = .ok (.if_icmp .le 8, 3) := by decide +kernel
theorem d_turn1_127 : decode c_M_turn1 127 = .ok (.iload_n 3, 1) := by decide +kernel
theorem d_turn1_128 : decode c_M_turn1 128 = .ok (.ineg, 1) := by decide +kernel
theorem d_turn1_129 : decode c_M_turn1 129 = .ok (.goto 4, 3) := by decide +kernel
theorem d_turn1_132 : decode c_M_turn1 132 = .ok (.iload_n 3, 1) := by decide +kernel
theorem d_turn1_133 : decode c_M_turn1 133 = .ok (.ireturn, 1) := by decide +kernel
theorem d_thrown_0 : decode c_M_thrown 0 = .ok (.aload_n 0, 1) := by decide +kernel
theorem d_thrown_1 : decode c_M_thrown 1 = .ok (.getfield 146, 3) := by decide +kernel
theorem d_thrown_4 : decode c_M_thrown 4 = .ok (.ireturn, 1) := by decide +kernel
theorem d_cell_0 : decode c_M_cell 0 = .ok (.iconst 3, 1) := by decide +kernel
theorem d_cell_1 : decode c_M_cell 1 = .ok (.bipush 64, 2) := by decide +kernel
theorem d_cell_3 : decode c_M_cell 3 = .ok (.iload_n 1, 1) := by decide +kernel
theorem d_cell_4 : decode c_M_cell 4 = .ok (.imul, 1) := by decide +kernel
theorem d_cell_5 : decode c_M_cell 5 = .ok (.iload_n 0, 1) := by decide +kernel
theorem d_cell_6 : decode c_M_cell 6 = .ok (.iadd, 1) := by decide +kernel
theorem d_cell_7 : decode c_M_cell 7 = .ok (.imul, 1) := by decide +kernel
theorem d_cell_8 : decode c_M_cell 8 = .ok (.iload_n 2, 1) := by decide +kernel
theorem d_cell_9 : decode c_M_cell 9 = .ok (.iadd, 1) := by decide +kernel
theorem d_cell_10 : decode c_M_cell 10 = .ok (.ireturn, 1) := by decide +kernel
theorem d_canvas_0 : decode c_M_canvas 0 = .ok (.aload_n 0, 1) := by decide +kernel
theorem d_canvas_1 : decode c_M_canvas 1 = .ok (.iload_n 1, 1) := by decide +kernel
theorem d_canvas_2 : decode c_M_canvas 2 = .ok (.iconst 1, 1) := by decide +kernel
theorem d_canvas_3 : decode c_M_canvas 3 = .ok (.if_icmp .lt 30, 3) := by decide +kernel
theorem d_canvas_6 : decode c_M_canvas 6 = .ok (.iload_n 1, 1) := by decide +kernel
theorem d_canvas_7 : decode c_M_canvas 7 = .ok (.bipush 64, 2) := by decide +kernel
theorem d_canvas_9 : decode c_M_canvas 9 = .ok (.if_icmp .gt 24, 3) := by decide +kernel
theorem d_canvas_12 : decode c_M_canvas 12 = .ok (.iload_n 2, 1) := by decide +kernel
theorem d_canvas_13 : decode c_M_canvas 13 = .ok (.iconst 1, 1) := by decide +kernel
theorem d_canvas_14 : decode c_M_canvas 14 = .ok (.if_icmp .lt 19, 3) := by decide +kernel
theorem d_canvas_17 : decode c_M_canvas 17 = .ok (.iload_n 2, 1) := by decide +kernel
theorem d_canvas_18 : decode c_M_canvas 18 = .ok (.bipush 64, 2) := by decide +kernel
theorem d_canvas_20 : decode c_M_canvas 20 = .ok (.if_icmp .gt 13, 3) := by decide +kernel
theorem d_canvas_23 : decode c_M_canvas 23 = .ok (.iload_n 3, 1) := by decide +kernel
theorem d_canvas_24 : decode c_M_canvas 24 = .ok (.iconst 1, 1) := by decide +kernel
theorem d_canvas_25 : decode c_M_canvas 25 = .ok (.if_icmp .eq 12, 3) := by decide +kernel
theorem d_canvas_28 : decode c_M_canvas 28 = .ok (.iload_n 3, 1) := by decide +kernel
theorem d_canvas_29 : decode c_M_canvas 29 = .ok (.iconst 3, 1) := by decide +kernel
theorem d_canvas_30 : decode c_M_canvas 30 = .ok (.if_icmp .eq 7, 3) := by decide +kernel
theorem d_canvas_33 : decode c_M_canvas 33 = .ok (.iconst 1, 1) := by decide +kernel
theorem d_canvas_34 : decode c_M_canvas 34 = .ok (.goto 4, 3) := by decide +kernel
theorem d_canvas_37 : decode c_M_canvas 37 = .ok (.iconst 0, 1) := by decide +kernel
theorem d_canvas_38 : decode c_M_canvas 38 = .ok (.putfield 146, 3) := by decide +kernel
theorem d_canvas_41 : decode c_M_canvas 41 = .ok (.aload_n 0, 1) := by decide +kernel
theorem d_canvas_42 : decode c_M_canvas 42 = .ok (.getfield 146, 3) := by decide +kernel
theorem d_canvas_45 : decode c_M_canvas 45 = .ok (.ifCond .le 4, 3) := by decide +kernel
theorem d_canvas_48 : decode c_M_canvas 48 = .ok (.return_, 1) := by decide +kernel
theorem d_canvas_49 : decode c_M_canvas 49 = .ok (.aload_n 0, 1) := by decide +kernel
theorem d_canvas_50 : decode c_M_canvas 50 = .ok (.iload_n 1, 1) := by decide +kernel
theorem d_canvas_51 : decode c_M_canvas 51 = .ok (.putfield 7, 3) := by decide +kernel
theorem d_canvas_54 : decode c_M_canvas 54 = .ok (.aload_n 0, 1) := by decide +kernel
theorem d_canvas_55 : decode c_M_canvas 55 = .ok (.iload_n 2, 1) := by decide +kernel
theorem d_canvas_56 : decode c_M_canvas 56 = .ok (.putfield 13, 3) := by decide +kernel
theorem d_canvas_59 : decode c_M_canvas 59 = .ok (.aload_n 0, 1) := by decide +kernel
theorem d_canvas_60 : decode c_M_canvas 60 = .ok (.iload_n 3, 1) := by decide +kernel
theorem d_canvas_61 : decode c_M_canvas 61 = .ok (.putfield 16, 3) := by decide +kernel
theorem d_canvas_64 : decode c_M_canvas 64 = .ok (.iconst 0, 1) := by decide +kernel
theorem d_canvas_65 : decode c_M_canvas 65 = .ok (.istore 4, 2) := by decide +kernel
theorem d_canvas_67 : decode c_M_canvas 67 = .ok (.iload 4, 2) := by decide +kernel
theorem d_canvas_69 : decode c_M_canvas 69 = .ok (.sipush 12288, 3) := by decide +kernel
theorem d_canvas_72 : decode c_M_canvas 72 = .ok (.if_icmp .ge 17, 3) := by decide +kernel
theorem d_canvas_75 : decode c_M_canvas 75 = .ok (.aload_n 0, 1) := by decide +kernel
theorem d_canvas_76 : decode c_M_canvas 76 = .ok (.getfield 19, 3) := by decide +kernel
theorem d_canvas_79 : decode c_M_canvas 79 = .ok (.iload 4, 2) := by decide +kernel
theorem d_canvas_81 : decode c_M_canvas 81 = .ok (.iconst 0, 1) := by decide +kernel
theorem d_canvas_82 : decode c_M_canvas 82 = .ok (.iastore, 1) := by decide +kernel
theorem d_canvas_83 : decode c_M_canvas 83 = .ok (.iinc 4 1, 3) := by decide +kernel
theorem d_canvas_86 : decode c_M_canvas 86 = .ok (.goto (-19), 3) := by decide +kernel
theorem d_canvas_89 : decode c_M_canvas 89 = .ok (.return_, 1) := by decide +kernel
theorem d_isOut_0 : decode c_M_isOut 0 = .ok (.aload_n 0, 1) := by decide +kernel
theorem d_isOut_1 : decode c_M_isOut 1 = .ok (.iload_n 1, 1) := by decide +kernel
theorem d_isOut_2 : decode c_M_isOut 2 = .ok (.ifCond .lt 55, 3) := by decide +kernel
theorem d_isOut_5 : decode c_M_isOut 5 = .ok (.iload_n 2, 1) := by decide +kernel
theorem d_isOut_6 : decode c_M_isOut 6 = .ok (.ifCond .lt 51, 3) := by decide +kernel
theorem d_isOut_9 : decode c_M_isOut 9 = .ok (.iload_n 3, 1) := by decide +kernel
theorem d_isOut_10 : decode c_M_isOut 10 = .ok (.iconst 1, 1) := by decide +kernel
theorem d_isOut_11 : decode c_M_isOut 11 = .ok (.if_icmp .lt 46, 3) := by decide +kernel
theorem d_isOut_14 : decode c_M_isOut 14 = .ok (.iload 4, 2) := by decide +kernel
theorem d_isOut_16 : decode c_M_isOut 16 = .ok (.iconst 1, 1) := by decide +kernel
theorem d_isOut_17 : decode c_M_isOut 17 = .ok (.if_icmp .lt 40, 3) := by decide +kernel
theorem d_isOut_20 : decode c_M_isOut 20 = .ok (.iload_n 1, 1) := by decide +kernel
theorem d_isOut_21 : decode c_M_isOut 21 = .ok (.aload_n 0, 1) := by decide +kernel
theorem d_isOut_22 : decode c_M_isOut 22 = .ok (.getfield 7, 3) := by decide +kernel
theorem d_isOut_25 : decode c_M_isOut 25 = .ok (.if_icmp .ge 32, 3) := by decide +kernel
theorem d_isOut_28 : decode c_M_isOut 28 = .ok (.iload_n 2, 1) := by decide +kernel
theorem d_isOut_29 : decode c_M_isOut 29 = .ok (.aload_n 0, 1) := by decide +kernel
theorem d_isOut_30 : decode c_M_isOut 30 = .ok (.getfield 13, 3) := by decide +kernel
theorem d_isOut_33 : decode c_M_isOut 33 = .ok (.if_icmp .ge 24, 3) := by decide +kernel
theorem d_isOut_36 : decode c_M_isOut 36 = .ok (.iload_n 3, 1) := by decide +kernel
theorem d_isOut_37 : decode c_M_isOut 37 = .ok (.aload_n 0, 1) := by decide +kernel
theorem d_isOut_38 : decode c_M_isOut 38 = .ok (.getfield 7, 3) := by decide +kernel
theorem d_isOut_41 : decode c_M_isOut 41 = .ok (.iload_n 1, 1) := by decide +kernel
theorem d_isOut_42 : decode c_M_isOut 42 = .ok (.isub, 1) := by decide +kernel
theorem d_isOut_43 : decode c_M_isOut 43 = .ok (.if_icmp .gt 14, 3) := by decide +kernel
theorem d_isOut_46 : decode c_M_isOut 46 = .ok (.iload 4, 2) := by decide +kernel
theorem d_isOut_48 : decode c_M_isOut 48 = .ok (.aload_n 0, 1) := by decide +kernel
theorem d_isOut_49 : decode c_M_isOut 49 = .ok (.getfield 13, 3) := by decide +kernel
theorem d_isOut_52 : decode c_M_isOut 52 = .ok (.iload_n 2, 1) := by decide +kernel
theorem d_isOut_53 : decode c_M_isOut 53 = .ok (.isub, 1) := by decide +kernel
theorem d_isOut_54 : decode c_M_isOut 54 = .ok (.if_icmp .le 7, 3) := by decide +kernel
theorem d_isOut_57 : decode c_M_isOut 57 = .ok (.iconst 1, 1) := by decide +kernel
theorem d_isOut_58 : decode c_M_isOut 58 = .ok (.goto 4, 3) := by decide +kernel
theorem d_isOut_61 : decode c_M_isOut 61 = .ok (.iconst 0, 1) := by decide +kernel
theorem d_isOut_62 : decode c_M_isOut 62 = .ok (.putfield 146, 3) := by decide +kernel
theorem d_isOut_65 : decode c_M_isOut 65 = .ok (.aload_n 0, 1) := by decide +kernel
theorem d_isOut_66 : decode c_M_isOut 66 = .ok (.getfield 146, 3) := by decide +kernel
theorem d_isOut_69 : decode c_M_isOut 69 = .ok (.ifCond .le 7, 3) := by decide +kernel
theorem d_isOut_72 : decode c_M_isOut 72 = .ok (.iconst 1, 1) := by decide +kernel
theorem d_isOut_73 : decode c_M_isOut 73 = .ok (.goto 4, 3) := by decide +kernel
theorem d_isOut_76 : decode c_M_isOut 76 = .ok (.iconst 0, 1) := by decide +kernel
theorem d_isOut_77 : decode c_M_isOut 77 = .ok (.ireturn, 1) := by decide +kernel
theorem d_byteOf_0 : decode c_M_byteOf 0 = .ok (.aload_n 0, 1) := by decide +kernel
theorem d_byteOf_1 : decode c_M_byteOf 1 = .ok (.getfield 16, 3) := by decide +kernel
theorem d_byteOf_4 : decode c_M_byteOf 4 = .ok (.iconst 1, 1) := by decide +kernel
theorem d_byteOf_5 : decode c_M_byteOf 5 = .ok (.if_icmp .ne 11, 3) := by decide +kernel
theorem d_byteOf_8 : decode c_M_byteOf 8 = .ok (.iload_n 1, 1) := by decide +kernel
theorem d_byteOf_9 : decode c_M_byteOf 9 = .ok (.sipush 255, 3) := by decide +kernel
theorem d_byteOf_12 : decode c_M_byteOf 12 = .ok (.iand, 1) := by decide +kernel
theorem d_byteOf_13 : decode c_M_byteOf 13 = .ok (.goto 16, 3) := by decide +kernel
theorem d_byteOf_16 : decode c_M_byteOf 16 = .ok (.iload_n 1, 1) := by decide +kernel
theorem d_byteOf_17 : decode c_M_byteOf 17 = .ok (.bipush 16, 2) := by decide +kernel
theorem d_byteOf_19 : decode c_M_byteOf 19 = .ok (.bipush 8, 2) := by decide +kernel
theorem d_byteOf_21 : decode c_M_byteOf 21 = .ok (.iload_n 2, 1) := by decide +kernel
theorem d_byteOf_22 : decode c_M_byteOf 22 = .ok (.imul, 1) := by decide +kernel
theorem d_byteOf_23 : decode c_M_byteOf 23 = .ok (.isub, 1) := by decide +kernel
theorem d_byteOf_24 : decode c_M_byteOf 24 = .ok (.ishr, 1) := by decide +kernel
theorem d_byteOf_25 : decode c_M_byteOf 25 = .ok (.sipush 255, 3) := by decide +kernel
theorem d_byteOf_28 : decode c_M_byteOf 28 = .ok (.iand, 1) := by decide +kernel
theorem d_byteOf_29 : decode c_M_byteOf 29 = .ok (.ireturn, 1) := by decide +kernel
theorem d_slope_0 : decode c_M_slope 0 = .ok (.aload_n 0, 1) := by decide +kernel
theorem d_slope_1 : decode c_M_slope 1 = .ok (.iload_n 1, 1) := by decide +kernel
theorem d_slope_2 : decode c_M_slope 2 = .ok (.iload_n 2, 1) := by decide +kernel
theorem d_slope_3 : decode c_M_slope 3 = .ok (.iload_n 3, 1) := by decide +kernel
theorem d_slope_4 : decode c_M_slope 4 = .ok (.iload 4, 2) := by decide +kernel
theorem d_slope_6 : decode c_M_slope 6 = .ok (.invokevirtual 153, 3) := by decide +kernel
theorem d_slope_9 : decode c_M_slope 9 = .ok (.ifCond .eq 4, 3) := by decide +kernel
theorem d_slope_12 : decode c_M_slope 12 = .ok (.return_, 1) := by decide +kernel
theorem d_slope_13 : decode c_M_slope 13 = .ok (.iconst 0, 1) := by decide +kernel
theorem d_slope_14 : decode c_M_slope 14 = .ok (.istore 7, 2) := by decide +kernel
theorem d_slope_16 : decode c_M_slope 16 = .ok (.iload 7, 2) := by decide +kernel
theorem d_slope_18 : decode c_M_slope 18 = .ok (.iload 4, 2) := by decide +kernel
theorem d_slope_20 : decode c_M_slope 20 = .ok (.if_icmp .ge 89, 3) := by decide +kernel
theorem d_slope_23 : decode c_M_slope 23 = .ok (.iconst 0, 1) := by decide +kernel
theorem d_slope_24 : decode c_M_slope 24 = .ok (.istore 8, 2) := by decide +kernel
theorem d_slope_26 : decode c_M_slope 26 = .ok (.iload 8, 2) := by decide +kernel
theorem d_slope_28 : decode c_M_slope 28 = .ok (.iload_n 3, 1) := by decide +kernel
theorem d_slope_29 : decode c_M_slope 29 = .ok (.if_icmp .ge 74, 3) := by decide +kernel
theorem d_slope_32 : decode c_M_slope 32 = .ok (.iconst 0, 1) := by decide +kernel
theorem d_slope_33 : decode c_M_slope 33 = .ok (.istore 9, 2) := by decide +kernel
theorem d_slope_35 : decode c_M_slope 35 = .ok (.iload 9, 2) := by decide +kernel
theorem d_slope_37 : decode c_M_slope 37 = .ok (.aload_n 0, 1) := by decide +kernel
theorem d_slope_38 : decode c_M_slope 38 = .ok (.getfield 16, 3) := by decide +kernel
theorem d_slope_41 : decode c_M_slope 41 = .ok (.if_icmp .ge 56, 3) := by decide +kernel
theorem d_slope_44 : decode c_M_slope 44 = .ok (.aload_n 0, 1) := by decide +kernel
theorem d_slope_45 : decode c_M_slope 45 = .ok (.iload 5, 2) := by decide +kernel
theorem d_slope_47 : decode c_M_slope 47 = .ok (.iload 9, 2) := by decide +kernel
theorem d_slope_49 : decode c_M_slope 49 = .ok (.invokevirtual 157, 3) := by decide +kernel
theorem d_slope_52 : decode c_M_slope 52 = .ok (.istore 10, 2) := by decide +kernel
theorem d_slope_54 : decode c_M_slope 54 = .ok (.aload_n 0, 1) := by decide +kernel
theorem d_slope_55 : decode c_M_slope 55 = .ok (.getfield 19, 3) := by decide +kernel
theorem d_slope_58 : decode c_M_slope 58 = .ok (.iload_n 1, 1) := by decide +kernel
theorem d_slope_59 : decode c_M_slope 59 = .ok (.iload 8, 2) := by decide +kernel
theorem d_slope_61 : decode c_M_slope 61 = .ok (.iadd, 1) := by decide +kernel
theorem d_slope_62 : decode c_M_slope 62 = .ok (.iload_n 2, 1) := by decide +kernel
theorem d_slope_63 : decode c_M_slope 63 = .ok (.iload 7, 2) := by decide +kernel
theorem d_slope_65 : decode c_M_slope 65 = .ok (.iadd, 1) := by decide +kernel
theorem d_slope_66 : decode c_M_slope 66 = .ok (.iload 9, 2) := by decide +kernel
theorem d_slope_68 : decode c_M_slope 68 = .ok (.invokestatic 161, 3) := by decide +kernel
theorem d_slope_71 : decode c_M_slope 71 = .ok (.iload 10, 2) := by decide +kernel
theorem d_slope_73 : decode c_M_slope 73 = .ok (.aload_n 0, 1) := by decide +kernel
theorem d_slope_74 : decode c_M_slope 74 = .ok (.iload 6, 2) := by decide +kernel
theorem d_slope_76 : decode c_M_slope 76 = .ok (.iload 9, 2) := by decide +kernel
theorem d_slope_78 : decode c_M_slope 78 = .ok (.invokevirtual 157, 3) := by decide +kernel
theorem d_slope_81 : decode c_M_slope 81 = .ok (.iload 10, 2) := by decide +kernel
theorem d_slope_83 : decode c_M_slope 83 = .ok (.isub, 1) := by decide +kernel
theorem d_slope_84 : decode c_M_slope 84 = .ok (.iload 8, 2) := by decide +kernel
theorem d_slope_86 : decode c_M_slope 86 = .ok (.imul, 1) := by decide +kernel
theorem d_slope_87 : decode c_M_slope 87 = .ok (.iload_n 3, 1) := by decide +kernel
theorem d_slope_88 : decode c_M_slope 88 = .ok (.idiv, 1) := by decide +kernel
theorem d_slope_89 : decode c_M_slope 89 = .ok (.iadd, 1) := by decide +kernel
theorem d_slope_90 : decode c_M_slope 90 = .ok (.iastore, 1) := by decide +kernel
theorem d_slope_91 : decode c_M_slope 91 = .ok (.iinc 9 1, 3) := by decide +kernel
theorem d_slope_94 : decode c_M_slope 94 = .ok (.goto (-59), 3) := by decide +kernel
theorem d_slope_97 : decode c_M_slope 97 = .ok (.iinc 8 1, 3) := by decide +kernel
theorem d_slope_100 : decode c_M_slope 100 = .ok (.goto (-74), 3) := by decide +kernel
theorem d_slope_103 : decode c_M_slope 103 = .ok (.iinc 7 1, 3) := by decide +kernel
theorem d_slope_106 : decode c_M_slope 106 = .ok (.goto (-90), 3) := by decide +kernel
theorem d_slope_109 : decode c_M_slope 109 = .ok (.return_, 1) := by decide +kernel
theorem d_fill_0 : decode c_M_fill 0 = .ok (.aload_n 0, 1) := by decide +kernel
theorem d_fill_1 : decode c_M_fill 1 = .ok (.iload_n 1, 1) := by decide +kernel
theorem d_fill_2 : decode c_M_fill 2 = .ok (.iload_n 2, 1) := by decide +kernel
theorem d_fill_3 : decode c_M_fill 3 = .ok (.iload_n 3, 1) := by decide +kernel
theorem d_fill_4 : decode c_M_fill 4 = .ok (.iload 4, 2) := by decide +kernel
theorem d_fill_6 : decode c_M_fill 6 = .ok (.iload 5, 2) := by decide +kernel
theorem d_fill_8 : decode c_M_fill 8 = .ok (.iload 5, 2) := by decide +kernel
theorem d_fill_10 : decode c_M_fill 10 = .ok (.invokevirtual 149, 3) := by decide +kernel
theorem d_fill_13 : decode c_M_fill 13 = .ok (.return_, 1) := by decide +kernel
theorem d_at_0 : decode c_M_at 0 = .ok (.aload_n 0, 1) := by decide +kernel
theorem d_at_1 : decode c_M_at 1 = .ok (.iload_n 1, 1) := by decide +kernel
theorem d_at_2 : decode c_M_at 2 = .ok (.ifCond .lt 35, 3) := by decide +kernel
theorem d_at_5 : decode c_M_at 5 = .ok (.iload_n 1, 1) := by decide +kernel
theorem d_at_6 : decode c_M_at 6 = .ok (.aload_n 0, 1) := by decide +kernel
theorem d_at_7 : decode c_M_at 7 = .ok (.getfield 7, 3) := by decide +kernel
theorem d_at_10 : decode c_M_at 10 = .ok (.if_icmp .ge 27, 3) := by decide +kernel
theorem d_at_13 : decode c_M_at 13 = .ok (.iload_n 2, 1) := by decide +kernel
theorem d_at_14 : decode c_M_at 14 = .ok (.ifCond .lt 23, 3) := by decide +kernel
theorem d_at_17 : decode c_M_at 17 = .ok (.iload_n 2, 1) := by decide +kernel
theorem d_at_18 : decode c_M_at 18 = .ok (.aload_n 0, 1) := by decide +kernel
theorem d_at_19 : decode c_M_at 19 = .ok (.getfield 13, 3) := by decide +kernel
theorem d_at_22 : decode c_M_at 22 = .ok (.if_icmp .ge 15, 3) := by decide +kernel
theorem d_at_25 : decode c_M_at 25 = .ok (.iload_n 3, 1) := by decide +kernel
theorem d_at_26 : decode c_M_at 26 = .ok (.ifCond .lt 11, 3) := by decide +kernel
theorem d_at_29 : decode c_M_at 29 = .ok (.iload_n 3, 1) := by decide +kernel
theorem d_at_30 : decode c_M_at 30 = .ok (.aload_n 0, 1) := by decide +kernel
theorem d_at_31 : decode c_M_at 31 = .ok (.getfield 16, 3) := by decide +kernel
theorem d_at_34 : decode c_M_at 34 = .ok (.if_icmp .lt 7, 3) := by decide +kernel
theorem d_at_37 : decode c_M_at 37 = .ok (.iconst 1, 1) := by decide +kernel
theorem d_at_38 : decode c_M_at 38 = .ok (.goto 4, 3) := by decide +kernel
theorem d_at_41 : decode c_M_at 41 = .ok (.iconst 0, 1) := by decide +kernel
theorem d_at_42 : decode c_M_at 42 = .ok (.putfield 146, 3) := by decide +kernel
theorem d_at_45 : decode c_M_at 45 = .ok (.aload_n 0, 1) := by decide +kernel
theorem d_at_46 : decode c_M_at 46 = .ok (.getfield 146, 3) := by decide +kernel
theorem d_at_49 : decode c_M_at 49 = .ok (.ifCond .le 7, 3) := by decide +kernel
theorem d_at_52 : decode c_M_at 52 = .ok (.iconst 0, 1) := by decide +kernel
theorem d_at_53 : decode c_M_at 53 = .ok (.goto 14, 3) := by decide +kernel
theorem d_at_56 : decode c_M_at 56 = .ok (.aload_n 0, 1) := by decide +kernel
theorem d_at_57 : decode c_M_at 57 = .ok (.getfield 19, 3) := by decide +kernel
theorem d_at_60 : decode c_M_at 60 = .ok (.iload_n 1, 1) := by decide +kernel
theorem d_at_61 : decode c_M_at 61 = .ok (.iload_n 2, 1) := by decide +kernel
theorem d_at_62 : decode c_M_at 62 = .ok (.iload_n 3, 1) := by decide +kernel
theorem d_at_63 : decode c_M_at 63 = .ok (.invokestatic 161, 3) := by decide +kernel
theorem d_at_66 : decode c_M_at 66 = .ok (.iaload, 1) := by decide +kernel
theorem d_at_67 : decode c_M_at 67 = .ok (.ireturn, 1) := by decide +kernel
theorem d_scale_0 : decode c_M_scale 0 = .ok (.aload_n 0, 1) := by decide +kernel
theorem d_scale_1 : decode c_M_scale 1 = .ok (.iload_n 1, 1) := by decide +kernel
theorem d_scale_2 : decode c_M_scale 2 = .ok (.ifCond .eq 8, 3) := by decide +kernel
theorem d_scale_5 : decode c_M_scale 5 = .ok (.iload_n 1, 1) := by decide +kernel
theorem d_scale_6 : decode c_M_scale 6 = .ok (.iconst 1, 1) := by decide +kernel
theorem d_scale_7 : decode c_M_scale 7 = .ok (.if_icmp .ne 31, 3) := by decide +kernel
theorem d_scale_10 : decode c_M_scale 10 = .ok (.iload_n 2, 1) := by decide +kernel
theorem d_scale_11 : decode c_M_scale 11 = .ok (.sipush (-1000), 3) := by decide +kernel
theorem d_scale_14 : decode c_M_scale 14 = .ok (.if_icmp .lt 24, 3) := by decide +kernel
theorem d_scale_17 : decode c_M_scale 17 = .ok (.iload_n 2, 1) := by decide +kernel
theorem d_scale_18 : decode c_M_scale 18 = .ok (.sipush 1000, 3) := by decide +kernel
theorem d_scale_21 : decode c_M_scale 21 = .ok (.if_icmp .gt 17, 3) := by decide +kernel
theorem d_scale_24 : decode c_M_scale 24 = .ok (.iload_n 3, 1) := by decide +kernel
theorem d_scale_25 : decode c_M_scale 25 = .ok (.sipush (-1000), 3) := by decide +kernel
theorem d_scale_28 : decode c_M_scale 28 = .ok (.if_icmp .lt 10, 3) := by decide +kernel
theorem d_scale_31 : decode c_M_scale 31 = .ok (.iload_n 3, 1) := by decide +kernel
theorem d_scale_32 : decode c_M_scale 32 = .ok (.sipush 1000, 3) := by decide +kernel
theorem d_scale_35 : decode c_M_scale 35 = .ok (.if_icmp .le 7, 3) := by decide +kernel
theorem d_scale_38 : decode c_M_scale 38 = .ok (.iconst 1, 1) := by decide +kernel
theorem d_scale_39 : decode c_M_scale 39 = .ok (.goto 4, 3) := by decide +kernel
theorem d_scale_42 : decode c_M_scale 42 = .ok (.iconst 0, 1) := by decide +kernel
theorem d_scale_43 : decode c_M_scale 43 = .ok (.putfield 146, 3) := by decide +kernel
theorem d_scale_46 : decode c_M_scale 46 = .ok (.iconst 0, 1) := by decide +kernel
theorem d_scale_47 : decode c_M_scale 47 = .ok (.istore 4, 2) := by decide +kernel
theorem d_scale_49 : decode c_M_scale 49 = .ok (.iload 4, 2) := by decide +kernel
theorem d_scale_51 : decode c_M_scale 51 = .ok (.bipush 64, 2) := by decide +kernel
theorem d_scale_53 : decode c_M_scale 53 = .ok (.if_icmp .ge 71, 3) := by decide +kernel
theorem d_scale_56 : decode c_M_scale 56 = .ok (.aload_n 0, 1) := by decide +kernel
theorem d_scale_57 : decode c_M_scale 57 = .ok (.getfield 146, 3) := by decide +kernel
theorem d_scale_60 : decode c_M_scale 60 = .ok (.ifCond .ne 64, 3) := by decide +kernel
theorem d_scale_63 : decode c_M_scale 63 = .ok (.iload_n 2, 1) := by decide +kernel
theorem d_scale_64 : decode c_M_scale 64 = .ok (.iload_n 3, 1) := by decide +kernel
theorem d_scale_65 : decode c_M_scale 65 = .ok (.iload 4, 2) := by decide +kernel
theorem d_scale_67 : decode c_M_scale 67 = .ok (.bipush 8, 2) := by decide +kernel
theorem d_scale_69 : decode c_M_scale 69 = .ok (.idiv, 1) := by decide +kernel
theorem d_scale_70 : decode c_M_scale 70 = .ok (.iload 4, 2) := by decide +kernel
theorem d_scale_72 : decode c_M_scale 72 = .ok (.bipush 8, 2) := by decide +kernel
theorem d_scale_74 : decode c_M_scale 74 = .ok (.irem, 1) := by decide +kernel
theorem d_scale_75 : decode c_M_scale 75 = .ok (.iadd, 1) := by decide +kernel
theorem d_scale_76 : decode c_M_scale 76 = .ok (.imul, 1) := by decide +kernel
theorem d_scale_77 : decode c_M_scale 77 = .ok (.iadd, 1) := by decide +kernel
theorem d_scale_78 : decode c_M_scale 78 = .ok (.istore 5, 2) := by decide +kernel
theorem d_scale_80 : decode c_M_scale 80 = .ok (.aload_n 0, 1) := by decide +kernel
theorem d_scale_81 : decode c_M_scale 81 = .ok (.getfield 23, 3) := by decide +kernel
theorem d_scale_84 : decode c_M_scale 84 = .ok (.bipush 64, 2) := by decide +kernel
theorem d_scale_86 : decode c_M_scale 86 = .ok (.iload_n 1, 1) := by decide +kernel
theorem d_scale_87 : decode c_M_scale 87 = .ok (.imul, 1) := by decide +kernel
theorem d_scale_88 : decode c_M_scale 88 = .ok (.iload 4, 2) := by decide +kernel
theorem d_scale_90 : decode c_M_scale 90 = .ok (.iadd, 1) := by decide +kernel
theorem d_scale_91 : decode c_M_scale 91 = .ok (.iload 5, 2) := by decide +kernel
theorem d_scale_93 : decode c_M_scale 93 = .ok (.iconst 1, 1) := by decide +kernel
theorem d_scale_94 : decode c_M_scale 94 = .ok (.if_icmp .ge 7, 3) := by decide +kernel
theorem d_scale_97 : decode c_M_scale 97 = .ok (.iconst 1, 1) := by decide +kernel
theorem d_scale_98 : decode c_M_scale 98 = .ok (.goto 19, 3) := by decide +kernel
theorem d_scale_101 : decode c_M_scale 101 = .ok (.iload 5, 2) := by decide +kernel
theorem d_scale_103 : decode c_M_scale 103 = .ok (.sipush 255, 3) := by decide +kernel
theorem d_scale_106 : decode c_M_scale 106 = .ok (.if_icmp .le 9, 3) := by decide +kernel
theorem d_scale_109 : decode c_M_scale 109 = .ok (.sipush 255, 3) := by decide +kernel
theorem d_scale_112 : decode c_M_scale 112 = .ok (.goto 5, 3) := by decide +kernel
theorem d_scale_115 : decode c_M_scale 115 = .ok (.iload 5, 2) := by decide +kernel
theorem d_scale_117 : decode c_M_scale 117 = .ok (.iastore, 1) := by decide +kernel
theorem d_scale_118 : decode c_M_scale 118 = .ok (.iinc 4 1, 3) := by decide +kernel
theorem d_scale_121 : decode c_M_scale 121 = .ok (.goto (-72), 3) := by decide +kernel
theorem d_scale_124 : decode c_M_scale 124 = .ok (.return_, 1) := by decide +kernel
theorem d_entry_0 : decode c_M_entry 0 = .ok (.aload_n 0, 1) := by decide +kernel
theorem d_entry_1 : decode c_M_entry 1 = .ok (.iload_n 2, 1) := by decide +kernel
theorem d_entry_2 : decode c_M_entry 2 = .ok (.ifCond .lt 19, 3) := by decide +kernel
theorem d_entry_5 : decode c_M_entry 5 = .ok (.iload_n 2, 1) := by decide +kernel
theorem d_entry_6 : decode c_M_entry 6 = .ok (.bipush 7, 2) := by decide +kernel
theorem d_entry_8 : decode c_M_entry 8 = .ok (.if_icmp .gt 13, 3) := by decide +kernel
theorem d_entry_11 : decode c_M_entry 11 = .ok (.iload_n 3, 1) := by decide +kernel
theorem d_entry_12 : decode c_M_entry 12 = .ok (.ifCond .lt 9, 3) := by decide +kernel
theorem d_entry_15 : decode c_M_entry 15 = .ok (.iload_n 3, 1) := by decide +kernel
theorem d_entry_16 : decode c_M_entry 16 = .ok (.bipush 7, 2) := by decide +kernel
theorem d_entry_18 : decode c_M_entry 18 = .ok (.if_icmp .le 7, 3) := by decide +kernel
theorem d_entry_21 : decode c_M_entry 21 = .ok (.iconst 1, 1) := by decide +kernel
theorem d_entry_22 : decode c_M_entry 22 = .ok (.goto 31, 3) := by decide +kernel
theorem d_entry_25 : decode c_M_entry 25 = .ok (.iload_n 1, 1) := by decide +kernel
theorem d_entry_26 : decode c_M_entry 26 = .ok (.ifCond .eq 8, 3) := by decide +kernel
theorem d_entry_29 : decode c_M_entry 29 = .ok (.iload_n 1, 1) := by decide +kernel
theorem d_entry_30 : decode c_M_entry 30 = .ok (.iconst 1, 1) := by decide +kernel
theorem d_entry_31 : decode c_M_entry 31 = .ok (.if_icmp .ne 17, 3) := by decide +kernel
theorem d_entry_34 : decode c_M_entry 34 = .ok (.iload 4, 2) := by decide +kernel
theorem d_entry_36 : decode c_M_entry 36 = .ok (.iconst 1, 1) := by decide +kernel
theorem d_entry_37 : decode c_M_entry 37 = .ok (.if_icmp .lt 11, 3) := by decide +kernel
theorem d_entry_40 : decode c_M_entry 40 = .ok (.iload 4, 2) := by decide +kernel
theorem d_entry_42 : decode c_M_entry 42 = .ok (.sipush 255, 3) := by decide +kernel
theorem d_entry_45 : decode c_M_entry 45 = .ok (.if_icmp .le 7, 3) := by decide +kernel
theorem d_entry_48 : decode c_M_entry 48 = .ok (.iconst 2, 1) := by decide +kernel
theorem d_entry_49 : decode c_M_entry 49 = .ok (.goto 4, 3) := by decide +kernel
theorem d_entry_52 : decode c_M_entry 52 = .ok (.iconst 0, 1) := by decide +kernel
theorem d_entry_53 : decode c_M_entry 53 = .ok (.putfield 146, 3) := by decide +kernel
theorem d_entry_56 : decode c_M_entry 56 = .ok (.aload_n 0, 1) := by decide +kernel
theorem d_entry_57 : decode c_M_entry 57 = .ok (.getfield 146, 3) := by decide +kernel
theorem d_entry_60 : decode c_M_entry 60 = .ok (.ifCond .ne 21, 3) := by decide +kernel
theorem d_entry_63 : decode c_M_entry 63 = .ok (.aload_n 0, 1) := by decide +kernel
theorem d_entry_64 : decode c_M_entry 64 = .ok (.getfield 23, 3) := by decide +kernel
theorem d_entry_67 : decode c_M_entry 67 = .ok (.bipush 64, 2) := by decide +kernel
theorem d_entry_69 : decode c_M_entry 69 = .ok (.iload_n 1, 1) := by decide +kernel
theorem d_entry_70 : decode c_M_entry 70 = .ok (.imul, 1) := by decide +kernel
theorem d_entry_71 : decode c_M_entry 71 = .ok (.bipush 8, 2) := by decide +kernel
theorem d_entry_73 : decode c_M_entry 73 = .ok (.iload_n 2, 1) := by decide +kernel
theorem d_entry_74 : decode c_M_entry 74 = .ok (.imul, 1) := by decide +kernel
theorem d_entry_75 : decode c_M_entry 75 = .ok (.iadd, 1) := by decide +kernel
theorem d_entry_76 : decode c_M_entry 76 = .ok (.iload_n 3, 1) := by decide +kernel
theorem d_entry_77 : decode c_M_entry 77 = .ok (.iadd, 1) := by decide +kernel
theorem d_entry_78 : decode c_M_entry 78 = .ok (.iload 4, 2) := by decide +kernel
theorem d_entry_80 : decode c_M_entry 80 = .ok (.iastore, 1) := by decide +kernel
theorem d_entry_81 : decode c_M_entry 81 = .ok (.return_, 1) := by decide +kernel
theorem d_toWeights_0 : decode c_M_toWeights 0 = .ok (.iconst 0, 1) := by decide +kernel
theorem d_toWeights_1 : decode c_M_toWeights 1 = .ok (.istore_n 1, 1) := by decide +kernel
theorem d_toWeights_2 : decode c_M_toWeights 2 = .ok (.iload_n 1, 1) := by decide +kernel
theorem d_toWeights_3 : decode c_M_toWeights 3 = .ok (.bipush 8, 2) := by decide +kernel
theorem d_toWeights_5 : decode c_M_toWeights 5 = .ok (.if_icmp .ge 92, 3) := by decide +kernel
theorem d_toWeights_8 : decode c_M_toWeights 8 = .ok (.iconst 0, 1) := by decide +kernel
theorem d_toWeights_9 : decode c_M_toWeights 9 = .ok (.istore_n 2, 1) := by decide +kernel
theorem d_toWeights_10 : decode c_M_toWeights 10 = .ok (.iload_n 2, 1) := by decide +kernel
theorem d_toWeights_11 : decode c_M_toWeights 11 = .ok (.bipush 8, 2) := by decide +kernel
theorem d_toWeights_13 : decode c_M_toWeights 13 = .ok (.if_icmp .ge 78, 3) := by decide +kernel
theorem d_toWeights_16 : decode c_M_toWeights 16 = .ok (.ldc2_w 165, 3) := by decide +kernel
theorem d_toWeights_19 : decode c_M_toWeights 19 = .ok (.lstore_n 3, 1) := by decide +kernel
theorem d_toWeights_20 : decode c_M_toWeights 20 = .ok (.iconst 0, 1) := by decide +kernel
theorem d_toWeights_21 : decode c_M_toWeights 21 = .ok (.istore 5, 2) := by decide +kernel
theorem d_toWeights_23 : decode c_M_toWeights 23 = .ok (.iload 5, 2) := by decide +kernel
theorem d_toWeights_25 : decode c_M_toWeights 25 = .ok (.bipush 8, 2) := by decide +kernel
theorem d_toWeights_27 : decode c_M_toWeights 27 = .ok (.if_icmp .ge 43, 3) := by decide +kernel
theorem d_toWeights_30 : decode c_M_toWeights 30 = .ok (.lload_n 3, 1) := by decide +kernel
theorem d_toWeights_31 : decode c_M_toWeights 31 = .ok (.aload_n 0, 1) := by decide +kernel
theorem d_toWeights_32 : decode c_M_toWeights 32 = .ok (.getfield 75, 3) := by decide +kernel
theorem d_toWeights_35 : decode c_M_toWeights 35 = .ok (.bipush 8, 2) := by decide +kernel
theorem d_toWeights_37 : decode c_M_toWeights 37 = .ok (.iload 5, 2) := by decide +kernel
theorem d_toWeights_39 : decode c_M_toWeights 39 = .ok (.imul, 1) := by decide +kernel
theorem d_toWeights_40 : decode c_M_toWeights 40 = .ok (.iload_n 2, 1) := by decide +kernel
theorem d_toWeights_41 : decode c_M_toWeights 41 = .ok (.iadd, 1) := by decide +kernel
theorem d_toWeights_42 : decode c_M_toWeights 42 = .ok (.iaload, 1) := by decide +kernel
theorem d_toWeights_43 : decode c_M_toWeights 43 = .ok (.i2l, 1) := by decide +kernel
theorem d_toWeights_44 : decode c_M_toWeights 44 = .ok (.aload_n 0, 1) := by decide +kernel
theorem d_toWeights_45 : decode c_M_toWeights 45 = .ok (.getfield 82, 3) := by decide +kernel
theorem d_toWeights_48 : decode c_M_toWeights 48 = .ok (.bipush 8, 2) := by decide +kernel
theorem d_toWeights_50 : decode c_M_toWeights 50 = .ok (.iload_n 1, 1) := by decide +kernel
theorem d_toWeights_51 : decode c_M_toWeights 51 = .ok (.imul, 1) := by decide +kernel
theorem d_toWeights_52 : decode c_M_toWeights 52 = .ok (.iload 5, 2) := by decide +kernel
theorem d_toWeights_54 : decode c_M_toWeights 54 = .ok (.iadd, 1) := by decide +kernel
theorem d_toWeights_55 : decode c_M_toWeights 55 = .ok (.iaload, 1) := by decide +kernel
theorem d_toWeights_56 : decode c_M_toWeights 56 = .ok (.sipush 128, 3) := by decide +kernel
theorem d_toWeights_59 : decode c_M_toWeights 59 = .ok (.isub, 1) := by decide +kernel
theorem d_toWeights_60 : decode c_M_toWeights 60 = .ok (.i2l, 1) := by decide +kernel
theorem d_toWeights_61 : decode c_M_toWeights 61 = .ok (.lmul, 1) := by decide +kernel
theorem d_toWeights_62 : decode c_M_toWeights 62 = .ok (.ladd, 1) := by decide +kernel
theorem d_toWeights_63 : decode c_M_toWeights 63 = .ok (.lstore_n 3, 1) := by decide +kernel
theorem d_toWeights_64 : decode c_M_toWeights 64 = .ok (.iinc 5 1, 3) := by decide +kernel
theorem d_toWeights_67 : decode c_M_toWeights 67 = .ok (.goto (-44), 3) := by decide +kernel
theorem d_toWeights_70 : decode c_M_toWeights 70 = .ok (.aload_n 0, 1) := by decide +kernel
theorem d_toWeights_71 : decode c_M_toWeights 71 = .ok (.getfield 78, 3) := by decide +kernel
theorem d_toWeights_74 : decode c_M_toWeights 74 = .ok (.bipush 8, 2) := by decide +kernel
theorem d_toWeights_76 : decode c_M_toWeights 76 = .ok (.iload_n 1, 1) := by decide +kernel
theorem d_toWeights_77 : decode c_M_toWeights 77 = .ok (.imul, 1) := by decide +kernel
theorem d_toWeights_78 : decode c_M_toWeights 78 = .ok (.iload_n 2, 1) := by decide +kernel
theorem d_toWeights_79 : decode c_M_toWeights 79 = .ok (.iadd, 1) := by decide +kernel
theorem d_toWeights_80 : decode c_M_toWeights 80 = .ok (.lload_n 3, 1) := by decide +kernel
theorem d_toWeights_81 : decode c_M_toWeights 81 = .ok (.bipush 9, 2) := by decide +kernel
theorem d_toWeights_83 : decode c_M_toWeights 83 = .ok (.lshr, 1) := by decide +kernel
theorem d_toWeights_84 : decode c_M_toWeights 84 = .ok (.lastore, 1) := by decide +kernel
theorem d_toWeights_85 : decode c_M_toWeights 85 = .ok (.iinc 2 1, 3) := by decide +kernel
theorem d_toWeights_88 : decode c_M_toWeights 88 = .ok (.goto (-78), 3) := by decide +kernel
theorem d_toWeights_91 : decode c_M_toWeights 91 = .ok (.iinc 1 1, 3) := by decide +kernel
theorem d_toWeights_94 : decode c_M_toWeights 94 = .ok (.goto (-92), 3) := by decide +kernel
theorem d_toWeights_97 : decode c_M_toWeights 97 = .ok (.iconst 0, 1) := by decide +kernel
theorem d_toWeights_98 : decode c_M_toWeights 98 = .ok (.istore_n 1, 1) := by decide +kernel
theorem d_toWeights_99 : decode c_M_toWeights 99 = .ok (.iload_n 1, 1) := by decide +kernel
theorem d_toWeights_100 : decode c_M_toWeights 100 = .ok (.bipush 8, 2) := by decide +kernel
theorem d_toWeights_102 : decode c_M_toWeights 102 = .ok (.if_icmp .ge 88, 3) := by decide +kernel
theorem d_toWeights_105 : decode c_M_toWeights 105 = .ok (.iconst 0, 1) := by decide +kernel
theorem d_toWeights_106 : decode c_M_toWeights 106 = .ok (.istore_n 2, 1) := by decide +kernel
theorem d_toWeights_107 : decode c_M_toWeights 107 = .ok (.iload_n 2, 1) := by decide +kernel
theorem d_toWeights_108 : decode c_M_toWeights 108 = .ok (.bipush 8, 2) := by decide +kernel
theorem d_toWeights_110 : decode c_M_toWeights 110 = .ok (.if_icmp .ge 74, 3) := by decide +kernel
theorem d_toWeights_113 : decode c_M_toWeights 113 = .ok (.ldc2_w 167, 3) := by decide +kernel
theorem d_toWeights_116 : decode c_M_toWeights 116 = .ok (.lstore_n 3, 1) := by decide +kernel
theorem d_toWeights_117 : decode c_M_toWeights 117 = .ok (.iconst 0, 1) := by decide +kernel
theorem d_toWeights_118 : decode c_M_toWeights 118 = .ok (.istore 5, 2) := by decide +kernel
theorem d_toWeights_120 : decode c_M_toWeights 120 = .ok (.iload 5, 2) := by decide +kernel
theorem d_toWeights_122 : decode c_M_toWeights 122 = .ok (.bipush 8, 2) := by decide +kernel
theorem d_toWeights_124 : decode c_M_toWeights 124 = .ok (.if_icmp .ge 38, 3) := by decide +kernel
theorem d_toWeights_127 : decode c_M_toWeights 127 = .ok (.lload_n 3, 1) := by decide +kernel
theorem d_toWeights_128 : decode c_M_toWeights 128 = .ok (.aload_n 0, 1) := by decide +kernel
theorem d_toWeights_129 : decode c_M_toWeights 129 = .ok (.getfield 75, 3) := by decide +kernel
theorem d_toWeights_132 : decode c_M_toWeights 132 = .ok (.bipush 8, 2) := by decide +kernel
theorem d_toWeights_134 : decode c_M_toWeights 134 = .ok (.iload 5, 2) := by decide +kernel
theorem d_toWeights_136 : decode c_M_toWeights 136 = .ok (.imul, 1) := by decide +kernel
theorem d_toWeights_137 : decode c_M_toWeights 137 = .ok (.iload_n 2, 1) := by decide +kernel
theorem d_toWeights_138 : decode c_M_toWeights 138 = .ok (.iadd, 1) := by decide +kernel
theorem d_toWeights_139 : decode c_M_toWeights 139 = .ok (.iaload, 1) := by decide +kernel
theorem d_toWeights_140 : decode c_M_toWeights 140 = .ok (.i2l, 1) := by decide +kernel
theorem d_toWeights_141 : decode c_M_toWeights 141 = .ok (.aload_n 0, 1) := by decide +kernel
theorem d_toWeights_142 : decode c_M_toWeights 142 = .ok (.getfield 78, 3) := by decide +kernel
theorem d_toWeights_145 : decode c_M_toWeights 145 = .ok (.bipush 8, 2) := by decide +kernel
theorem d_toWeights_147 : decode c_M_toWeights 147 = .ok (.iload 5, 2) := by decide +kernel
theorem d_toWeights_149 : decode c_M_toWeights 149 = .ok (.imul, 1) := by decide +kernel
theorem d_toWeights_150 : decode c_M_toWeights 150 = .ok (.iload_n 1, 1) := by decide +kernel
theorem d_toWeights_151 : decode c_M_toWeights 151 = .ok (.iadd, 1) := by decide +kernel
theorem d_toWeights_152 : decode c_M_toWeights 152 = .ok (.laload, 1) := by decide +kernel
theorem d_toWeights_153 : decode c_M_toWeights 153 = .ok (.lmul, 1) := by decide +kernel
theorem d_toWeights_154 : decode c_M_toWeights 154 = .ok (.ladd, 1) := by decide +kernel
theorem d_toWeights_155 : decode c_M_toWeights 155 = .ok (.lstore_n 3, 1) := by decide +kernel
theorem d_toWeights_156 : decode c_M_toWeights 156 = .ok (.iinc 5 1, 3) := by decide +kernel
theorem d_toWeights_159 : decode c_M_toWeights 159 = .ok (.goto (-39), 3) := by decide +kernel
theorem d_toWeights_162 : decode c_M_toWeights 162 = .ok (.aload_n 0, 1) := by decide +kernel
theorem d_toWeights_163 : decode c_M_toWeights 163 = .ok (.getfield 82, 3) := by decide +kernel
theorem d_toWeights_166 : decode c_M_toWeights 166 = .ok (.bipush 8, 2) := by decide +kernel
theorem d_toWeights_168 : decode c_M_toWeights 168 = .ok (.iload_n 2, 1) := by decide +kernel
theorem d_toWeights_169 : decode c_M_toWeights 169 = .ok (.imul, 1) := by decide +kernel
theorem d_toWeights_170 : decode c_M_toWeights 170 = .ok (.iload_n 1, 1) := by decide +kernel
theorem d_toWeights_171 : decode c_M_toWeights 171 = .ok (.iadd, 1) := by decide +kernel
theorem d_toWeights_172 : decode c_M_toWeights 172 = .ok (.lload_n 3, 1) := by decide +kernel
theorem d_toWeights_173 : decode c_M_toWeights 173 = .ok (.bipush 17, 2) := by decide +kernel
theorem d_toWeights_175 : decode c_M_toWeights 175 = .ok (.lshr, 1) := by decide +kernel
theorem d_toWeights_176 : decode c_M_toWeights 176 = .ok (.l2i, 1) := by decide +kernel
theorem d_toWeights_177 : decode c_M_toWeights 177 = .ok (.iastore, 1) := by decide +kernel
theorem d_toWeights_178 : decode c_M_toWeights 178 = .ok (.iinc 2 1, 3) := by decide +kernel
theorem d_toWeights_181 : decode c_M_toWeights 181 = .ok (.goto (-74), 3) := by decide +kernel
theorem d_toWeights_184 : decode c_M_toWeights 184 = .ok (.iinc 1 1, 3) := by decide +kernel
theorem d_toWeights_187 : decode c_M_toWeights 187 = .ok (.goto (-88), 3) := by decide +kernel
theorem d_toWeights_190 : decode c_M_toWeights 190 = .ok (.return_, 1) := by decide +kernel
theorem d_toSamples_0 : decode c_M_toSamples 0 = .ok (.iconst 0, 1) := by decide +kernel
theorem d_toSamples_1 : decode c_M_toSamples 1 = .ok (.istore_n 1, 1) := by decide +kernel
theorem d_toSamples_2 : decode c_M_toSamples 2 = .ok (.iload_n 1, 1) := by decide +kernel
theorem d_toSamples_3 : decode c_M_toSamples 3 = .ok (.bipush 8, 2) := by decide +kernel
theorem d_toSamples_5 : decode c_M_toSamples 5 = .ok (.if_icmp .ge 88, 3) := by decide +kernel
theorem d_toSamples_8 : decode c_M_toSamples 8 = .ok (.iconst 0, 1) := by decide +kernel
theorem d_toSamples_9 : decode c_M_toSamples 9 = .ok (.istore_n 2, 1) := by decide +kernel
theorem d_toSamples_10 : decode c_M_toSamples 10 = .ok (.iload_n 2, 1) := by decide +kernel
theorem d_toSamples_11 : decode c_M_toSamples 11 = .ok (.bipush 8, 2) := by decide +kernel
theorem d_toSamples_13 : decode c_M_toSamples 13 = .ok (.if_icmp .ge 74, 3) := by decide +kernel
theorem d_toSamples_16 : decode c_M_toSamples 16 = .ok (.ldc2_w 165, 3) := by decide +kernel
theorem d_toSamples_19 : decode c_M_toSamples 19 = .ok (.lstore_n 3, 1) := by decide +kernel
theorem d_toSamples_20 : decode c_M_toSamples 20 = .ok (.iconst 0, 1) := by decide +kernel
theorem d_toSamples_21 : decode c_M_toSamples 21 = .ok (.istore 5, 2) := by decide +kernel
theorem d_toSamples_23 : decode c_M_toSamples 23 = .ok (.iload 5, 2) := by decide +kernel
theorem d_toSamples_25 : decode c_M_toSamples 25 = .ok (.bipush 8, 2) := by decide +kernel
theorem d_toSamples_27 : decode c_M_toSamples 27 = .ok (.if_icmp .ge 39, 3) := by decide +kernel
theorem d_toSamples_30 : decode c_M_toSamples 30 = .ok (.lload_n 3, 1) := by decide +kernel
theorem d_toSamples_31 : decode c_M_toSamples 31 = .ok (.aload_n 0, 1) := by decide +kernel
theorem d_toSamples_32 : decode c_M_toSamples 32 = .ok (.getfield 75, 3) := by decide +kernel
theorem d_toSamples_35 : decode c_M_toSamples 35 = .ok (.bipush 8, 2) := by decide +kernel
theorem d_toSamples_37 : decode c_M_toSamples 37 = .ok (.iload_n 2, 1) := by decide +kernel
theorem d_toSamples_38 : decode c_M_toSamples 38 = .ok (.imul, 1) := by decide +kernel
theorem d_toSamples_39 : decode c_M_toSamples 39 = .ok (.iload 5, 2) := by decide +kernel
theorem d_toSamples_41 : decode c_M_toSamples 41 = .ok (.iadd, 1) := by decide +kernel
theorem d_toSamples_42 : decode c_M_toSamples 42 = .ok (.iaload, 1) := by decide +kernel
theorem d_toSamples_43 : decode c_M_toSamples 43 = .ok (.i2l, 1) := by decide +kernel
theorem d_toSamples_44 : decode c_M_toSamples 44 = .ok (.aload_n 0, 1) := by decide +kernel
theorem d_toSamples_45 : decode c_M_toSamples 45 = .ok (.getfield 82, 3) := by decide +kernel
theorem d_toSamples_48 : decode c_M_toSamples 48 = .ok (.bipush 8, 2) := by decide +kernel
theorem d_toSamples_50 : decode c_M_toSamples 50 = .ok (.iload_n 1, 1) := by decide +kernel
theorem d_toSamples_51 : decode c_M_toSamples 51 = .ok (.imul, 1) := by decide +kernel
theorem d_toSamples_52 : decode c_M_toSamples 52 = .ok (.iload 5, 2) := by decide +kernel
theorem d_toSamples_54 : decode c_M_toSamples 54 = .ok (.iadd, 1) := by decide +kernel
theorem d_toSamples_55 : decode c_M_toSamples 55 = .ok (.iaload, 1) := by decide +kernel
theorem d_toSamples_56 : decode c_M_toSamples 56 = .ok (.i2l, 1) := by decide +kernel
theorem d_toSamples_57 : decode c_M_toSamples 57 = .ok (.lmul, 1) := by decide +kernel
theorem d_toSamples_58 : decode c_M_toSamples 58 = .ok (.ladd, 1) := by decide +kernel
theorem d_toSamples_59 : decode c_M_toSamples 59 = .ok (.lstore_n 3, 1) := by decide +kernel
theorem d_toSamples_60 : decode c_M_toSamples 60 = .ok (.iinc 5 1, 3) := by decide +kernel
theorem d_toSamples_63 : decode c_M_toSamples 63 = .ok (.goto (-40), 3) := by decide +kernel
theorem d_toSamples_66 : decode c_M_toSamples 66 = .ok (.aload_n 0, 1) := by decide +kernel
theorem d_toSamples_67 : decode c_M_toSamples 67 = .ok (.getfield 78, 3) := by decide +kernel
theorem d_toSamples_70 : decode c_M_toSamples 70 = .ok (.bipush 8, 2) := by decide +kernel
theorem d_toSamples_72 : decode c_M_toSamples 72 = .ok (.iload_n 1, 1) := by decide +kernel
theorem d_toSamples_73 : decode c_M_toSamples 73 = .ok (.imul, 1) := by decide +kernel
theorem d_toSamples_74 : decode c_M_toSamples 74 = .ok (.iload_n 2, 1) := by decide +kernel
theorem d_toSamples_75 : decode c_M_toSamples 75 = .ok (.iadd, 1) := by decide +kernel
theorem d_toSamples_76 : decode c_M_toSamples 76 = .ok (.lload_n 3, 1) := by decide +kernel
theorem d_toSamples_77 : decode c_M_toSamples 77 = .ok (.bipush 9, 2) := by decide +kernel
theorem d_toSamples_79 : decode c_M_toSamples 79 = .ok (.lshr, 1) := by decide +kernel
theorem d_toSamples_80 : decode c_M_toSamples 80 = .ok (.lastore, 1) := by decide +kernel
theorem d_toSamples_81 : decode c_M_toSamples 81 = .ok (.iinc 2 1, 3) := by decide +kernel
theorem d_toSamples_84 : decode c_M_toSamples 84 = .ok (.goto (-74), 3) := by decide +kernel
theorem d_toSamples_87 : decode c_M_toSamples 87 = .ok (.iinc 1 1, 3) := by decide +kernel
theorem d_toSamples_90 : decode c_M_toSamples 90 = .ok (.goto (-88), 3) := by decide +kernel
theorem d_toSamples_93 : decode c_M_toSamples 93 = .ok (.iconst 0, 1) := by decide +kernel
theorem d_toSamples_94 : decode c_M_toSamples 94 = .ok (.istore_n 1, 1) := by decide +kernel
theorem d_toSamples_95 : decode c_M_toSamples 95 = .ok (.iload_n 1, 1) := by decide +kernel
theorem d_toSamples_96 : decode c_M_toSamples 96 = .ok (.bipush 8, 2) := by decide +kernel
theorem d_toSamples_98 : decode c_M_toSamples 98 = .ok (.if_icmp .ge 118, 3) := by decide +kernel
theorem d_toSamples_101 : decode c_M_toSamples 101 = .ok (.iconst 0, 1) := by decide +kernel
theorem d_toSamples_102 : decode c_M_toSamples 102 = .ok (.istore_n 2, 1) := by decide +kernel
theorem d_toSamples_103 : decode c_M_toSamples 103 = .ok (.iload_n 2, 1) := by decide +kernel
theorem d_toSamples_104 : decode c_M_toSamples 104 = .ok (.bipush 8, 2) := by decide +kernel
theorem d_toSamples_106 : decode c_M_toSamples 106 = .ok (.if_icmp .ge 104, 3) := by decide +kernel
theorem d_toSamples_109 : decode c_M_toSamples 109 = .ok (.ldc2_w 167, 3) := by decide +kernel
theorem d_toSamples_112 : decode c_M_toSamples 112 = .ok (.lstore_n 3, 1) := by decide +kernel
theorem d_toSamples_113 : decode c_M_toSamples 113 = .ok (.iconst 0, 1) := by decide +kernel
theorem d_toSamples_114 : decode c_M_toSamples 114 = .ok (.istore 5, 2) := by decide +kernel
theorem d_toSamples_116 : decode c_M_toSamples 116 = .ok (.iload 5, 2) := by decide +kernel
theorem d_toSamples_118 : decode c_M_toSamples 118 = .ok (.bipush 8, 2) := by decide +kernel
theorem d_toSamples_120 : decode c_M_toSamples 120 = .ok (.if_icmp .ge 38, 3) := by decide +kernel
theorem d_toSamples_123 : decode c_M_toSamples 123 = .ok (.lload_n 3, 1) := by decide +kernel
theorem d_toSamples_124 : decode c_M_toSamples 124 = .ok (.aload_n 0, 1) := by decide +kernel
theorem d_toSamples_125 : decode c_M_toSamples 125 = .ok (.getfield 75, 3) := by decide +kernel
theorem d_toSamples_128 : decode c_M_toSamples 128 = .ok (.bipush 8, 2) := by decide +kernel
theorem d_toSamples_130 : decode c_M_toSamples 130 = .ok (.iload_n 1, 1) := by decide +kernel
theorem d_toSamples_131 : decode c_M_toSamples 131 = .ok (.imul, 1) := by decide +kernel
theorem d_toSamples_132 : decode c_M_toSamples 132 = .ok (.iload 5, 2) := by decide +kernel
theorem d_toSamples_134 : decode c_M_toSamples 134 = .ok (.iadd, 1) := by decide +kernel
theorem d_toSamples_135 : decode c_M_toSamples 135 = .ok (.iaload, 1) := by decide +kernel
theorem d_toSamples_136 : decode c_M_toSamples 136 = .ok (.i2l, 1) := by decide +kernel
theorem d_toSamples_137 : decode c_M_toSamples 137 = .ok (.aload_n 0, 1) := by decide +kernel
theorem d_toSamples_138 : decode c_M_toSamples 138 = .ok (.getfield 78, 3) := by decide +kernel
theorem d_toSamples_141 : decode c_M_toSamples 141 = .ok (.bipush 8, 2) := by decide +kernel
theorem d_toSamples_143 : decode c_M_toSamples 143 = .ok (.iload 5, 2) := by decide +kernel
theorem d_toSamples_145 : decode c_M_toSamples 145 = .ok (.imul, 1) := by decide +kernel
theorem d_toSamples_146 : decode c_M_toSamples 146 = .ok (.iload_n 2, 1) := by decide +kernel
theorem d_toSamples_147 : decode c_M_toSamples 147 = .ok (.iadd, 1) := by decide +kernel
theorem d_toSamples_148 : decode c_M_toSamples 148 = .ok (.laload, 1) := by decide +kernel
theorem d_toSamples_149 : decode c_M_toSamples 149 = .ok (.lmul, 1) := by decide +kernel
theorem d_toSamples_150 : decode c_M_toSamples 150 = .ok (.ladd, 1) := by decide +kernel
theorem d_toSamples_151 : decode c_M_toSamples 151 = .ok (.lstore_n 3, 1) := by decide +kernel
theorem d_toSamples_152 : decode c_M_toSamples 152 = .ok (.iinc 5 1, 3) := by decide +kernel
theorem d_toSamples_155 : decode c_M_toSamples 155 = .ok (.goto (-39), 3) := by decide +kernel
theorem d_toSamples_158 : decode c_M_toSamples 158 = .ok (.ldc2_w 169, 3) := by decide +kernel
theorem d_toSamples_161 : decode c_M_toSamples 161 = .ok (.lload_n 3, 1) := by decide +kernel
theorem d_toSamples_162 : decode c_M_toSamples 162 = .ok (.bipush 17, 2) := by decide +kernel
theorem d_toSamples_164 : decode c_M_toSamples 164 = .ok (.lshr, 1) := by decide +kernel
theorem d_toSamples_165 : decode c_M_toSamples 165 = .ok (.ladd, 1) := by decide +kernel
theorem d_toSamples_166 : decode c_M_toSamples 166 = .ok (.lstore_n 3, 1) := by decide +kernel
theorem d_toSamples_167 : decode c_M_toSamples 167 = .ok (.aload_n 0, 1) := by decide +kernel
theorem d_toSamples_168 : decode c_M_toSamples 168 = .ok (.getfield 82, 3) := by decide +kernel
theorem d_toSamples_171 : decode c_M_toSamples 171 = .ok (.bipush 8, 2) := by decide +kernel
theorem d_toSamples_173 : decode c_M_toSamples 173 = .ok (.iload_n 1, 1) := by decide +kernel
theorem d_toSamples_174 : decode c_M_toSamples 174 = .ok (.imul, 1) := by decide +kernel
theorem d_toSamples_175 : decode c_M_toSamples 175 = .ok (.iload_n 2, 1) := by decide +kernel
theorem d_toSamples_176 : decode c_M_toSamples 176 = .ok (.iadd, 1) := by decide +kernel
theorem d_toSamples_177 : decode c_M_toSamples 177 = .ok (.lload_n 3, 1) := by decide +kernel
theorem d_toSamples_178 : decode c_M_toSamples 178 = .ok (.lconst 0, 1) := by decide +kernel
theorem d_toSamples_179 : decode c_M_toSamples 179 = .ok (.lcmp, 1) := by decide +kernel
theorem d_toSamples_180 : decode c_M_toSamples 180 = .ok (.ifCond .ge 7, 3) := by decide +kernel
theorem d_toSamples_183 : decode c_M_toSamples 183 = .ok (.iconst 0, 1) := by decide +kernel
theorem d_toSamples_184 : decode c_M_toSamples 184 = .ok (.goto 19, 3) := by decide +kernel
theorem d_toSamples_187 : decode c_M_toSamples 187 = .ok (.lload_n 3, 1) := by decide +kernel
theorem d_toSamples_188 : decode c_M_toSamples 188 = .ok (.ldc2_w 171, 3) := by decide +kernel
theorem d_toSamples_191 : decode c_M_toSamples 191 = .ok (.lcmp, 1) := by decide +kernel
theorem d_toSamples_192 : decode c_M_toSamples 192 = .ok (.ifCond .le 9, 3) := by decide +kernel
theorem d_toSamples_195 : decode c_M_toSamples 195 = .ok (.sipush 255, 3) := by decide +kernel
theorem d_toSamples_198 : decode c_M_toSamples 198 = .ok (.goto 5, 3) := by decide +kernel
theorem d_toSamples_201 : decode c_M_toSamples 201 = .ok (.lload_n 3, 1) := by decide +kernel
theorem d_toSamples_202 : decode c_M_toSamples 202 = .ok (.l2i, 1) := by decide +kernel
theorem d_toSamples_203 : decode c_M_toSamples 203 = .ok (.iastore, 1) := by decide +kernel
theorem d_toSamples_204 : decode c_M_toSamples 204 = .ok (.iinc 2 1, 3) := by decide +kernel
theorem d_toSamples_207 : decode c_M_toSamples 207 = .ok (.goto (-104), 3) := by decide +kernel
theorem d_toSamples_210 : decode c_M_toSamples 210 = .ok (.iinc 1 1, 3) := by decide +kernel
theorem d_toSamples_213 : decode c_M_toSamples 213 = .ok (.goto (-118), 3) := by decide +kernel
theorem d_toSamples_216 : decode c_M_toSamples 216 = .ok (.return_, 1) := by decide +kernel
theorem d_upward_0 : decode c_M_upward 0 = .ok (.iload_n 0, 1) := by decide +kernel
theorem d_upward_1 : decode c_M_upward 1 = .ok (.iload_n 1, 1) := by decide +kernel
theorem d_upward_2 : decode c_M_upward 2 = .ok (.iadd, 1) := by decide +kernel
theorem d_upward_3 : decode c_M_upward 3 = .ok (.iconst 1, 1) := by decide +kernel
theorem d_upward_4 : decode c_M_upward 4 = .ok (.isub, 1) := by decide +kernel
theorem d_upward_5 : decode c_M_upward 5 = .ok (.iload_n 1, 1) := by decide +kernel
theorem d_upward_6 : decode c_M_upward 6 = .ok (.idiv, 1) := by decide +kernel
theorem d_upward_7 : decode c_M_upward 7 = .ok (.ireturn, 1) := by decide +kernel
theorem d_greatest_0 : decode c_M_greatest 0 = .ok (.iconst 1, 1) := by decide +kernel
theorem d_greatest_1 : decode c_M_greatest 1 = .ok (.istore_n 3, 1) := by decide +kernel
theorem d_greatest_2 : decode c_M_greatest 2 = .ok (.iconst 0, 1) := by decide +kernel
theorem d_greatest_3 : decode c_M_greatest 3 = .ok (.istore 4, 2) := by decide +kernel
theorem d_greatest_5 : decode c_M_greatest 5 = .ok (.iload 4, 2) := by decide +kernel
theorem d_greatest_7 : decode c_M_greatest 7 = .ok (.aload_n 0, 1) := by decide +kernel
theorem d_greatest_8 : decode c_M_greatest 8 = .ok (.getfield 47, 3) := by decide +kernel
theorem d_greatest_11 : decode c_M_greatest 11 = .ok (.iload_n 1, 1) := by decide +kernel
theorem d_greatest_12 : decode c_M_greatest 12 = .ok (.iaload, 1) := by decide +kernel
theorem d_greatest_13 : decode c_M_greatest 13 = .ok (.if_icmp .ge 53, 3) := by decide +kernel
theorem d_greatest_16 : decode c_M_greatest 16 = .ok (.iload_n 2, 1) := by decide +kernel
theorem d_greatest_17 : decode c_M_greatest 17 = .ok (.ifCond .eq 17, 3) := by decide +kernel
theorem d_greatest_20 : decode c_M_greatest 20 = .ok (.aload_n 0, 1) := by decide +kernel
theorem d_greatest_21 : decode c_M_greatest 21 = .ok (.getfield 50, 3) := by decide +kernel
theorem d_greatest_24 : decode c_M_greatest 24 = .ok (.iconst 3, 1) := by decide +kernel
theorem d_greatest_25 : decode c_M_greatest 25 = .ok (.iload_n 1, 1) := by decide +kernel
theorem d_greatest_26 : decode c_M_greatest 26 = .ok (.imul, 1) := by decide +kernel
theorem d_greatest_27 : decode c_M_greatest 27 = .ok (.iload 4, 2) := by decide +kernel
theorem d_greatest_29 : decode c_M_greatest 29 = .ok (.iadd, 1) := by decide +kernel
theorem d_greatest_30 : decode c_M_greatest 30 = .ok (.iaload, 1) := by decide +kernel
theorem d_greatest_31 : decode c_M_greatest 31 = .ok (.goto 14, 3) := by decide +kernel
theorem d_greatest_34 : decode c_M_greatest 34 = .ok (.aload_n 0, 1) := by decide +kernel
theorem d_greatest_35 : decode c_M_greatest 35 = .ok (.getfield 53, 3) := by decide +kernel
theorem d_greatest_38 : decode c_M_greatest 38 = .ok (.iconst 3, 1) := by decide +kernel
theorem d_greatest_39 : decode c_M_greatest 39 = .ok (.iload_n 1, 1) := by decide +kernel
theorem d_greatest_40 : decode c_M_greatest 40 = .ok (.imul, 1) := by decide +kernel
theorem d_greatest_41 : decode c_M_greatest 41 = .ok (.iload 4, 2) := by decide +kernel
theorem d_greatest_43 : decode c_M_greatest 43 = .ok (.iadd, 1) := by decide +kernel
theorem d_greatest_44 : decode c_M_greatest 44 = .ok (.iaload, 1) := by decide +kernel
theorem d_greatest_45 : decode c_M_greatest 45 = .ok (.istore 5, 2) := by decide +kernel
theorem d_greatest_47 : decode c_M_greatest 47 = .ok (.iload 5, 2) := by decide +kernel
theorem d_greatest_49 : decode c_M_greatest 49 = .ok (.iload_n 3, 1) := by decide +kernel
theorem d_greatest_50 : decode c_M_greatest 50 = .ok (.if_icmp .le 8, 3) := by decide +kernel
theorem d_greatest_53 : decode c_M_greatest 53 = .ok (.iload 5, 2) := by decide +kernel
theorem d_greatest_55 : decode c_M_greatest 55 = .ok (.goto 4, 3) := by decide +kernel
theorem d_greatest_58 : decode c_M_greatest 58 = .ok (.iload_n 3, 1) := by decide +kernel
theorem d_greatest_59 : decode c_M_greatest 59 = .ok (.istore_n 3, 1) := by decide +kernel
theorem d_greatest_60 : decode c_M_greatest 60 = .ok (.iinc 4 1, 3) := by decide +kernel
theorem d_greatest_63 : decode c_M_greatest 63 = .ok (.goto (-58), 3) := by decide +kernel
theorem d_greatest_66 : decode c_M_greatest 66 = .ok (.iload_n 3, 1) := by decide +kernel
theorem d_greatest_67 : decode c_M_greatest 67 = .ok (.ireturn, 1) := by decide +kernel
