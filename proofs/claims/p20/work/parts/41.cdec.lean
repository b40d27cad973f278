theorem dc_Ar_fillI_0 : decode c_C_Ar_fillI 0 = .ok (.iconst 0, 1) := by decide +kernel
theorem dc_Ar_fillI_1 : decode c_C_Ar_fillI 1 = .ok (.istore_n 2, 1) := by decide +kernel
theorem dc_Ar_fillI_2 : decode c_C_Ar_fillI 2 = .ok (.aload_n 0, 1) := by decide +kernel
theorem dc_Ar_fillI_3 : decode c_C_Ar_fillI 3 = .ok (.arraylength, 1) := by decide +kernel
theorem dc_Ar_fillI_4 : decode c_C_Ar_fillI 4 = .ok (.istore_n 3, 1) := by decide +kernel
theorem dc_Ar_fillI_5 : decode c_C_Ar_fillI 5 = .ok (.iload_n 2, 1) := by decide +kernel
theorem dc_Ar_fillI_6 : decode c_C_Ar_fillI 6 = .ok (.iload_n 3, 1) := by decide +kernel
theorem dc_Ar_fillI_7 : decode c_C_Ar_fillI 7 = .ok (.if_icmp .ge 13, 3) := by decide +kernel
theorem dc_Ar_fillI_10 : decode c_C_Ar_fillI 10 = .ok (.aload_n 0, 1) := by decide +kernel
theorem dc_Ar_fillI_11 : decode c_C_Ar_fillI 11 = .ok (.iload_n 2, 1) := by decide +kernel
theorem dc_Ar_fillI_12 : decode c_C_Ar_fillI 12 = .ok (.iload_n 1, 1) := by decide +kernel
theorem dc_Ar_fillI_13 : decode c_C_Ar_fillI 13 = .ok (.iastore, 1) := by decide +kernel
theorem dc_Ar_fillI_14 : decode c_C_Ar_fillI 14 = .ok (.iinc 2 1, 3) := by decide +kernel
theorem dc_Ar_fillI_17 : decode c_C_Ar_fillI 17 = .ok (.goto (-12), 3) := by decide +kernel
theorem dc_Ar_fillI_20 : decode c_C_Ar_fillI 20 = .ok (.return_, 1) := by decide +kernel
theorem dc_B_isWithin_0 : decode c_C_B_isWithin 0 = .ok (.iload_n 0, 1) := by decide +kernel
theorem dc_B_isWithin_1 : decode c_C_B_isWithin 1 = .ok (.iload_n 1, 1) := by decide +kernel
theorem dc_B_isWithin_2 : decode c_C_B_isWithin 2 = .ok (.if_icmp .lt 12, 3) := by decide +kernel
theorem dc_B_isWithin_5 : decode c_C_B_isWithin 5 = .ok (.iload_n 0, 1) := by decide +kernel
theorem dc_B_isWithin_6 : decode c_C_B_isWithin 6 = .ok (.iload_n 2, 1) := by decide +kernel
theorem dc_B_isWithin_7 : decode c_C_B_isWithin 7 = .ok (.if_icmp .gt 7, 3) := by decide +kernel
theorem dc_B_isWithin_10 : decode c_C_B_isWithin 10 = .ok (.iconst 1, 1) := by decide +kernel
theorem dc_B_isWithin_11 : decode c_C_B_isWithin 11 = .ok (.goto 4, 3) := by decide +kernel
theorem dc_B_isWithin_14 : decode c_C_B_isWithin 14 = .ok (.iconst 0, 1) := by decide +kernel
theorem dc_B_isWithin_15 : decode c_C_B_isWithin 15 = .ok (.ireturn, 1) := by decide +kernel
theorem dc_Ca_begin_0 : decode c_C_Ca_begin 0 = .ok (.aload_n 0, 1) := by decide +kernel
theorem dc_Ca_begin_1 : decode c_C_Ca_begin 1 = .ok (.iload_n 1, 1) := by decide +kernel
theorem dc_Ca_begin_2 : decode c_C_Ca_begin 2 = .ok (.putfield 9, 3) := by decide +kernel
theorem dc_Ca_begin_5 : decode c_C_Ca_begin 5 = .ok (.aload_n 0, 1) := by decide +kernel
theorem dc_Ca_begin_6 : decode c_C_Ca_begin 6 = .ok (.iload_n 2, 1) := by decide +kernel
theorem dc_Ca_begin_7 : decode c_C_Ca_begin 7 = .ok (.putfield 15, 3) := by decide +kernel
theorem dc_Ca_begin_10 : decode c_C_Ca_begin 10 = .ok (.aload_n 0, 1) := by decide +kernel
theorem dc_Ca_begin_11 : decode c_C_Ca_begin 11 = .ok (.iload_n 3, 1) := by decide +kernel
theorem dc_Ca_begin_12 : decode c_C_Ca_begin 12 = .ok (.putfield 18, 3) := by decide +kernel
theorem dc_Ca_begin_15 : decode c_C_Ca_begin 15 = .ok (.aload_n 0, 1) := by decide +kernel
theorem dc_Ca_begin_16 : decode c_C_Ca_begin 16 = .ok (.getfield 21, 3) := by decide +kernel
theorem dc_Ca_begin_19 : decode c_C_Ca_begin 19 = .ok (.iconst 0, 1) := by decide +kernel
theorem dc_Ca_begin_20 : decode c_C_Ca_begin 20 = .ok (.invokestatic 25, 3) := by decide +kernel
theorem dc_Ca_begin_23 : decode c_C_Ca_begin 23 = .ok (.return_, 1) := by decide +kernel
theorem dc_B_canvas_0 : decode c_C_B_canvas 0 = .ok (.iload_n 1, 1) := by decide +kernel
theorem dc_B_canvas_1 : decode c_C_B_canvas 1 = .ok (.iconst 1, 1) := by decide +kernel
theorem dc_B_canvas_2 : decode c_C_B_canvas 2 = .ok (.bipush 64, 2) := by decide +kernel
theorem dc_B_canvas_4 : decode c_C_B_canvas 4 = .ok (.invokestatic 71, 3) := by decide +kernel
theorem dc_B_canvas_7 : decode c_C_B_canvas 7 = .ok (.ifCond .eq 23, 3) := by decide +kernel
theorem dc_B_canvas_10 : decode c_C_B_canvas 10 = .ok (.iload_n 2, 1) := by decide +kernel
theorem dc_B_canvas_11 : decode c_C_B_canvas 11 = .ok (.iconst 1, 1) := by decide +kernel
theorem dc_B_canvas_12 : decode c_C_B_canvas 12 = .ok (.bipush 64, 2) := by decide +kernel
theorem dc_B_canvas_14 : decode c_C_B_canvas 14 = .ok (.invokestatic 71, 3) := by decide +kernel
theorem dc_B_canvas_17 : decode c_C_B_canvas 17 = .ok (.ifCond .eq 13, 3) := by decide +kernel
theorem dc_B_canvas_20 : decode c_C_B_canvas 20 = .ok (.iload_n 3, 1) := by decide +kernel
theorem dc_B_canvas_21 : decode c_C_B_canvas 21 = .ok (.iconst 1, 1) := by decide +kernel
theorem dc_B_canvas_22 : decode c_C_B_canvas 22 = .ok (.if_icmp .eq 18, 3) := by decide +kernel
theorem dc_B_canvas_25 : decode c_C_B_canvas 25 = .ok (.iload_n 3, 1) := by decide +kernel
theorem dc_B_canvas_26 : decode c_C_B_canvas 26 = .ok (.iconst 3, 1) := by decide +kernel
theorem dc_B_canvas_27 : decode c_C_B_canvas 27 = .ok (.if_icmp .eq 13, 3) := by decide +kernel
theorem dc_B_canvas_30 : decode c_C_B_canvas 30 = .ok (.new 75, 3) := by decide +kernel
theorem dc_B_canvas_33 : decode c_C_B_canvas 33 = .ok (.dup, 1) := by decide +kernel
theorem dc_B_canvas_34 : decode c_C_B_canvas 34 = .ok (.ldc 77, 2) := by decide +kernel
theorem dc_B_canvas_36 : decode c_C_B_canvas 36 = .ok (.invokespecial 79, 3) := by decide +kernel
theorem dc_B_canvas_39 : decode c_C_B_canvas 39 = .ok (.athrow, 1) := by decide +kernel
theorem dc_B_canvas_40 : decode c_C_B_canvas 40 = .ok (.aload_n 0, 1) := by decide +kernel
theorem dc_B_canvas_41 : decode c_C_B_canvas 41 = .ok (.getfield 12, 3) := by decide +kernel
theorem dc_B_canvas_44 : decode c_C_B_canvas 44 = .ok (.iload_n 1, 1) := by decide +kernel
theorem dc_B_canvas_45 : decode c_C_B_canvas 45 = .ok (.iload_n 2, 1) := by decide +kernel
theorem dc_B_canvas_46 : decode c_C_B_canvas 46 = .ok (.iload_n 3, 1) := by decide +kernel
theorem dc_B_canvas_47 : decode c_C_B_canvas 47 = .ok (.invokevirtual 82, 3) := by decide +kernel
theorem dc_B_canvas_50 : decode c_C_B_canvas 50 = .ok (.return_, 1) := by decide +kernel
theorem dc_Ca_holds_0 : decode c_C_Ca_holds 0 = .ok (.iload_n 1, 1) := by decide +kernel
theorem dc_Ca_holds_1 : decode c_C_Ca_holds 1 = .ok (.ifCond .lt 43, 3) := by decide +kernel
theorem dc_Ca_holds_4 : decode c_C_Ca_holds 4 = .ok (.iload_n 2, 1) := by decide +kernel
theorem dc_Ca_holds_5 : decode c_C_Ca_holds 5 = .ok (.ifCond .lt 39, 3) := by decide +kernel
theorem dc_Ca_holds_8 : decode c_C_Ca_holds 8 = .ok (.iload_n 3, 1) := by decide +kernel
theorem dc_Ca_holds_9 : decode c_C_Ca_holds 9 = .ok (.iconst 1, 1) := by decide +kernel
theorem dc_Ca_holds_10 : decode c_C_Ca_holds 10 = .ok (.if_icmp .lt 34, 3) := by decide +kernel
theorem dc_Ca_holds_13 : decode c_C_Ca_holds 13 = .ok (.iload 4, 2) := by decide +kernel
theorem dc_Ca_holds_15 : decode c_C_Ca_holds 15 = .ok (.iconst 1, 1) := by decide +kernel
theorem dc_Ca_holds_16 : decode c_C_Ca_holds 16 = .ok (.if_icmp .lt 28, 3) := by decide +kernel
theorem dc_Ca_holds_19 : decode c_C_Ca_holds 19 = .ok (.iload_n 3, 1) := by decide +kernel
theorem dc_Ca_holds_20 : decode c_C_Ca_holds 20 = .ok (.aload_n 0, 1) := by decide +kernel
theorem dc_Ca_holds_21 : decode c_C_Ca_holds 21 = .ok (.getfield 9, 3) := by decide +kernel
theorem dc_Ca_holds_24 : decode c_C_Ca_holds 24 = .ok (.iload_n 1, 1) := by decide +kernel
theorem dc_Ca_holds_25 : decode c_C_Ca_holds 25 = .ok (.isub, 1) := by decide +kernel
theorem dc_Ca_holds_26 : decode c_C_Ca_holds 26 = .ok (.if_icmp .gt 18, 3) := by decide +kernel
theorem dc_Ca_holds_29 : decode c_C_Ca_holds 29 = .ok (.iload 4, 2) := by decide +kernel
theorem dc_Ca_holds_31 : decode c_C_Ca_holds 31 = .ok (.aload_n 0, 1) := by decide +kernel
theorem dc_Ca_holds_32 : decode c_C_Ca_holds 32 = .ok (.getfield 15, 3) := by decide +kernel
theorem dc_Ca_holds_35 : decode c_C_Ca_holds 35 = .ok (.iload_n 2, 1) := by decide +kernel
theorem dc_Ca_holds_36 : decode c_C_Ca_holds 36 = .ok (.isub, 1) := by decide +kernel
theorem dc_Ca_holds_37 : decode c_C_Ca_holds 37 = .ok (.if_icmp .gt 7, 3) := by decide +kernel
theorem dc_Ca_holds_40 : decode c_C_Ca_holds 40 = .ok (.iconst 1, 1) := by decide +kernel
theorem dc_Ca_holds_41 : decode c_C_Ca_holds 41 = .ok (.goto 4, 3) := by decide +kernel
theorem dc_Ca_holds_44 : decode c_C_Ca_holds 44 = .ok (.iconst 0, 1) := by decide +kernel
theorem dc_Ca_holds_45 : decode c_C_Ca_holds 45 = .ok (.ireturn, 1) := by decide +kernel
theorem dc_B_spot_0 : decode c_C_B_spot 0 = .ok (.sipush 4096, 3) := by decide +kernel
theorem dc_B_spot_3 : decode c_C_B_spot 3 = .ok (.iload_n 0, 1) := by decide +kernel
theorem dc_B_spot_4 : decode c_C_B_spot 4 = .ok (.imul, 1) := by decide +kernel
theorem dc_B_spot_5 : decode c_C_B_spot 5 = .ok (.bipush 64, 2) := by decide +kernel
theorem dc_B_spot_7 : decode c_C_B_spot 7 = .ok (.iload_n 2, 1) := by decide +kernel
theorem dc_B_spot_8 : decode c_C_B_spot 8 = .ok (.imul, 1) := by decide +kernel
theorem dc_B_spot_9 : decode c_C_B_spot 9 = .ok (.iadd, 1) := by decide +kernel
theorem dc_B_spot_10 : decode c_C_B_spot 10 = .ok (.iload_n 1, 1) := by decide +kernel
theorem dc_B_spot_11 : decode c_C_B_spot 11 = .ok (.iadd, 1) := by decide +kernel
theorem dc_B_spot_12 : decode c_C_B_spot 12 = .ok (.ireturn, 1) := by decide +kernel
theorem dc_Ca_paint_0 : decode c_C_Ca_paint 0 = .ok (.iload_n 3, 1) := by decide +kernel
theorem dc_Ca_paint_1 : decode c_C_Ca_paint 1 = .ok (.iconst 1, 1) := by decide +kernel
theorem dc_Ca_paint_2 : decode c_C_Ca_paint 2 = .ok (.if_icmp .ge 4, 3) := by decide +kernel
theorem dc_Ca_paint_5 : decode c_C_Ca_paint 5 = .ok (.return_, 1) := by decide +kernel
theorem dc_Ca_paint_6 : decode c_C_Ca_paint 6 = .ok (.iconst 0, 1) := by decide +kernel
theorem dc_Ca_paint_7 : decode c_C_Ca_paint 7 = .ok (.istore 7, 2) := by decide +kernel
theorem dc_Ca_paint_9 : decode c_C_Ca_paint 9 = .ok (.iload 7, 2) := by decide +kernel
theorem dc_Ca_paint_11 : decode c_C_Ca_paint 11 = .ok (.aload_n 0, 1) := by decide +kernel
theorem dc_Ca_paint_12 : decode c_C_Ca_paint 12 = .ok (.getfield 18, 3) := by decide +kernel
theorem dc_Ca_paint_15 : decode c_C_Ca_paint 15 = .ok (.if_icmp .ge 111, 3) := by decide +kernel
theorem dc_Ca_paint_18 : decode c_C_Ca_paint 18 = .ok (.bipush 8, 2) := by decide +kernel
theorem dc_Ca_paint_20 : decode c_C_Ca_paint 20 = .ok (.aload_n 0, 1) := by decide +kernel
theorem dc_Ca_paint_21 : decode c_C_Ca_paint 21 = .ok (.getfield 18, 3) := by decide +kernel
theorem dc_Ca_paint_24 : decode c_C_Ca_paint 24 = .ok (.iconst 1, 1) := by decide +kernel
theorem dc_Ca_paint_25 : decode c_C_Ca_paint 25 = .ok (.isub, 1) := by decide +kernel
theorem dc_Ca_paint_26 : decode c_C_Ca_paint 26 = .ok (.iload 7, 2) := by decide +kernel
theorem dc_Ca_paint_28 : decode c_C_Ca_paint 28 = .ok (.isub, 1) := by decide +kernel
theorem dc_Ca_paint_29 : decode c_C_Ca_paint 29 = .ok (.imul, 1) := by decide +kernel
theorem dc_Ca_paint_30 : decode c_C_Ca_paint 30 = .ok (.istore 8, 2) := by decide +kernel
theorem dc_Ca_paint_32 : decode c_C_Ca_paint 32 = .ok (.iload 5, 2) := by decide +kernel
theorem dc_Ca_paint_34 : decode c_C_Ca_paint 34 = .ok (.iload 8, 2) := by decide +kernel
theorem dc_Ca_paint_36 : decode c_C_Ca_paint 36 = .ok (.ishr, 1) := by decide +kernel
theorem dc_Ca_paint_37 : decode c_C_Ca_paint 37 = .ok (.sipush 255, 3) := by decide +kernel
theorem dc_Ca_paint_40 : decode c_C_Ca_paint 40 = .ok (.iand, 1) := by decide +kernel
theorem dc_Ca_paint_41 : decode c_C_Ca_paint 41 = .ok (.istore 9, 2) := by decide +kernel
theorem dc_Ca_paint_43 : decode c_C_Ca_paint 43 = .ok (.iload 6, 2) := by decide +kernel
theorem dc_Ca_paint_45 : decode c_C_Ca_paint 45 = .ok (.iload 8, 2) := by decide +kernel
theorem dc_Ca_paint_47 : decode c_C_Ca_paint 47 = .ok (.ishr, 1) := by decide +kernel
theorem dc_Ca_paint_48 : decode c_C_Ca_paint 48 = .ok (.sipush 255, 3) := by decide +kernel
theorem dc_Ca_paint_51 : decode c_C_Ca_paint 51 = .ok (.iand, 1) := by decide +kernel
theorem dc_Ca_paint_52 : decode c_C_Ca_paint 52 = .ok (.istore 10, 2) := by decide +kernel
theorem dc_Ca_paint_54 : decode c_C_Ca_paint 54 = .ok (.iconst 0, 1) := by decide +kernel
theorem dc_Ca_paint_55 : decode c_C_Ca_paint 55 = .ok (.istore 11, 2) := by decide +kernel
theorem dc_Ca_paint_57 : decode c_C_Ca_paint 57 = .ok (.iload 11, 2) := by decide +kernel
theorem dc_Ca_paint_59 : decode c_C_Ca_paint 59 = .ok (.iload_n 3, 1) := by decide +kernel
theorem dc_Ca_paint_60 : decode c_C_Ca_paint 60 = .ok (.if_icmp .ge 60, 3) := by decide +kernel
theorem dc_Ca_paint_63 : decode c_C_Ca_paint 63 = .ok (.iload 9, 2) := by decide +kernel
theorem dc_Ca_paint_65 : decode c_C_Ca_paint 65 = .ok (.iload 10, 2) := by decide +kernel
theorem dc_Ca_paint_67 : decode c_C_Ca_paint 67 = .ok (.iload 9, 2) := by decide +kernel
theorem dc_Ca_paint_69 : decode c_C_Ca_paint 69 = .ok (.isub, 1) := by decide +kernel
theorem dc_Ca_paint_70 : decode c_C_Ca_paint 70 = .ok (.iload 11, 2) := by decide +kernel
theorem dc_Ca_paint_72 : decode c_C_Ca_paint 72 = .ok (.imul, 1) := by decide +kernel
theorem dc_Ca_paint_73 : decode c_C_Ca_paint 73 = .ok (.iload_n 3, 1) := by decide +kernel
theorem dc_Ca_paint_74 : decode c_C_Ca_paint 74 = .ok (.idiv, 1) := by decide +kernel
theorem dc_Ca_paint_75 : decode c_C_Ca_paint 75 = .ok (.iadd, 1) := by decide +kernel
theorem dc_Ca_paint_76 : decode c_C_Ca_paint 76 = .ok (.istore 12, 2) := by decide +kernel
theorem dc_Ca_paint_78 : decode c_C_Ca_paint 78 = .ok (.iconst 0, 1) := by decide +kernel
theorem dc_Ca_paint_79 : decode c_C_Ca_paint 79 = .ok (.istore 13, 2) := by decide +kernel
theorem dc_Ca_paint_81 : decode c_C_Ca_paint 81 = .ok (.iload 13, 2) := by decide +kernel
theorem dc_Ca_paint_83 : decode c_C_Ca_paint 83 = .ok (.iload 4, 2) := by decide +kernel
theorem dc_Ca_paint_85 : decode c_C_Ca_paint 85 = .ok (.if_icmp .ge 29, 3) := by decide +kernel
theorem dc_Ca_paint_88 : decode c_C_Ca_paint 88 = .ok (.aload_n 0, 1) := by decide +kernel
theorem dc_Ca_paint_89 : decode c_C_Ca_paint 89 = .ok (.getfield 21, 3) := by decide +kernel
theorem dc_Ca_paint_92 : decode c_C_Ca_paint 92 = .ok (.iload 7, 2) := by decide +kernel
theorem dc_Ca_paint_94 : decode c_C_Ca_paint 94 = .ok (.iload_n 1, 1) := by decide +kernel
theorem dc_Ca_paint_95 : decode c_C_Ca_paint 95 = .ok (.iload 11, 2) := by decide +kernel
theorem dc_Ca_paint_97 : decode c_C_Ca_paint 97 = .ok (.iadd, 1) := by decide +kernel
theorem dc_Ca_paint_98 : decode c_C_Ca_paint 98 = .ok (.iload_n 2, 1) := by decide +kernel
theorem dc_Ca_paint_99 : decode c_C_Ca_paint 99 = .ok (.iload 13, 2) := by decide +kernel
theorem dc_Ca_paint_101 : decode c_C_Ca_paint 101 = .ok (.iadd, 1) := by decide +kernel
theorem dc_Ca_paint_102 : decode c_C_Ca_paint 102 = .ok (.invokestatic 31, 3) := by decide +kernel
theorem dc_Ca_paint_105 : decode c_C_Ca_paint 105 = .ok (.iload 12, 2) := by decide +kernel
theorem dc_Ca_paint_107 : decode c_C_Ca_paint 107 = .ok (.iastore, 1) := by decide +kernel
theorem dc_Ca_paint_108 : decode c_C_Ca_paint 108 = .ok (.iinc 13 1, 3) := by decide +kernel
theorem dc_Ca_paint_111 : decode c_C_Ca_paint 111 = .ok (.goto (-30), 3) := by decide +kernel
theorem dc_Ca_paint_114 : decode c_C_Ca_paint 114 = .ok (.iinc 11 1, 3) := by decide +kernel
theorem dc_Ca_paint_117 : decode c_C_Ca_paint 117 = .ok (.goto (-60), 3) := by decide +kernel
theorem dc_Ca_paint_120 : decode c_C_Ca_paint 120 = .ok (.iinc 7 1, 3) := by decide +kernel
theorem dc_Ca_paint_123 : decode c_C_Ca_paint 123 = .ok (.goto (-114), 3) := by decide +kernel
theorem dc_Ca_paint_126 : decode c_C_Ca_paint 126 = .ok (.return_, 1) := by decide +kernel
theorem dc_B_fill_0 : decode c_C_B_fill 0 = .ok (.aload_n 0, 1) := by decide +kernel
theorem dc_B_fill_1 : decode c_C_B_fill 1 = .ok (.getfield 12, 3) := by decide +kernel
theorem dc_B_fill_4 : decode c_C_B_fill 4 = .ok (.iload_n 1, 1) := by decide +kernel
theorem dc_B_fill_5 : decode c_C_B_fill 5 = .ok (.iload_n 2, 1) := by decide +kernel
theorem dc_B_fill_6 : decode c_C_B_fill 6 = .ok (.iload_n 3, 1) := by decide +kernel
theorem dc_B_fill_7 : decode c_C_B_fill 7 = .ok (.iload 4, 2) := by decide +kernel
theorem dc_B_fill_9 : decode c_C_B_fill 9 = .ok (.invokevirtual 86, 3) := by decide +kernel
theorem dc_B_fill_12 : decode c_C_B_fill 12 = .ok (.ifCond .ne 13, 3) := by decide +kernel
theorem dc_B_fill_15 : decode c_C_B_fill 15 = .ok (.new 90, 3) := by decide +kernel
theorem dc_B_fill_18 : decode c_C_B_fill 18 = .ok (.dup, 1) := by decide +kernel
theorem dc_B_fill_19 : decode c_C_B_fill 19 = .ok (.ldc 92, 2) := by decide +kernel
theorem dc_B_fill_21 : decode c_C_B_fill 21 = .ok (.invokespecial 94, 3) := by decide +kernel
theorem dc_B_fill_24 : decode c_C_B_fill 24 = .ok (.athrow, 1) := by decide +kernel
theorem dc_B_fill_25 : decode c_C_B_fill 25 = .ok (.aload_n 0, 1) := by decide +kernel
theorem dc_B_fill_26 : decode c_C_B_fill 26 = .ok (.getfield 12, 3) := by decide +kernel
theorem dc_B_fill_29 : decode c_C_B_fill 29 = .ok (.iload_n 1, 1) := by decide +kernel
theorem dc_B_fill_30 : decode c_C_B_fill 30 = .ok (.iload_n 2, 1) := by decide +kernel
theorem dc_B_fill_31 : decode c_C_B_fill 31 = .ok (.iload_n 3, 1) := by decide +kernel
theorem dc_B_fill_32 : decode c_C_B_fill 32 = .ok (.iload 4, 2) := by decide +kernel
theorem dc_B_fill_34 : decode c_C_B_fill 34 = .ok (.iload 5, 2) := by decide +kernel
theorem dc_B_fill_36 : decode c_C_B_fill 36 = .ok (.iload 5, 2) := by decide +kernel
theorem dc_B_fill_38 : decode c_C_B_fill 38 = .ok (.invokevirtual 95, 3) := by decide +kernel
theorem dc_B_fill_41 : decode c_C_B_fill 41 = .ok (.return_, 1) := by decide +kernel
theorem dc_B_slope_0 : decode c_C_B_slope 0 = .ok (.aload_n 0, 1) := by decide +kernel
theorem dc_B_slope_1 : decode c_C_B_slope 1 = .ok (.getfield 12, 3) := by decide +kernel
theorem dc_B_slope_4 : decode c_C_B_slope 4 = .ok (.iload_n 1, 1) := by decide +kernel
theorem dc_B_slope_5 : decode c_C_B_slope 5 = .ok (.iload_n 2, 1) := by decide +kernel
theorem dc_B_slope_6 : decode c_C_B_slope 6 = .ok (.iload_n 3, 1) := by decide +kernel
theorem dc_B_slope_7 : decode c_C_B_slope 7 = .ok (.iload 4, 2) := by decide +kernel
theorem dc_B_slope_9 : decode c_C_B_slope 9 = .ok (.invokevirtual 86, 3) := by decide +kernel
theorem dc_B_slope_12 : decode c_C_B_slope 12 = .ok (.ifCond .ne 13, 3) := by decide +kernel
theorem dc_B_slope_15 : decode c_C_B_slope 15 = .ok (.new 90, 3) := by decide +kernel
theorem dc_B_slope_18 : decode c_C_B_slope 18 = .ok (.dup, 1) := by decide +kernel
theorem dc_B_slope_19 : decode c_C_B_slope 19 = .ok (.ldc 92, 2) := by decide +kernel
theorem dc_B_slope_21 : decode c_C_B_slope 21 = .ok (.invokespecial 94, 3) := by decide +kernel
theorem dc_B_slope_24 : decode c_C_B_slope 24 = .ok (.athrow, 1) := by decide +kernel
theorem dc_B_slope_25 : decode c_C_B_slope 25 = .ok (.aload_n 0, 1) := by decide +kernel
theorem dc_B_slope_26 : decode c_C_B_slope 26 = .ok (.getfield 12, 3) := by decide +kernel
theorem dc_B_slope_29 : decode c_C_B_slope 29 = .ok (.iload_n 1, 1) := by decide +kernel
theorem dc_B_slope_30 : decode c_C_B_slope 30 = .ok (.iload_n 2, 1) := by decide +kernel
theorem dc_B_slope_31 : decode c_C_B_slope 31 = .ok (.iload_n 3, 1) := by decide +kernel
theorem dc_B_slope_32 : decode c_C_B_slope 32 = .ok (.iload 4, 2) := by decide +kernel
theorem dc_B_slope_34 : decode c_C_B_slope 34 = .ok (.iload 5, 2) := by decide +kernel
theorem dc_B_slope_36 : decode c_C_B_slope 36 = .ok (.iload 6, 2) := by decide +kernel
theorem dc_B_slope_38 : decode c_C_B_slope 38 = .ok (.invokevirtual 95, 3) := by decide +kernel
theorem dc_B_slope_41 : decode c_C_B_slope 41 = .ok (.return_, 1) := by decide +kernel
theorem dc_B_at_0 : decode c_C_B_at 0 = .ok (.aload_n 0, 1) := by decide +kernel
theorem dc_B_at_1 : decode c_C_B_at 1 = .ok (.getfield 12, 3) := by decide +kernel
theorem dc_B_at_4 : decode c_C_B_at 4 = .ok (.iload_n 1, 1) := by decide +kernel
theorem dc_B_at_5 : decode c_C_B_at 5 = .ok (.iload_n 2, 1) := by decide +kernel
theorem dc_B_at_6 : decode c_C_B_at 6 = .ok (.iconst 1, 1) := by decide +kernel
theorem dc_B_at_7 : decode c_C_B_at 7 = .ok (.iconst 1, 1) := by decide +kernel
theorem dc_B_at_8 : decode c_C_B_at 8 = .ok (.invokevirtual 86, 3) := by decide +kernel
theorem dc_B_at_11 : decode c_C_B_at 11 = .ok (.ifCond .eq 20, 3) := by decide +kernel
theorem dc_B_at_14 : decode c_C_B_at 14 = .ok (.iload_n 3, 1) := by decide +kernel
theorem dc_B_at_15 : decode c_C_B_at 15 = .ok (.iconst 0, 1) := by decide +kernel
theorem dc_B_at_16 : decode c_C_B_at 16 = .ok (.aload_n 0, 1) := by decide +kernel
theorem dc_B_at_17 : decode c_C_B_at 17 = .ok (.getfield 12, 3) := by decide +kernel
theorem dc_B_at_20 : decode c_C_B_at 20 = .ok (.getfield 99, 3) := by decide +kernel
theorem dc_B_at_23 : decode c_C_B_at 23 = .ok (.iconst 1, 1) := by decide +kernel
theorem dc_B_at_24 : decode c_C_B_at 24 = .ok (.isub, 1) := by decide +kernel
theorem dc_B_at_25 : decode c_C_B_at 25 = .ok (.invokestatic 71, 3) := by decide +kernel
theorem dc_B_at_28 : decode c_C_B_at 28 = .ok (.ifCond .ne 13, 3) := by decide +kernel
theorem dc_B_at_31 : decode c_C_B_at 31 = .ok (.new 90, 3) := by decide +kernel
theorem dc_B_at_34 : decode c_C_B_at 34 = .ok (.dup, 1) := by decide +kernel
theorem dc_B_at_35 : decode c_C_B_at 35 = .ok (.ldc 102, 2) := by decide +kernel
theorem dc_B_at_37 : decode c_C_B_at 37 = .ok (.invokespecial 94, 3) := by decide +kernel
theorem dc_B_at_40 : decode c_C_B_at 40 = .ok (.athrow, 1) := by decide +kernel
theorem dc_B_at_41 : decode c_C_B_at 41 = .ok (.aload_n 0, 1) := by decide +kernel
theorem dc_B_at_42 : decode c_C_B_at 42 = .ok (.getfield 12, 3) := by decide +kernel
theorem dc_B_at_45 : decode c_C_B_at 45 = .ok (.getfield 104, 3) := by decide +kernel
theorem dc_B_at_48 : decode c_C_B_at 48 = .ok (.iload_n 3, 1) := by decide +kernel
theorem dc_B_at_49 : decode c_C_B_at 49 = .ok (.iload_n 1, 1) := by decide +kernel
theorem dc_B_at_50 : decode c_C_B_at 50 = .ok (.iload_n 2, 1) := by decide +kernel
theorem dc_B_at_51 : decode c_C_B_at 51 = .ok (.invokestatic 107, 3) := by decide +kernel
theorem dc_B_at_54 : decode c_C_B_at 54 = .ok (.iaload, 1) := by decide +kernel
theorem dc_B_at_55 : decode c_C_B_at 55 = .ok (.ireturn, 1) := by decide +kernel
theorem dc_B_clamp_0 : decode c_C_B_clamp 0 = .ok (.iload_n 0, 1) := by decide +kernel
theorem dc_B_clamp_1 : decode c_C_B_clamp 1 = .ok (.iload_n 1, 1) := by decide +kernel
theorem dc_B_clamp_2 : decode c_C_B_clamp 2 = .ok (.if_icmp .ge 7, 3) := by decide +kernel
theorem dc_B_clamp_5 : decode c_C_B_clamp 5 = .ok (.iload_n 1, 1) := by decide +kernel
theorem dc_B_clamp_6 : decode c_C_B_clamp 6 = .ok (.goto 13, 3) := by decide +kernel
theorem dc_B_clamp_9 : decode c_C_B_clamp 9 = .ok (.iload_n 0, 1) := by decide +kernel
theorem dc_B_clamp_10 : decode c_C_B_clamp 10 = .ok (.iload_n 2, 1) := by decide +kernel
theorem dc_B_clamp_11 : decode c_C_B_clamp 11 = .ok (.if_icmp .le 7, 3) := by decide +kernel
theorem dc_B_clamp_14 : decode c_C_B_clamp 14 = .ok (.iload_n 2, 1) := by decide +kernel
theorem dc_B_clamp_15 : decode c_C_B_clamp 15 = .ok (.goto 4, 3) := by decide +kernel
theorem dc_B_clamp_18 : decode c_C_B_clamp 18 = .ok (.iload_n 0, 1) := by decide +kernel
theorem dc_B_clamp_19 : decode c_C_B_clamp 19 = .ok (.ireturn, 1) := by decide +kernel
theorem dc_B_scale_0 : decode c_C_B_scale 0 = .ok (.iload_n 1, 1) := by decide +kernel
theorem dc_B_scale_1 : decode c_C_B_scale 1 = .ok (.iconst 0, 1) := by decide +kernel
theorem dc_B_scale_2 : decode c_C_B_scale 2 = .ok (.iconst 1, 1) := by decide +kernel
theorem dc_B_scale_3 : decode c_C_B_scale 3 = .ok (.invokestatic 71, 3) := by decide +kernel
theorem dc_B_scale_6 : decode c_C_B_scale 6 = .ok (.ifCond .eq 29, 3) := by decide +kernel
theorem dc_B_scale_9 : decode c_C_B_scale 9 = .ok (.iload_n 2, 1) := by decide +kernel
theorem dc_B_scale_10 : decode c_C_B_scale 10 = .ok (.sipush (-1000), 3) := by decide +kernel
theorem dc_B_scale_13 : decode c_C_B_scale 13 = .ok (.sipush 1000, 3) := by decide +kernel
theorem dc_B_scale_16 : decode c_C_B_scale 16 = .ok (.invokestatic 71, 3) := by decide +kernel
theorem dc_B_scale_19 : decode c_C_B_scale 19 = .ok (.ifCond .eq 16, 3) := by decide +kernel
theorem dc_B_scale_22 : decode c_C_B_scale 22 = .ok (.iload_n 3, 1) := by decide +kernel
theorem dc_B_scale_23 : decode c_C_B_scale 23 = .ok (.sipush (-1000), 3) := by decide +kernel
theorem dc_B_scale_26 : decode c_C_B_scale 26 = .ok (.sipush 1000, 3) := by decide +kernel
theorem dc_B_scale_29 : decode c_C_B_scale 29 = .ok (.invokestatic 71, 3) := by decide +kernel
theorem dc_B_scale_32 : decode c_C_B_scale 32 = .ok (.ifCond .ne 13, 3) := by decide +kernel
theorem dc_B_scale_35 : decode c_C_B_scale 35 = .ok (.new 75, 3) := by decide +kernel
theorem dc_B_scale_38 : decode c_C_B_scale 38 = .ok (.dup, 1) := by decide +kernel
theorem dc_B_scale_39 : decode c_C_B_scale 39 = .ok (.ldc 111, 2) := by decide +kernel
theorem dc_B_scale_41 : decode c_C_B_scale 41 = .ok (.invokespecial 79, 3) := by decide +kernel
theorem dc_B_scale_44 : decode c_C_B_scale 44 = .ok (.athrow, 1) := by decide +kernel
theorem dc_B_scale_45 : decode c_C_B_scale 45 = .ok (.iconst 0, 1) := by decide +kernel
theorem dc_B_scale_46 : decode c_C_B_scale 46 = .ok (.istore 4, 2) := by decide +kernel
theorem dc_B_scale_48 : decode c_C_B_scale 48 = .ok (.iload 4, 2) := by decide +kernel
theorem dc_B_scale_50 : decode c_C_B_scale 50 = .ok (.bipush 64, 2) := by decide +kernel
theorem dc_B_scale_52 : decode c_C_B_scale 52 = .ok (.if_icmp .ge 43, 3) := by decide +kernel
theorem dc_B_scale_55 : decode c_C_B_scale 55 = .ok (.aload_n 0, 1) := by decide +kernel
theorem dc_B_scale_56 : decode c_C_B_scale 56 = .ok (.getfield 16, 3) := by decide +kernel
theorem dc_B_scale_59 : decode c_C_B_scale 59 = .ok (.bipush 64, 2) := by decide +kernel
theorem dc_B_scale_61 : decode c_C_B_scale 61 = .ok (.iload_n 1, 1) := by decide +kernel
theorem dc_B_scale_62 : decode c_C_B_scale 62 = .ok (.imul, 1) := by decide +kernel
theorem dc_B_scale_63 : decode c_C_B_scale 63 = .ok (.iload 4, 2) := by decide +kernel
theorem dc_B_scale_65 : decode c_C_B_scale 65 = .ok (.iadd, 1) := by decide +kernel
theorem dc_B_scale_66 : decode c_C_B_scale 66 = .ok (.iload_n 2, 1) := by decide +kernel
theorem dc_B_scale_67 : decode c_C_B_scale 67 = .ok (.iload_n 3, 1) := by decide +kernel
theorem dc_B_scale_68 : decode c_C_B_scale 68 = .ok (.iload 4, 2) := by decide +kernel
theorem dc_B_scale_70 : decode c_C_B_scale 70 = .ok (.bipush 8, 2) := by decide +kernel
theorem dc_B_scale_72 : decode c_C_B_scale 72 = .ok (.idiv, 1) := by decide +kernel
theorem dc_B_scale_73 : decode c_C_B_scale 73 = .ok (.iload 4, 2) := by decide +kernel
theorem dc_B_scale_75 : decode c_C_B_scale 75 = .ok (.bipush 8, 2) := by decide +kernel
theorem dc_B_scale_77 : decode c_C_B_scale 77 = .ok (.irem, 1) := by decide +kernel
theorem dc_B_scale_78 : decode c_C_B_scale 78 = .ok (.iadd, 1) := by decide +kernel
theorem dc_B_scale_79 : decode c_C_B_scale 79 = .ok (.imul, 1) := by decide +kernel
theorem dc_B_scale_80 : decode c_C_B_scale 80 = .ok (.iadd, 1) := by decide +kernel
theorem dc_B_scale_81 : decode c_C_B_scale 81 = .ok (.iconst 1, 1) := by decide +kernel
theorem dc_B_scale_82 : decode c_C_B_scale 82 = .ok (.sipush 255, 3) := by decide +kernel
theorem dc_B_scale_85 : decode c_C_B_scale 85 = .ok (.invokestatic 113, 3) := by decide +kernel
theorem dc_B_scale_88 : decode c_C_B_scale 88 = .ok (.iastore, 1) := by decide +kernel
theorem dc_B_scale_89 : decode c_C_B_scale 89 = .ok (.iinc 4 1, 3) := by decide +kernel
theorem dc_B_scale_92 : decode c_C_B_scale 92 = .ok (.goto (-44), 3) := by decide +kernel
theorem dc_B_scale_95 : decode c_C_B_scale 95 = .ok (.return_, 1) := by decide +kernel
theorem dc_B_entry_0 : decode c_C_B_entry 0 = .ok (.iload_n 2, 1) := by decide +kernel
theorem dc_B_entry_1 : decode c_C_B_entry 1 = .ok (.iconst 0, 1) := by decide +kernel
theorem dc_B_entry_2 : decode c_C_B_entry 2 = .ok (.bipush 7, 2) := by decide +kernel
theorem dc_B_entry_4 : decode c_C_B_entry 4 = .ok (.invokestatic 71, 3) := by decide +kernel
theorem dc_B_entry_7 : decode c_C_B_entry 7 = .ok (.ifCond .eq 13, 3) := by decide +kernel
theorem dc_B_entry_10 : decode c_C_B_entry 10 = .ok (.iload_n 3, 1) := by decide +kernel
theorem dc_B_entry_11 : decode c_C_B_entry 11 = .ok (.iconst 0, 1) := by decide +kernel
theorem dc_B_entry_12 : decode c_C_B_entry 12 = .ok (.bipush 7, 2) := by decide +kernel
theorem dc_B_entry_14 : decode c_C_B_entry 14 = .ok (.invokestatic 71, 3) := by decide +kernel
theorem dc_B_entry_17 : decode c_C_B_entry 17 = .ok (.ifCond .ne 13, 3) := by decide +kernel
theorem dc_B_entry_20 : decode c_C_B_entry 20 = .ok (.new 90, 3) := by decide +kernel
theorem dc_B_entry_23 : decode c_C_B_entry 23 = .ok (.dup, 1) := by decide +kernel
theorem dc_B_entry_24 : decode c_C_B_entry 24 = .ok (.ldc 116, 2) := by decide +kernel
theorem dc_B_entry_26 : decode c_C_B_entry 26 = .ok (.invokespecial 94, 3) := by decide +kernel
theorem dc_B_entry_29 : decode c_C_B_entry 29 = .ok (.athrow, 1) := by decide +kernel
theorem dc_B_entry_30 : decode c_C_B_entry 30 = .ok (.iload_n 1, 1) := by decide +kernel
theorem dc_B_entry_31 : decode c_C_B_entry 31 = .ok (.iconst 0, 1) := by decide +kernel
theorem dc_B_entry_32 : decode c_C_B_entry 32 = .ok (.iconst 1, 1) := by decide +kernel
theorem dc_B_entry_33 : decode c_C_B_entry 33 = .ok (.invokestatic 71, 3) := by decide +kernel
theorem dc_B_entry_36 : decode c_C_B_entry 36 = .ok (.ifCond .eq 15, 3) := by decide +kernel
theorem dc_B_entry_39 : decode c_C_B_entry 39 = .ok (.iload 4, 2) := by decide +kernel
theorem dc_B_entry_41 : decode c_C_B_entry 41 = .ok (.iconst 1, 1) := by decide +kernel
theorem dc_B_entry_42 : decode c_C_B_entry 42 = .ok (.sipush 255, 3) := by decide +kernel
theorem dc_B_entry_45 : decode c_C_B_entry 45 = .ok (.invokestatic 71, 3) := by decide +kernel
theorem dc_B_entry_48 : decode c_C_B_entry 48 = .ok (.ifCond .ne 13, 3) := by decide +kernel
theorem dc_B_entry_51 : decode c_C_B_entry 51 = .ok (.new 75, 3) := by decide +kernel
theorem dc_B_entry_54 : decode c_C_B_entry 54 = .ok (.dup, 1) := by decide +kernel
theorem dc_B_entry_55 : decode c_C_B_entry 55 = .ok (.ldc 118, 2) := by decide +kernel
theorem dc_B_entry_57 : decode c_C_B_entry 57 = .ok (.invokespecial 79, 3) := by decide +kernel
theorem dc_B_entry_60 : decode c_C_B_entry 60 = .ok (.athrow, 1) := by decide +kernel
theorem dc_B_entry_61 : decode c_C_B_entry 61 = .ok (.aload_n 0, 1) := by decide +kernel
theorem dc_B_entry_62 : decode c_C_B_entry 62 = .ok (.getfield 16, 3) := by decide +kernel
theorem dc_B_entry_65 : decode c_C_B_entry 65 = .ok (.bipush 64, 2) := by decide +kernel
theorem dc_B_entry_67 : decode c_C_B_entry 67 = .ok (.iload_n 1, 1) := by decide +kernel
theorem dc_B_entry_68 : decode c_C_B_entry 68 = .ok (.imul, 1) := by decide +kernel
theorem dc_B_entry_69 : decode c_C_B_entry 69 = .ok (.bipush 8, 2) := by decide +kernel
theorem dc_B_entry_71 : decode c_C_B_entry 71 = .ok (.iload_n 2, 1) := by decide +kernel
theorem dc_B_entry_72 : decode c_C_B_entry 72 = .ok (.imul, 1) := by decide +kernel
theorem dc_B_entry_73 : decode c_C_B_entry 73 = .ok (.iadd, 1) := by decide +kernel
theorem dc_B_entry_74 : decode c_C_B_entry 74 = .ok (.iload_n 3, 1) := by decide +kernel
theorem dc_B_entry_75 : decode c_C_B_entry 75 = .ok (.iadd, 1) := by decide +kernel
theorem dc_B_entry_76 : decode c_C_B_entry 76 = .ok (.iload 4, 2) := by decide +kernel
theorem dc_B_entry_78 : decode c_C_B_entry 78 = .ok (.iastore, 1) := by decide +kernel
theorem dc_B_entry_79 : decode c_C_B_entry 79 = .ok (.return_, 1) := by decide +kernel
theorem dc_Pi_begin_0 : decode c_C_Pi_begin 0 = .ok (.aload_n 0, 1) := by decide +kernel
theorem dc_Pi_begin_1 : decode c_C_Pi_begin 1 = .ok (.iload_n 1, 1) := by decide +kernel
theorem dc_Pi_begin_2 : decode c_C_Pi_begin 2 = .ok (.putfield 9, 3) := by decide +kernel
theorem dc_Pi_begin_5 : decode c_C_Pi_begin 5 = .ok (.aload_n 0, 1) := by decide +kernel
theorem dc_Pi_begin_6 : decode c_C_Pi_begin 6 = .ok (.iload_n 2, 1) := by decide +kernel
theorem dc_Pi_begin_7 : decode c_C_Pi_begin 7 = .ok (.putfield 15, 3) := by decide +kernel
theorem dc_Pi_begin_10 : decode c_C_Pi_begin 10 = .ok (.aload_n 0, 1) := by decide +kernel
theorem dc_Pi_begin_11 : decode c_C_Pi_begin 11 = .ok (.iload_n 3, 1) := by decide +kernel
theorem dc_Pi_begin_12 : decode c_C_Pi_begin 12 = .ok (.putfield 18, 3) := by decide +kernel
theorem dc_Pi_begin_15 : decode c_C_Pi_begin 15 = .ok (.aload_n 0, 1) := by decide +kernel
theorem dc_Pi_begin_16 : decode c_C_Pi_begin 16 = .ok (.iconst 1, 1) := by decide +kernel
theorem dc_Pi_begin_17 : decode c_C_Pi_begin 17 = .ok (.putfield 28, 3) := by decide +kernel
theorem dc_Pi_begin_20 : decode c_C_Pi_begin 20 = .ok (.aload_n 0, 1) := by decide +kernel
theorem dc_Pi_begin_21 : decode c_C_Pi_begin 21 = .ok (.iconst 1, 1) := by decide +kernel
theorem dc_Pi_begin_22 : decode c_C_Pi_begin 22 = .ok (.putfield 31, 3) := by decide +kernel
theorem dc_Pi_begin_25 : decode c_C_Pi_begin 25 = .ok (.aload_n 0, 1) := by decide +kernel
theorem dc_Pi_begin_26 : decode c_C_Pi_begin 26 = .ok (.iconst 0, 1) := by decide +kernel
theorem dc_Pi_begin_27 : decode c_C_Pi_begin 27 = .ok (.putfield 61, 3) := by decide +kernel
theorem dc_Pi_begin_30 : decode c_C_Pi_begin 30 = .ok (.aload_n 0, 1) := by decide +kernel
theorem dc_Pi_begin_31 : decode c_C_Pi_begin 31 = .ok (.getfield 52, 3) := by decide +kernel
theorem dc_Pi_begin_34 : decode c_C_Pi_begin 34 = .ok (.iconst 0, 1) := by decide +kernel
theorem dc_Pi_begin_35 : decode c_C_Pi_begin 35 = .ok (.invokestatic 65, 3) := by decide +kernel
theorem dc_Pi_begin_38 : decode c_C_Pi_begin 38 = .ok (.return_, 1) := by decide +kernel
theorem dc_Pi_setFactors_0 : decode c_C_Pi_setFactors 0 = .ok (.aload_n 0, 1) := by decide +kernel
theorem dc_Pi_setFactors_1 : decode c_C_Pi_setFactors 1 = .ok (.getfield 21, 3) := by decide +kernel
theorem dc_Pi_setFactors_4 : decode c_C_Pi_setFactors 4 = .ok (.iload_n 1, 1) := by decide +kernel
theorem dc_Pi_setFactors_5 : decode c_C_Pi_setFactors 5 = .ok (.iload_n 2, 1) := by decide +kernel
theorem dc_Pi_setFactors_6 : decode c_C_Pi_setFactors 6 = .ok (.iastore, 1) := by decide +kernel
theorem dc_Pi_setFactors_7 : decode c_C_Pi_setFactors 7 = .ok (.aload_n 0, 1) := by decide +kernel
theorem dc_Pi_setFactors_8 : decode c_C_Pi_setFactors 8 = .ok (.getfield 25, 3) := by decide +kernel
theorem dc_Pi_setFactors_11 : decode c_C_Pi_setFactors 11 = .ok (.iload_n 1, 1) := by decide +kernel
theorem dc_Pi_setFactors_12 : decode c_C_Pi_setFactors 12 = .ok (.iload_n 3, 1) := by decide +kernel
theorem dc_Pi_setFactors_13 : decode c_C_Pi_setFactors 13 = .ok (.iastore, 1) := by decide +kernel
theorem dc_Pi_setFactors_14 : decode c_C_Pi_setFactors 14 = .ok (.aload_n 0, 1) := by decide +kernel
theorem dc_Pi_setFactors_15 : decode c_C_Pi_setFactors 15 = .ok (.aload_n 0, 1) := by decide +kernel
theorem dc_Pi_setFactors_16 : decode c_C_Pi_setFactors 16 = .ok (.getfield 28, 3) := by decide +kernel
theorem dc_Pi_setFactors_19 : decode c_C_Pi_setFactors 19 = .ok (.iload_n 2, 1) := by decide +kernel
theorem dc_Pi_setFactors_20 : decode c_C_Pi_setFactors 20 = .ok (.invokestatic 71, 3) := by decide +kernel
theorem dc_Pi_setFactors_23 : decode c_C_Pi_setFactors 23 = .ok (.putfield 28, 3) := by decide +kernel
theorem dc_Pi_setFactors_26 : decode c_C_Pi_setFactors 26 = .ok (.aload_n 0, 1) := by decide +kernel
theorem dc_Pi_setFactors_27 : decode c_C_Pi_setFactors 27 = .ok (.aload_n 0, 1) := by decide +kernel
theorem dc_Pi_setFactors_28 : decode c_C_Pi_setFactors 28 = .ok (.getfield 31, 3) := by decide +kernel
theorem dc_Pi_setFactors_31 : decode c_C_Pi_setFactors 31 = .ok (.iload_n 3, 1) := by decide +kernel
theorem dc_Pi_setFactors_32 : decode c_C_Pi_setFactors 32 = .ok (.invokestatic 71, 3) := by decide +kernel
theorem dc_Pi_setFactors_35 : decode c_C_Pi_setFactors 35 = .ok (.putfield 31, 3) := by decide +kernel
theorem dc_Pi_setFactors_38 : decode c_C_Pi_setFactors 38 = .ok (.return_, 1) := by decide +kernel
theorem dc_Pa_kindOf_0 : decode c_C_Pa_kindOf 0 = .ok (.iload_n 0, 1) := by decide +kernel
theorem dc_Pa_kindOf_1 : decode c_C_Pa_kindOf 1 = .ok (.ifCond .ne 7, 3) := by decide +kernel
theorem dc_Pa_kindOf_4 : decode c_C_Pa_kindOf 4 = .ok (.iconst 0, 1) := by decide +kernel
theorem dc_Pa_kindOf_5 : decode c_C_Pa_kindOf 5 = .ok (.goto 4, 3) := by decide +kernel
theorem dc_Pa_kindOf_8 : decode c_C_Pa_kindOf 8 = .ok (.iconst 1, 1) := by decide +kernel
theorem dc_Pa_kindOf_9 : decode c_C_Pa_kindOf 9 = .ok (.ireturn, 1) := by decide +kernel
theorem dc_Sc_addLayer_0 : decode c_C_Sc_addLayer 0 = .ok (.aload_n 0, 1) := by decide +kernel
theorem dc_Sc_addLayer_1 : decode c_C_Sc_addLayer 1 = .ok (.getfield 24, 3) := by decide +kernel
theorem dc_Sc_addLayer_4 : decode c_C_Sc_addLayer 4 = .ok (.iconst 3, 1) := by decide +kernel
theorem dc_Sc_addLayer_5 : decode c_C_Sc_addLayer 5 = .ok (.if_icmp .ge 37, 3) := by decide +kernel
theorem dc_Sc_addLayer_8 : decode c_C_Sc_addLayer 8 = .ok (.aload_n 0, 1) := by decide +kernel
theorem dc_Sc_addLayer_9 : decode c_C_Sc_addLayer 9 = .ok (.getfield 9, 3) := by decide +kernel
theorem dc_Sc_addLayer_12 : decode c_C_Sc_addLayer 12 = .ok (.aload_n 0, 1) := by decide +kernel
theorem dc_Sc_addLayer_13 : decode c_C_Sc_addLayer 13 = .ok (.getfield 24, 3) := by decide +kernel
theorem dc_Sc_addLayer_16 : decode c_C_Sc_addLayer 16 = .ok (.iload_n 1, 1) := by decide +kernel
theorem dc_Sc_addLayer_17 : decode c_C_Sc_addLayer 17 = .ok (.iastore, 1) := by decide +kernel
theorem dc_Sc_addLayer_18 : decode c_C_Sc_addLayer 18 = .ok (.aload_n 0, 1) := by decide +kernel
theorem dc_Sc_addLayer_19 : decode c_C_Sc_addLayer 19 = .ok (.getfield 15, 3) := by decide +kernel
theorem dc_Sc_addLayer_22 : decode c_C_Sc_addLayer 22 = .ok (.iload_n 1, 1) := by decide +kernel
theorem dc_Sc_addLayer_23 : decode c_C_Sc_addLayer 23 = .ok (.iload_n 2, 1) := by decide +kernel
theorem dc_Sc_addLayer_24 : decode c_C_Sc_addLayer 24 = .ok (.iastore, 1) := by decide +kernel
theorem dc_Sc_addLayer_25 : decode c_C_Sc_addLayer 25 = .ok (.aload_n 0, 1) := by decide +kernel
theorem dc_Sc_addLayer_26 : decode c_C_Sc_addLayer 26 = .ok (.getfield 18, 3) := by decide +kernel
theorem dc_Sc_addLayer_29 : decode c_C_Sc_addLayer 29 = .ok (.iload_n 1, 1) := by decide +kernel
theorem dc_Sc_addLayer_30 : decode c_C_Sc_addLayer 30 = .ok (.iload_n 3, 1) := by decide +kernel
theorem dc_Sc_addLayer_31 : decode c_C_Sc_addLayer 31 = .ok (.iastore, 1) := by decide +kernel
theorem dc_Sc_addLayer_32 : decode c_C_Sc_addLayer 32 = .ok (.aload_n 0, 1) := by decide +kernel
theorem dc_Sc_addLayer_33 : decode c_C_Sc_addLayer 33 = .ok (.dup, 1) := by decide +kernel
theorem dc_Sc_addLayer_34 : decode c_C_Sc_addLayer 34 = .ok (.getfield 24, 3) := by decide +kernel
theorem dc_Sc_addLayer_37 : decode c_C_Sc_addLayer 37 = .ok (.iconst 1, 1) := by decide +kernel
theorem dc_Sc_addLayer_38 : decode c_C_Sc_addLayer 38 = .ok (.iadd, 1) := by decide +kernel
theorem dc_Sc_addLayer_39 : decode c_C_Sc_addLayer 39 = .ok (.putfield 24, 3) := by decide +kernel
theorem dc_Sc_addLayer_42 : decode c_C_Sc_addLayer 42 = .ok (.return_, 1) := by decide +kernel
theorem dc_Pi_upward_0 : decode c_C_Pi_upward 0 = .ok (.iload_n 1, 1) := by decide +kernel
theorem dc_Pi_upward_1 : decode c_C_Pi_upward 1 = .ok (.iconst 1, 1) := by decide +kernel
theorem dc_Pi_upward_2 : decode c_C_Pi_upward 2 = .ok (.if_icmp .ge 7, 3) := by decide +kernel
theorem dc_Pi_upward_5 : decode c_C_Pi_upward 5 = .ok (.iload_n 0, 1) := by decide +kernel
theorem dc_Pi_upward_6 : decode c_C_Pi_upward 6 = .ok (.goto 10, 3) := by decide +kernel
theorem dc_Pi_upward_9 : decode c_C_Pi_upward 9 = .ok (.iload_n 0, 1) := by decide +kernel
theorem dc_Pi_upward_10 : decode c_C_Pi_upward 10 = .ok (.iload_n 1, 1) := by decide +kernel
theorem dc_Pi_upward_11 : decode c_C_Pi_upward 11 = .ok (.iadd, 1) := by decide +kernel
theorem dc_Pi_upward_12 : decode c_C_Pi_upward 12 = .ok (.iconst 1, 1) := by decide +kernel
theorem dc_Pi_upward_13 : decode c_C_Pi_upward 13 = .ok (.isub, 1) := by decide +kernel
theorem dc_Pi_upward_14 : decode c_C_Pi_upward 14 = .ok (.iload_n 1, 1) := by decide +kernel
theorem dc_Pi_upward_15 : decode c_C_Pi_upward 15 = .ok (.idiv, 1) := by decide +kernel
theorem dc_Pi_upward_16 : decode c_C_Pi_upward 16 = .ok (.ireturn, 1) := by decide +kernel
theorem dc_Pi_measure_0 : decode c_C_Pi_measure 0 = .ok (.aload_n 0, 1) := by decide +kernel
theorem dc_Pi_measure_1 : decode c_C_Pi_measure 1 = .ok (.aload_n 0, 1) := by decide +kernel
theorem dc_Pi_measure_2 : decode c_C_Pi_measure 2 = .ok (.getfield 9, 3) := by decide +kernel
theorem dc_Pi_measure_5 : decode c_C_Pi_measure 5 = .ok (.bipush 8, 2) := by decide +kernel
theorem dc_Pi_measure_7 : decode c_C_Pi_measure 7 = .ok (.aload_n 0, 1) := by decide +kernel
theorem dc_Pi_measure_8 : decode c_C_Pi_measure 8 = .ok (.getfield 28, 3) := by decide +kernel
theorem dc_Pi_measure_11 : decode c_C_Pi_measure 11 = .ok (.imul, 1) := by decide +kernel
theorem dc_Pi_measure_12 : decode c_C_Pi_measure 12 = .ok (.invokestatic 77, 3) := by decide +kernel
theorem dc_Pi_measure_15 : decode c_C_Pi_measure 15 = .ok (.putfield 34, 3) := by decide +kernel
theorem dc_Pi_measure_18 : decode c_C_Pi_measure 18 = .ok (.aload_n 0, 1) := by decide +kernel
theorem dc_Pi_measure_19 : decode c_C_Pi_measure 19 = .ok (.aload_n 0, 1) := by decide +kernel
theorem dc_Pi_measure_20 : decode c_C_Pi_measure 20 = .ok (.getfield 15, 3) := by decide +kernel
theorem dc_Pi_measure_23 : decode c_C_Pi_measure 23 = .ok (.bipush 8, 2) := by decide +kernel
theorem dc_Pi_measure_25 : decode c_C_Pi_measure 25 = .ok (.aload_n 0, 1) := by decide +kernel
theorem dc_Pi_measure_26 : decode c_C_Pi_measure 26 = .ok (.getfield 31, 3) := by decide +kernel
theorem dc_Pi_measure_29 : decode c_C_Pi_measure 29 = .ok (.imul, 1) := by decide +kernel
theorem dc_Pi_measure_30 : decode c_C_Pi_measure 30 = .ok (.invokestatic 77, 3) := by decide +kernel
theorem dc_Pi_measure_33 : decode c_C_Pi_measure 33 = .ok (.putfield 37, 3) := by decide +kernel
theorem dc_Pi_measure_36 : decode c_C_Pi_measure 36 = .ok (.iconst 0, 1) := by decide +kernel
theorem dc_Pi_measure_37 : decode c_C_Pi_measure 37 = .ok (.istore_n 1, 1) := by decide +kernel
theorem dc_Pi_measure_38 : decode c_C_Pi_measure 38 = .ok (.iload_n 1, 1) := by decide +kernel
theorem dc_Pi_measure_39 : decode c_C_Pi_measure 39 = .ok (.aload_n 0, 1) := by decide +kernel
theorem dc_Pi_measure_40 : decode c_C_Pi_measure 40 = .ok (.getfield 18, 3) := by decide +kernel
theorem dc_Pi_measure_43 : decode c_C_Pi_measure 43 = .ok (.if_icmp .ge 98, 3) := by decide +kernel
theorem dc_Pi_measure_46 : decode c_C_Pi_measure 46 = .ok (.aload_n 0, 1) := by decide +kernel
theorem dc_Pi_measure_47 : decode c_C_Pi_measure 47 = .ok (.getfield 40, 3) := by decide +kernel
theorem dc_Pi_measure_50 : decode c_C_Pi_measure 50 = .ok (.iload_n 1, 1) := by decide +kernel
theorem dc_Pi_measure_51 : decode c_C_Pi_measure 51 = .ok (.aload_n 0, 1) := by decide +kernel
theorem dc_Pi_measure_52 : decode c_C_Pi_measure 52 = .ok (.getfield 9, 3) := by decide +kernel
theorem dc_Pi_measure_55 : decode c_C_Pi_measure 55 = .ok (.aload_n 0, 1) := by decide +kernel
theorem dc_Pi_measure_56 : decode c_C_Pi_measure 56 = .ok (.getfield 21, 3) := by decide +kernel
theorem dc_Pi_measure_59 : decode c_C_Pi_measure 59 = .ok (.iload_n 1, 1) := by decide +kernel
theorem dc_Pi_measure_60 : decode c_C_Pi_measure 60 = .ok (.iaload, 1) := by decide +kernel
theorem dc_Pi_measure_61 : decode c_C_Pi_measure 61 = .ok (.imul, 1) := by decide +kernel
theorem dc_Pi_measure_62 : decode c_C_Pi_measure 62 = .ok (.aload_n 0, 1) := by decide +kernel
theorem dc_Pi_measure_63 : decode c_C_Pi_measure 63 = .ok (.getfield 28, 3) := by decide +kernel
theorem dc_Pi_measure_66 : decode c_C_Pi_measure 66 = .ok (.invokestatic 77, 3) := by decide +kernel
theorem dc_Pi_measure_69 : decode c_C_Pi_measure 69 = .ok (.iastore, 1) := by decide +kernel
theorem dc_Pi_measure_70 : decode c_C_Pi_measure 70 = .ok (.aload_n 0, 1) := by decide +kernel
theorem dc_Pi_measure_71 : decode c_C_Pi_measure 71 = .ok (.getfield 43, 3) := by decide +kernel
theorem dc_Pi_measure_74 : decode c_C_Pi_measure 74 = .ok (.iload_n 1, 1) := by decide +kernel
theorem dc_Pi_measure_75 : decode c_C_Pi_measure 75 = .ok (.aload_n 0, 1) := by decide +kernel
theorem dc_Pi_measure_76 : decode c_C_Pi_measure 76 = .ok (.getfield 15, 3) := by decide +kernel
theorem dc_Pi_measure_79 : decode c_C_Pi_measure 79 = .ok (.aload_n 0, 1) := by decide +kernel
theorem dc_Pi_measure_80 : decode c_C_Pi_measure 80 = .ok (.getfield 25, 3) := by decide +kernel
theorem dc_Pi_measure_83 : decode c_C_Pi_measure 83 = .ok (.iload_n 1, 1) := by decide +kernel
theorem dc_Pi_measure_84 : decode c_C_Pi_measure 84 = .ok (.iaload, 1) := by decide +kernel
theorem dc_Pi_measure_85 : decode c_C_Pi_measure 85 = .ok (.imul, 1) := by decide +kernel
theorem dc_Pi_measure_86 : decode c_C_Pi_measure 86 = .ok (.aload_n 0, 1) := by decide +kernel
theorem dc_Pi_measure_87 : decode c_C_Pi_measure 87 = .ok (.getfield 31, 3) := by decide +kernel
theorem dc_Pi_measure_90 : decode c_C_Pi_measure 90 = .ok (.invokestatic 77, 3) := by decide +kernel
theorem dc_Pi_measure_93 : decode c_C_Pi_measure 93 = .ok (.iastore, 1) := by decide +kernel
theorem dc_Pi_measure_94 : decode c_C_Pi_measure 94 = .ok (.aload_n 0, 1) := by decide +kernel
theorem dc_Pi_measure_95 : decode c_C_Pi_measure 95 = .ok (.getfield 46, 3) := by decide +kernel
theorem dc_Pi_measure_98 : decode c_C_Pi_measure 98 = .ok (.iload_n 1, 1) := by decide +kernel
theorem dc_Pi_measure_99 : decode c_C_Pi_measure 99 = .ok (.aload_n 0, 1) := by decide +kernel
theorem dc_Pi_measure_100 : decode c_C_Pi_measure 100 = .ok (.getfield 21, 3) := by decide +kernel
theorem dc_Pi_measure_103 : decode c_C_Pi_measure 103 = .ok (.iload_n 1, 1) := by decide +kernel
theorem dc_Pi_measure_104 : decode c_C_Pi_measure 104 = .ok (.iaload, 1) := by decide +kernel
theorem dc_Pi_measure_105 : decode c_C_Pi_measure 105 = .ok (.aload_n 0, 1) := by decide +kernel
theorem dc_Pi_measure_106 : decode c_C_Pi_measure 106 = .ok (.getfield 34, 3) := by decide +kernel
theorem dc_Pi_measure_109 : decode c_C_Pi_measure 109 = .ok (.imul, 1) := by decide +kernel
theorem dc_Pi_measure_110 : decode c_C_Pi_measure 110 = .ok (.iastore, 1) := by decide +kernel
theorem dc_Pi_measure_111 : decode c_C_Pi_measure 111 = .ok (.aload_n 0, 1) := by decide +kernel
theorem dc_Pi_measure_112 : decode c_C_Pi_measure 112 = .ok (.getfield 49, 3) := by decide +kernel
theorem dc_Pi_measure_115 : decode c_C_Pi_measure 115 = .ok (.iload_n 1, 1) := by decide +kernel
theorem dc_Pi_measure_116 : decode c_C_Pi_measure 116 = .ok (.aload_n 0, 1) := by decide +kernel
theorem dc_Pi_measure_117 : decode c_C_Pi_measure 117 = .ok (.getfield 46, 3) := by decide +kernel
theorem dc_Pi_measure_120 : decode c_C_Pi_measure 120 = .ok (.iload_n 1, 1) := by decide +kernel
theorem dc_Pi_measure_121 : decode c_C_Pi_measure 121 = .ok (.iaload, 1) := by decide +kernel
theorem dc_Pi_measure_122 : decode c_C_Pi_measure 122 = .ok (.aload_n 0, 1) := by decide +kernel
theorem dc_Pi_measure_123 : decode c_C_Pi_measure 123 = .ok (.getfield 25, 3) := by decide +kernel
theorem dc_Pi_measure_126 : decode c_C_Pi_measure 126 = .ok (.iload_n 1, 1) := by decide +kernel
theorem dc_Pi_measure_127 : decode c_C_Pi_measure 127 = .ok (.iaload, 1) := by decide +kernel
theorem dc_Pi_measure_128 : decode c_C_Pi_measure 128 = .ok (.imul, 1) := by decide +kernel
theorem dc_Pi_measure_129 : decode c_C_Pi_measure 129 = .ok (.aload_n 0, 1) := by decide +kernel
theorem dc_Pi_measure_130 : decode c_C_Pi_measure 130 = .ok (.getfield 37, 3) := by decide +kernel
theorem dc_Pi_measure_133 : decode c_C_Pi_measure 133 = .ok (.imul, 1) := by decide +kernel
theorem dc_Pi_measure_134 : decode c_C_Pi_measure 134 = .ok (.iastore, 1) := by decide +kernel
theorem dc_Pi_measure_135 : decode c_C_Pi_measure 135 = .ok (.iinc 1 1, 3) := by decide +kernel
theorem dc_Pi_measure_138 : decode c_C_Pi_measure 138 = .ok (.goto (-100), 3) := by decide +kernel
theorem dc_Pi_measure_141 : decode c_C_Pi_measure 141 = .ok (.return_, 1) := by decide +kernel
theorem dc_Sc_addBlock_0 : decode c_C_Sc_addBlock 0 = .ok (.aload_n 0, 1) := by decide +kernel
theorem dc_Sc_addBlock_1 : decode c_C_Sc_addBlock 1 = .ok (.getfield 36, 3) := by decide +kernel
theorem dc_Sc_addBlock_4 : decode c_C_Sc_addBlock 4 = .ok (.aload_n 0, 1) := by decide +kernel
theorem dc_Sc_addBlock_5 : decode c_C_Sc_addBlock 5 = .ok (.getfield 21, 3) := by decide +kernel
theorem dc_Sc_addBlock_8 : decode c_C_Sc_addBlock 8 = .ok (.arraylength, 1) := by decide +kernel
theorem dc_Sc_addBlock_9 : decode c_C_Sc_addBlock 9 = .ok (.if_icmp .ge 28, 3) := by decide +kernel
theorem dc_Sc_addBlock_12 : decode c_C_Sc_addBlock 12 = .ok (.aload_n 0, 1) := by decide +kernel
theorem dc_Sc_addBlock_13 : decode c_C_Sc_addBlock 13 = .ok (.getfield 21, 3) := by decide +kernel
theorem dc_Sc_addBlock_16 : decode c_C_Sc_addBlock 16 = .ok (.aload_n 0, 1) := by decide +kernel
theorem dc_Sc_addBlock_17 : decode c_C_Sc_addBlock 17 = .ok (.getfield 36, 3) := by decide +kernel
theorem dc_Sc_addBlock_20 : decode c_C_Sc_addBlock 20 = .ok (.bipush 64, 2) := by decide +kernel
theorem dc_Sc_addBlock_22 : decode c_C_Sc_addBlock 22 = .ok (.iload_n 1, 1) := by decide +kernel
theorem dc_Sc_addBlock_23 : decode c_C_Sc_addBlock 23 = .ok (.imul, 1) := by decide +kernel
theorem dc_Sc_addBlock_24 : decode c_C_Sc_addBlock 24 = .ok (.iload_n 2, 1) := by decide +kernel
theorem dc_Sc_addBlock_25 : decode c_C_Sc_addBlock 25 = .ok (.iadd, 1) := by decide +kernel
theorem dc_Sc_addBlock_26 : decode c_C_Sc_addBlock 26 = .ok (.iastore, 1) := by decide +kernel
theorem dc_Sc_addBlock_27 : decode c_C_Sc_addBlock 27 = .ok (.aload_n 0, 1) := by decide +kernel
theorem dc_Sc_addBlock_28 : decode c_C_Sc_addBlock 28 = .ok (.dup, 1) := by decide +kernel
theorem dc_Sc_addBlock_29 : decode c_C_Sc_addBlock 29 = .ok (.getfield 36, 3) := by decide +kernel
theorem dc_Sc_addBlock_32 : decode c_C_Sc_addBlock 32 = .ok (.iconst 1, 1) := by decide +kernel
theorem dc_Sc_addBlock_33 : decode c_C_Sc_addBlock 33 = .ok (.iadd, 1) := by decide +kernel
theorem dc_Sc_addBlock_34 : decode c_C_Sc_addBlock 34 = .ok (.putfield 36, 3) := by decide +kernel
theorem dc_Sc_addBlock_37 : decode c_C_Sc_addBlock 37 = .ok (.return_, 1) := by decide +kernel
theorem dc_Sc_arrangeAlone_0 : decode c_C_Sc_arrangeAlone 0 = .ok (.iconst 0, 1) := by decide +kernel
theorem dc_Sc_arrangeAlone_1 : decode c_C_Sc_arrangeAlone 1 = .ok (.istore_n 3, 1) := by decide +kernel
theorem dc_Sc_arrangeAlone_2 : decode c_C_Sc_arrangeAlone 2 = .ok (.bipush 8, 2) := by decide +kernel
theorem dc_Sc_arrangeAlone_4 : decode c_C_Sc_arrangeAlone 4 = .ok (.iload_n 3, 1) := by decide +kernel
theorem dc_Sc_arrangeAlone_5 : decode c_C_Sc_arrangeAlone 5 = .ok (.imul, 1) := by decide +kernel
theorem dc_Sc_arrangeAlone_6 : decode c_C_Sc_arrangeAlone 6 = .ok (.aload_n 1, 1) := by decide +kernel
theorem dc_Sc_arrangeAlone_7 : decode c_C_Sc_arrangeAlone 7 = .ok (.getfield 57, 3) := by decide +kernel
theorem dc_Sc_arrangeAlone_10 : decode c_C_Sc_arrangeAlone 10 = .ok (.iload_n 2, 1) := by decide +kernel
theorem dc_Sc_arrangeAlone_11 : decode c_C_Sc_arrangeAlone 11 = .ok (.iaload, 1) := by decide +kernel
theorem dc_Sc_arrangeAlone_12 : decode c_C_Sc_arrangeAlone 12 = .ok (.if_icmp .ge 48, 3) := by decide +kernel
theorem dc_Sc_arrangeAlone_15 : decode c_C_Sc_arrangeAlone 15 = .ok (.iconst 0, 1) := by decide +kernel
theorem dc_Sc_arrangeAlone_16 : decode c_C_Sc_arrangeAlone 16 = .ok (.istore 4, 2) := by decide +kernel
theorem dc_Sc_arrangeAlone_18 : decode c_C_Sc_arrangeAlone 18 = .ok (.bipush 8, 2) := by decide +kernel
theorem dc_Sc_arrangeAlone_20 : decode c_C_Sc_arrangeAlone 20 = .ok (.iload 4, 2) := by decide +kernel
theorem dc_Sc_arrangeAlone_22 : decode c_C_Sc_arrangeAlone 22 = .ok (.imul, 1) := by decide +kernel
theorem dc_Sc_arrangeAlone_23 : decode c_C_Sc_arrangeAlone 23 = .ok (.aload_n 1, 1) := by decide +kernel
theorem dc_Sc_arrangeAlone_24 : decode c_C_Sc_arrangeAlone 24 = .ok (.getfield 60, 3) := by decide +kernel
theorem dc_Sc_arrangeAlone_27 : decode c_C_Sc_arrangeAlone 27 = .ok (.iload_n 2, 1) := by decide +kernel
theorem dc_Sc_arrangeAlone_28 : decode c_C_Sc_arrangeAlone 28 = .ok (.iaload, 1) := by decide +kernel
theorem dc_Sc_arrangeAlone_29 : decode c_C_Sc_arrangeAlone 29 = .ok (.if_icmp .ge 25, 3) := by decide +kernel
theorem dc_Sc_arrangeAlone_32 : decode c_C_Sc_arrangeAlone 32 = .ok (.aload_n 0, 1) := by decide +kernel
theorem dc_Sc_arrangeAlone_33 : decode c_C_Sc_arrangeAlone 33 = .ok (.iload_n 2, 1) := by decide +kernel
theorem dc_Sc_arrangeAlone_34 : decode c_C_Sc_arrangeAlone 34 = .ok (.iload_n 3, 1) := by decide +kernel
theorem dc_Sc_arrangeAlone_35 : decode c_C_Sc_arrangeAlone 35 = .ok (.aload_n 1, 1) := by decide +kernel
theorem dc_Sc_arrangeAlone_36 : decode c_C_Sc_arrangeAlone 36 = .ok (.getfield 63, 3) := by decide +kernel
theorem dc_Sc_arrangeAlone_39 : decode c_C_Sc_arrangeAlone 39 = .ok (.iload_n 2, 1) := by decide +kernel
theorem dc_Sc_arrangeAlone_40 : decode c_C_Sc_arrangeAlone 40 = .ok (.iaload, 1) := by decide +kernel
theorem dc_Sc_arrangeAlone_41 : decode c_C_Sc_arrangeAlone 41 = .ok (.imul, 1) := by decide +kernel
theorem dc_Sc_arrangeAlone_42 : decode c_C_Sc_arrangeAlone 42 = .ok (.iload 4, 2) := by decide +kernel
theorem dc_Sc_arrangeAlone_44 : decode c_C_Sc_arrangeAlone 44 = .ok (.iadd, 1) := by decide +kernel
theorem dc_Sc_arrangeAlone_45 : decode c_C_Sc_arrangeAlone 45 = .ok (.invokevirtual 66, 3) := by decide +kernel
theorem dc_Sc_arrangeAlone_48 : decode c_C_Sc_arrangeAlone 48 = .ok (.iinc 4 1, 3) := by decide +kernel
theorem dc_Sc_arrangeAlone_51 : decode c_C_Sc_arrangeAlone 51 = .ok (.goto (-33), 3) := by decide +kernel
theorem dc_Sc_arrangeAlone_54 : decode c_C_Sc_arrangeAlone 54 = .ok (.iinc 3 1, 3) := by decide +kernel
theorem dc_Sc_arrangeAlone_57 : decode c_C_Sc_arrangeAlone 57 = .ok (.goto (-55), 3) := by decide +kernel
theorem dc_Sc_arrangeAlone_60 : decode c_C_Sc_arrangeAlone 60 = .ok (.return_, 1) := by decide +kernel
