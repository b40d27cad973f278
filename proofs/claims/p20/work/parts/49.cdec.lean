theorem dc_B_out_0 : decode c_C_B_out 0 = .ok (.aload_n 0, 1) := by decide +kernel
theorem dc_B_out_1 : decode c_C_B_out 1 = .ok (.getfield 38, 3) := by decide +kernel
theorem dc_B_out_4 : decode c_C_B_out 4 = .ok (.iload_n 1, 1) := by decide +kernel
theorem dc_B_out_5 : decode c_C_B_out 5 = .ok (.invokevirtual 139, 3) := by decide +kernel
theorem dc_B_out_8 : decode c_C_B_out 8 = .ok (.ifCond .ne 13, 3) := by decide +kernel
theorem dc_B_out_11 : decode c_C_B_out 11 = .ok (.new 90, 3) := by decide +kernel
theorem dc_B_out_14 : decode c_C_B_out 14 = .ok (.dup, 1) := by decide +kernel
theorem dc_B_out_15 : decode c_C_B_out 15 = .ok (.ldc 143, 2) := by decide +kernel
theorem dc_B_out_17 : decode c_C_B_out 17 = .ok (.invokespecial 94, 3) := by decide +kernel
theorem dc_B_out_20 : decode c_C_B_out 20 = .ok (.athrow, 1) := by decide +kernel
theorem dc_B_out_21 : decode c_C_B_out 21 = .ok (.aload_n 0, 1) := by decide +kernel
theorem dc_B_out_22 : decode c_C_B_out 22 = .ok (.getfield 38, 3) := by decide +kernel
theorem dc_B_out_25 : decode c_C_B_out 25 = .ok (.getfield 145, 3) := by decide +kernel
theorem dc_B_out_28 : decode c_C_B_out 28 = .ok (.iload_n 1, 1) := by decide +kernel
theorem dc_B_out_29 : decode c_C_B_out 29 = .ok (.iaload, 1) := by decide +kernel
theorem dc_B_out_30 : decode c_C_B_out 30 = .ok (.ireturn, 1) := by decide +kernel
theorem dc_Ro_addFour_0 : decode c_C_Ro_addFour 0 = .ok (.aload_n 0, 1) := by decide +kernel
theorem dc_Ro_addFour_1 : decode c_C_Ro_addFour 1 = .ok (.iload_n 1, 1) := by decide +kernel
theorem dc_Ro_addFour_2 : decode c_C_Ro_addFour 2 = .ok (.bipush 16, 2) := by decide +kernel
theorem dc_Ro_addFour_4 : decode c_C_Ro_addFour 4 = .ok (.ishr, 1) := by decide +kernel
theorem dc_Ro_addFour_5 : decode c_C_Ro_addFour 5 = .ok (.invokevirtual 27, 3) := by decide +kernel
theorem dc_Ro_addFour_8 : decode c_C_Ro_addFour 8 = .ok (.aload_n 0, 1) := by decide +kernel
theorem dc_Ro_addFour_9 : decode c_C_Ro_addFour 9 = .ok (.iload_n 1, 1) := by decide +kernel
theorem dc_Ro_addFour_10 : decode c_C_Ro_addFour 10 = .ok (.invokevirtual 27, 3) := by decide +kernel
theorem dc_Ro_addFour_13 : decode c_C_Ro_addFour 13 = .ok (.return_, 1) := by decide +kernel
theorem dc_B_feed_0 : decode c_C_B_feed 0 = .ok (.aload_n 0, 1) := by decide +kernel
theorem dc_B_feed_1 : decode c_C_B_feed 1 = .ok (.getfield 53, 3) := by decide +kernel
theorem dc_B_feed_4 : decode c_C_B_feed 4 = .ok (.getfield 134, 3) := by decide +kernel
theorem dc_B_feed_7 : decode c_C_B_feed 7 = .ok (.bipush 20, 2) := by decide +kernel
theorem dc_B_feed_9 : decode c_C_B_feed 9 = .ok (.iadd, 1) := by decide +kernel
theorem dc_B_feed_10 : decode c_C_B_feed 10 = .ok (.ldc 148, 2) := by decide +kernel
theorem dc_B_feed_12 : decode c_C_B_feed 12 = .ok (.if_icmp .le 13, 3) := by decide +kernel
theorem dc_B_feed_15 : decode c_C_B_feed 15 = .ok (.new 149, 3) := by decide +kernel
theorem dc_B_feed_18 : decode c_C_B_feed 18 = .ok (.dup, 1) := by decide +kernel
theorem dc_B_feed_19 : decode c_C_B_feed 19 = .ok (.ldc 151, 2) := by decide +kernel
theorem dc_B_feed_21 : decode c_C_B_feed 21 = .ok (.invokespecial 153, 3) := by decide +kernel
theorem dc_B_feed_24 : decode c_C_B_feed 24 = .ok (.athrow, 1) := by decide +kernel
theorem dc_B_feed_25 : decode c_C_B_feed 25 = .ok (.aload_n 0, 1) := by decide +kernel
theorem dc_B_feed_26 : decode c_C_B_feed 26 = .ok (.getfield 53, 3) := by decide +kernel
theorem dc_B_feed_29 : decode c_C_B_feed 29 = .ok (.iload_n 1, 1) := by decide +kernel
theorem dc_B_feed_30 : decode c_C_B_feed 30 = .ok (.invokevirtual 154, 3) := by decide +kernel
theorem dc_B_feed_33 : decode c_C_B_feed 33 = .ok (.aload_n 0, 1) := by decide +kernel
theorem dc_B_feed_34 : decode c_C_B_feed 34 = .ok (.getfield 53, 3) := by decide +kernel
theorem dc_B_feed_37 : decode c_C_B_feed 37 = .ok (.iload_n 2, 1) := by decide +kernel
theorem dc_B_feed_38 : decode c_C_B_feed 38 = .ok (.invokevirtual 154, 3) := by decide +kernel
theorem dc_B_feed_41 : decode c_C_B_feed 41 = .ok (.aload_n 0, 1) := by decide +kernel
theorem dc_B_feed_42 : decode c_C_B_feed 42 = .ok (.getfield 53, 3) := by decide +kernel
theorem dc_B_feed_45 : decode c_C_B_feed 45 = .ok (.iload_n 3, 1) := by decide +kernel
theorem dc_B_feed_46 : decode c_C_B_feed 46 = .ok (.invokevirtual 154, 3) := by decide +kernel
theorem dc_B_feed_49 : decode c_C_B_feed 49 = .ok (.aload_n 0, 1) := by decide +kernel
theorem dc_B_feed_50 : decode c_C_B_feed 50 = .ok (.getfield 53, 3) := by decide +kernel
theorem dc_B_feed_53 : decode c_C_B_feed 53 = .ok (.iload 4, 2) := by decide +kernel
theorem dc_B_feed_55 : decode c_C_B_feed 55 = .ok (.invokevirtual 154, 3) := by decide +kernel
theorem dc_B_feed_58 : decode c_C_B_feed 58 = .ok (.aload_n 0, 1) := by decide +kernel
theorem dc_B_feed_59 : decode c_C_B_feed 59 = .ok (.getfield 53, 3) := by decide +kernel
theorem dc_B_feed_62 : decode c_C_B_feed 62 = .ok (.iload 5, 2) := by decide +kernel
theorem dc_B_feed_64 : decode c_C_B_feed 64 = .ok (.invokevirtual 154, 3) := by decide +kernel
theorem dc_B_feed_67 : decode c_C_B_feed 67 = .ok (.aload_n 0, 1) := by decide +kernel
theorem dc_B_feed_68 : decode c_C_B_feed 68 = .ok (.getfield 53, 3) := by decide +kernel
theorem dc_B_feed_71 : decode c_C_B_feed 71 = .ok (.getfield 134, 3) := by decide +kernel
theorem dc_B_feed_74 : decode c_C_B_feed 74 = .ok (.ireturn, 1) := by decide +kernel
theorem dc_B_end_0 : decode c_C_B_end 0 = .ok (.iload_n 1, 1) := by decide +kernel
theorem dc_B_end_1 : decode c_C_B_end 1 = .ok (.iconst 0, 1) := by decide +kernel
theorem dc_B_end_2 : decode c_C_B_end 2 = .ok (.aload_n 0, 1) := by decide +kernel
theorem dc_B_end_3 : decode c_C_B_end 3 = .ok (.getfield 53, 3) := by decide +kernel
theorem dc_B_end_6 : decode c_C_B_end 6 = .ok (.getfield 134, 3) := by decide +kernel
theorem dc_B_end_9 : decode c_C_B_end 9 = .ok (.invokestatic 71, 3) := by decide +kernel
theorem dc_B_end_12 : decode c_C_B_end 12 = .ok (.ifCond .ne 13, 3) := by decide +kernel
theorem dc_B_end_15 : decode c_C_B_end 15 = .ok (.new 75, 3) := by decide +kernel
theorem dc_B_end_18 : decode c_C_B_end 18 = .ok (.dup, 1) := by decide +kernel
theorem dc_B_end_19 : decode c_C_B_end 19 = .ok (.ldc 157, 2) := by decide +kernel
theorem dc_B_end_21 : decode c_C_B_end 21 = .ok (.invokespecial 79, 3) := by decide +kernel
theorem dc_B_end_24 : decode c_C_B_end 24 = .ok (.athrow, 1) := by decide +kernel
theorem dc_B_end_25 : decode c_C_B_end 25 = .ok (.aload_n 0, 1) := by decide +kernel
theorem dc_B_end_26 : decode c_C_B_end 26 = .ok (.getfield 53, 3) := by decide +kernel
theorem dc_B_end_29 : decode c_C_B_end 29 = .ok (.iload_n 1, 1) := by decide +kernel
theorem dc_B_end_30 : decode c_C_B_end 30 = .ok (.putfield 134, 3) := by decide +kernel
theorem dc_B_end_33 : decode c_C_B_end 33 = .ok (.return_, 1) := by decide +kernel
theorem dc_B_change_0 : decode c_C_B_change 0 = .ok (.aload_n 0, 1) := by decide +kernel
theorem dc_B_change_1 : decode c_C_B_change 1 = .ok (.getfield 53, 3) := by decide +kernel
theorem dc_B_change_4 : decode c_C_B_change 4 = .ok (.iload_n 1, 1) := by decide +kernel
theorem dc_B_change_5 : decode c_C_B_change 5 = .ok (.invokevirtual 139, 3) := by decide +kernel
theorem dc_B_change_8 : decode c_C_B_change 8 = .ok (.ifCond .ne 13, 3) := by decide +kernel
theorem dc_B_change_11 : decode c_C_B_change 11 = .ok (.new 90, 3) := by decide +kernel
theorem dc_B_change_14 : decode c_C_B_change 14 = .ok (.dup, 1) := by decide +kernel
theorem dc_B_change_15 : decode c_C_B_change 15 = .ok (.ldc 159, 2) := by decide +kernel
theorem dc_B_change_17 : decode c_C_B_change 17 = .ok (.invokespecial 94, 3) := by decide +kernel
theorem dc_B_change_20 : decode c_C_B_change 20 = .ok (.athrow, 1) := by decide +kernel
theorem dc_B_change_21 : decode c_C_B_change 21 = .ok (.iload_n 2, 1) := by decide +kernel
theorem dc_B_change_22 : decode c_C_B_change 22 = .ok (.iconst 0, 1) := by decide +kernel
theorem dc_B_change_23 : decode c_C_B_change 23 = .ok (.sipush 255, 3) := by decide +kernel
theorem dc_B_change_26 : decode c_C_B_change 26 = .ok (.invokestatic 71, 3) := by decide +kernel
theorem dc_B_change_29 : decode c_C_B_change 29 = .ok (.ifCond .ne 13, 3) := by decide +kernel
theorem dc_B_change_32 : decode c_C_B_change 32 = .ok (.new 75, 3) := by decide +kernel
theorem dc_B_change_35 : decode c_C_B_change 35 = .ok (.dup, 1) := by decide +kernel
theorem dc_B_change_36 : decode c_C_B_change 36 = .ok (.ldc 161, 2) := by decide +kernel
theorem dc_B_change_38 : decode c_C_B_change 38 = .ok (.invokespecial 79, 3) := by decide +kernel
theorem dc_B_change_41 : decode c_C_B_change 41 = .ok (.athrow, 1) := by decide +kernel
theorem dc_B_change_42 : decode c_C_B_change 42 = .ok (.aload_n 0, 1) := by decide +kernel
theorem dc_B_change_43 : decode c_C_B_change 43 = .ok (.getfield 53, 3) := by decide +kernel
theorem dc_B_change_46 : decode c_C_B_change 46 = .ok (.getfield 145, 3) := by decide +kernel
theorem dc_B_change_49 : decode c_C_B_change 49 = .ok (.iload_n 1, 1) := by decide +kernel
theorem dc_B_change_50 : decode c_C_B_change 50 = .ok (.dup2, 1) := by decide +kernel
theorem dc_B_change_51 : decode c_C_B_change 51 = .ok (.iaload, 1) := by decide +kernel
theorem dc_B_change_52 : decode c_C_B_change 52 = .ok (.iload_n 2, 1) := by decide +kernel
theorem dc_B_change_53 : decode c_C_B_change 53 = .ok (.ixor, 1) := by decide +kernel
theorem dc_B_change_54 : decode c_C_B_change 54 = .ok (.iastore, 1) := by decide +kernel
theorem dc_B_change_55 : decode c_C_B_change 55 = .ok (.aload_n 0, 1) := by decide +kernel
theorem dc_B_change_56 : decode c_C_B_change 56 = .ok (.getfield 53, 3) := by decide +kernel
theorem dc_B_change_59 : decode c_C_B_change 59 = .ok (.getfield 145, 3) := by decide +kernel
theorem dc_B_change_62 : decode c_C_B_change 62 = .ok (.iload_n 1, 1) := by decide +kernel
theorem dc_B_change_63 : decode c_C_B_change 63 = .ok (.iaload, 1) := by decide +kernel
theorem dc_B_change_64 : decode c_C_B_change 64 = .ok (.ireturn, 1) := by decide +kernel
theorem dc_B_turn_0 : decode c_C_B_turn 0 = .ok (.aload_n 0, 1) := by decide +kernel
theorem dc_B_turn_1 : decode c_C_B_turn 1 = .ok (.getfield 38, 3) := by decide +kernel
theorem dc_B_turn_4 : decode c_C_B_turn 4 = .ok (.getfield 134, 3) := by decide +kernel
theorem dc_B_turn_7 : decode c_C_B_turn 7 = .ok (.ldc 148, 2) := by decide +kernel
theorem dc_B_turn_9 : decode c_C_B_turn 9 = .ok (.if_icmp .le 13, 3) := by decide +kernel
theorem dc_B_turn_12 : decode c_C_B_turn 12 = .ok (.new 149, 3) := by decide +kernel
theorem dc_B_turn_15 : decode c_C_B_turn 15 = .ok (.dup, 1) := by decide +kernel
theorem dc_B_turn_16 : decode c_C_B_turn 16 = .ok (.ldc 163, 2) := by decide +kernel
theorem dc_B_turn_18 : decode c_C_B_turn 18 = .ok (.invokespecial 153, 3) := by decide +kernel
theorem dc_B_turn_21 : decode c_C_B_turn 21 = .ok (.athrow, 1) := by decide +kernel
theorem dc_B_turn_22 : decode c_C_B_turn 22 = .ok (.aload_n 0, 1) := by decide +kernel
theorem dc_B_turn_23 : decode c_C_B_turn 23 = .ok (.getfield 53, 3) := by decide +kernel
theorem dc_B_turn_26 : decode c_C_B_turn 26 = .ok (.iconst 0, 1) := by decide +kernel
theorem dc_B_turn_27 : decode c_C_B_turn 27 = .ok (.putfield 134, 3) := by decide +kernel
theorem dc_B_turn_30 : decode c_C_B_turn 30 = .ok (.iconst 0, 1) := by decide +kernel
theorem dc_B_turn_31 : decode c_C_B_turn 31 = .ok (.istore_n 1, 1) := by decide +kernel
theorem dc_B_turn_32 : decode c_C_B_turn 32 = .ok (.iload_n 1, 1) := by decide +kernel
theorem dc_B_turn_33 : decode c_C_B_turn 33 = .ok (.aload_n 0, 1) := by decide +kernel
theorem dc_B_turn_34 : decode c_C_B_turn 34 = .ok (.getfield 38, 3) := by decide +kernel
theorem dc_B_turn_37 : decode c_C_B_turn 37 = .ok (.getfield 134, 3) := by decide +kernel
theorem dc_B_turn_40 : decode c_C_B_turn 40 = .ok (.if_icmp .ge 25, 3) := by decide +kernel
theorem dc_B_turn_43 : decode c_C_B_turn 43 = .ok (.aload_n 0, 1) := by decide +kernel
theorem dc_B_turn_44 : decode c_C_B_turn 44 = .ok (.getfield 53, 3) := by decide +kernel
theorem dc_B_turn_47 : decode c_C_B_turn 47 = .ok (.aload_n 0, 1) := by decide +kernel
theorem dc_B_turn_48 : decode c_C_B_turn 48 = .ok (.getfield 38, 3) := by decide +kernel
theorem dc_B_turn_51 : decode c_C_B_turn 51 = .ok (.getfield 145, 3) := by decide +kernel
theorem dc_B_turn_54 : decode c_C_B_turn 54 = .ok (.iload_n 1, 1) := by decide +kernel
theorem dc_B_turn_55 : decode c_C_B_turn 55 = .ok (.iaload, 1) := by decide +kernel
theorem dc_B_turn_56 : decode c_C_B_turn 56 = .ok (.invokevirtual 165, 3) := by decide +kernel
theorem dc_B_turn_59 : decode c_C_B_turn 59 = .ok (.iinc 1 1, 3) := by decide +kernel
theorem dc_B_turn_62 : decode c_C_B_turn 62 = .ok (.goto (-30), 3) := by decide +kernel
theorem dc_B_turn_65 : decode c_C_B_turn 65 = .ok (.aload_n 0, 1) := by decide +kernel
theorem dc_B_turn_66 : decode c_C_B_turn 66 = .ok (.getfield 53, 3) := by decide +kernel
theorem dc_B_turn_69 : decode c_C_B_turn 69 = .ok (.getfield 134, 3) := by decide +kernel
theorem dc_B_turn_72 : decode c_C_B_turn 72 = .ok (.ireturn, 1) := by decide +kernel
theorem dc_Un_begin_0 : decode c_C_Un_begin 0 = .ok (.aload_n 0, 1) := by decide +kernel
theorem dc_Un_begin_1 : decode c_C_Un_begin 1 = .ok (.getfield 12, 3) := by decide +kernel
theorem dc_Un_begin_4 : decode c_C_Un_begin 4 = .ok (.iconst 0, 1) := by decide +kernel
theorem dc_Un_begin_5 : decode c_C_Un_begin 5 = .ok (.putfield 70, 3) := by decide +kernel
theorem dc_Un_begin_8 : decode c_C_Un_begin 8 = .ok (.aload_n 0, 1) := by decide +kernel
theorem dc_Un_begin_9 : decode c_C_Un_begin 9 = .ok (.iconst 0, 1) := by decide +kernel
theorem dc_Un_begin_10 : decode c_C_Un_begin 10 = .ok (.putfield 99, 3) := by decide +kernel
theorem dc_Un_begin_13 : decode c_C_Un_begin 13 = .ok (.aload_n 0, 1) := by decide +kernel
theorem dc_Un_begin_14 : decode c_C_Un_begin 14 = .ok (.iconst 0, 1) := by decide +kernel
theorem dc_Un_begin_15 : decode c_C_Un_begin 15 = .ok (.putfield 102, 3) := by decide +kernel
theorem dc_Un_begin_18 : decode c_C_Un_begin 18 = .ok (.iconst 0, 1) := by decide +kernel
theorem dc_Un_begin_19 : decode c_C_Un_begin 19 = .ok (.istore_n 1, 1) := by decide +kernel
theorem dc_Un_begin_20 : decode c_C_Un_begin 20 = .ok (.iload_n 1, 1) := by decide +kernel
theorem dc_Un_begin_21 : decode c_C_Un_begin 21 = .ok (.iconst 4, 1) := by decide +kernel
theorem dc_Un_begin_22 : decode c_C_Un_begin 22 = .ok (.if_icmp .ge 26, 3) := by decide +kernel
theorem dc_Un_begin_25 : decode c_C_Un_begin 25 = .ok (.aload_n 0, 1) := by decide +kernel
theorem dc_Un_begin_26 : decode c_C_Un_begin 26 = .ok (.getfield 36, 3) := by decide +kernel
theorem dc_Un_begin_29 : decode c_C_Un_begin 29 = .ok (.iload_n 1, 1) := by decide +kernel
theorem dc_Un_begin_30 : decode c_C_Un_begin 30 = .ok (.iconst 0, 1) := by decide +kernel
theorem dc_Un_begin_31 : decode c_C_Un_begin 31 = .ok (.bastore, 1) := by decide +kernel
theorem dc_Un_begin_32 : decode c_C_Un_begin 32 = .ok (.aload_n 0, 1) := by decide +kernel
theorem dc_Un_begin_33 : decode c_C_Un_begin 33 = .ok (.getfield 43, 3) := by decide +kernel
theorem dc_Un_begin_36 : decode c_C_Un_begin 36 = .ok (.iload_n 1, 1) := by decide +kernel
theorem dc_Un_begin_37 : decode c_C_Un_begin 37 = .ok (.aaload, 1) := by decide +kernel
theorem dc_Un_begin_38 : decode c_C_Un_begin 38 = .ok (.iconst 0, 1) := by decide +kernel
theorem dc_Un_begin_39 : decode c_C_Un_begin 39 = .ok (.putfield 105, 3) := by decide +kernel
theorem dc_Un_begin_42 : decode c_C_Un_begin 42 = .ok (.iinc 1 1, 3) := by decide +kernel
theorem dc_Un_begin_45 : decode c_C_Un_begin 45 = .ok (.goto (-25), 3) := by decide +kernel
theorem dc_Un_begin_48 : decode c_C_Un_begin 48 = .ok (.return_, 1) := by decide +kernel
theorem dc_Re_read_0 : decode c_C_Re_read 0 = .ok (.aload_n 0, 1) := by decide +kernel
theorem dc_Re_read_1 : decode c_C_Re_read 1 = .ok (.getfield 35, 3) := by decide +kernel
theorem dc_Re_read_4 : decode c_C_Re_read 4 = .ok (.aload_n 0, 1) := by decide +kernel
theorem dc_Re_read_5 : decode c_C_Re_read 5 = .ok (.getfield 15, 3) := by decide +kernel
theorem dc_Re_read_8 : decode c_C_Re_read 8 = .ok (.getfield 38, 3) := by decide +kernel
theorem dc_Re_read_11 : decode c_C_Re_read 11 = .ok (.if_icmp .lt 29, 3) := by decide +kernel
theorem dc_Re_read_14 : decode c_C_Re_read 14 = .ok (.aload_n 0, 1) := by decide +kernel
theorem dc_Re_read_15 : decode c_C_Re_read 15 = .ok (.iconst 1, 1) := by decide +kernel
theorem dc_Re_read_16 : decode c_C_Re_read 16 = .ok (.putfield 21, 3) := by decide +kernel
theorem dc_Re_read_19 : decode c_C_Re_read 19 = .ok (.aload_n 0, 1) := by decide +kernel
theorem dc_Re_read_20 : decode c_C_Re_read 20 = .ok (.aload_n 0, 1) := by decide +kernel
theorem dc_Re_read_21 : decode c_C_Re_read 21 = .ok (.getfield 15, 3) := by decide +kernel
theorem dc_Re_read_24 : decode c_C_Re_read 24 = .ok (.getfield 38, 3) := by decide +kernel
theorem dc_Re_read_27 : decode c_C_Re_read 27 = .ok (.putfield 25, 3) := by decide +kernel
theorem dc_Re_read_30 : decode c_C_Re_read 30 = .ok (.new 28, 3) := by decide +kernel
theorem dc_Re_read_33 : decode c_C_Re_read 33 = .ok (.dup, 1) := by decide +kernel
theorem dc_Re_read_34 : decode c_C_Re_read 34 = .ok (.ldc 41, 2) := by decide +kernel
theorem dc_Re_read_36 : decode c_C_Re_read 36 = .ok (.invokespecial 32, 3) := by decide +kernel
theorem dc_Re_read_39 : decode c_C_Re_read 39 = .ok (.athrow, 1) := by decide +kernel
theorem dc_Re_read_40 : decode c_C_Re_read 40 = .ok (.aload_n 0, 1) := by decide +kernel
theorem dc_Re_read_41 : decode c_C_Re_read 41 = .ok (.getfield 15, 3) := by decide +kernel
theorem dc_Re_read_44 : decode c_C_Re_read 44 = .ok (.getfield 43, 3) := by decide +kernel
theorem dc_Re_read_47 : decode c_C_Re_read 47 = .ok (.aload_n 0, 1) := by decide +kernel
theorem dc_Re_read_48 : decode c_C_Re_read 48 = .ok (.getfield 35, 3) := by decide +kernel
theorem dc_Re_read_51 : decode c_C_Re_read 51 = .ok (.iaload, 1) := by decide +kernel
theorem dc_Re_read_52 : decode c_C_Re_read 52 = .ok (.istore_n 1, 1) := by decide +kernel
theorem dc_Re_read_53 : decode c_C_Re_read 53 = .ok (.aload_n 0, 1) := by decide +kernel
theorem dc_Re_read_54 : decode c_C_Re_read 54 = .ok (.dup, 1) := by decide +kernel
theorem dc_Re_read_55 : decode c_C_Re_read 55 = .ok (.getfield 35, 3) := by decide +kernel
theorem dc_Re_read_58 : decode c_C_Re_read 58 = .ok (.iconst 1, 1) := by decide +kernel
theorem dc_Re_read_59 : decode c_C_Re_read 59 = .ok (.iadd, 1) := by decide +kernel
theorem dc_Re_read_60 : decode c_C_Re_read 60 = .ok (.putfield 35, 3) := by decide +kernel
theorem dc_Re_read_63 : decode c_C_Re_read 63 = .ok (.iload_n 1, 1) := by decide +kernel
theorem dc_Re_read_64 : decode c_C_Re_read 64 = .ok (.ireturn, 1) := by decide +kernel
theorem dc_Re_fail_0 : decode c_C_Re_fail 0 = .ok (.aload_n 0, 1) := by decide +kernel
theorem dc_Re_fail_1 : decode c_C_Re_fail 1 = .ok (.iload_n 1, 1) := by decide +kernel
theorem dc_Re_fail_2 : decode c_C_Re_fail 2 = .ok (.putfield 21, 3) := by decide +kernel
theorem dc_Re_fail_5 : decode c_C_Re_fail 5 = .ok (.aload_n 0, 1) := by decide +kernel
theorem dc_Re_fail_6 : decode c_C_Re_fail 6 = .ok (.iload_n 2, 1) := by decide +kernel
theorem dc_Re_fail_7 : decode c_C_Re_fail 7 = .ok (.putfield 25, 3) := by decide +kernel
theorem dc_Re_fail_10 : decode c_C_Re_fail 10 = .ok (.new 28, 3) := by decide +kernel
theorem dc_Re_fail_13 : decode c_C_Re_fail 13 = .ok (.dup, 1) := by decide +kernel
theorem dc_Re_fail_14 : decode c_C_Re_fail 14 = .ok (.ldc 30, 2) := by decide +kernel
theorem dc_Re_fail_16 : decode c_C_Re_fail 16 = .ok (.invokespecial 32, 3) := by decide +kernel
theorem dc_Re_fail_19 : decode c_C_Re_fail 19 = .ok (.athrow, 1) := by decide +kernel
theorem dc_Re_readMark_0 : decode c_C_Re_readMark 0 = .ok (.aload_n 0, 1) := by decide +kernel
theorem dc_Re_readMark_1 : decode c_C_Re_readMark 1 = .ok (.invokevirtual 47, 3) := by decide +kernel
theorem dc_Re_readMark_4 : decode c_C_Re_readMark 4 = .ok (.sipush 255, 3) := by decide +kernel
theorem dc_Re_readMark_7 : decode c_C_Re_readMark 7 = .ok (.if_icmp .eq 14, 3) := by decide +kernel
theorem dc_Re_readMark_10 : decode c_C_Re_readMark 10 = .ok (.aload_n 0, 1) := by decide +kernel
theorem dc_Re_readMark_11 : decode c_C_Re_readMark 11 = .ok (.iconst 2, 1) := by decide +kernel
theorem dc_Re_readMark_12 : decode c_C_Re_readMark 12 = .ok (.aload_n 0, 1) := by decide +kernel
theorem dc_Re_readMark_13 : decode c_C_Re_readMark 13 = .ok (.getfield 35, 3) := by decide +kernel
theorem dc_Re_readMark_16 : decode c_C_Re_readMark 16 = .ok (.iconst 1, 1) := by decide +kernel
theorem dc_Re_readMark_17 : decode c_C_Re_readMark 17 = .ok (.isub, 1) := by decide +kernel
theorem dc_Re_readMark_18 : decode c_C_Re_readMark 18 = .ok (.invokevirtual 51, 3) := by decide +kernel
theorem dc_Re_readMark_21 : decode c_C_Re_readMark 21 = .ok (.aload_n 0, 1) := by decide +kernel
theorem dc_Re_readMark_22 : decode c_C_Re_readMark 22 = .ok (.invokevirtual 47, 3) := by decide +kernel
theorem dc_Re_readMark_25 : decode c_C_Re_readMark 25 = .ok (.istore_n 1, 1) := by decide +kernel
theorem dc_Re_readMark_26 : decode c_C_Re_readMark 26 = .ok (.iconst 0, 1) := by decide +kernel
theorem dc_Re_readMark_27 : decode c_C_Re_readMark 27 = .ok (.istore_n 2, 1) := by decide +kernel
theorem dc_Re_readMark_28 : decode c_C_Re_readMark 28 = .ok (.iload_n 1, 1) := by decide +kernel
theorem dc_Re_readMark_29 : decode c_C_Re_readMark 29 = .ok (.sipush 255, 3) := by decide +kernel
theorem dc_Re_readMark_32 : decode c_C_Re_readMark 32 = .ok (.if_icmp .ne 20, 3) := by decide +kernel
theorem dc_Re_readMark_35 : decode c_C_Re_readMark 35 = .ok (.iload_n 2, 1) := by decide +kernel
theorem dc_Re_readMark_36 : decode c_C_Re_readMark 36 = .ok (.ldc 11, 2) := by decide +kernel
theorem dc_Re_readMark_38 : decode c_C_Re_readMark 38 = .ok (.if_icmp .ge 14, 3) := by decide +kernel
theorem dc_Re_readMark_41 : decode c_C_Re_readMark 41 = .ok (.aload_n 0, 1) := by decide +kernel
theorem dc_Re_readMark_42 : decode c_C_Re_readMark 42 = .ok (.invokevirtual 47, 3) := by decide +kernel
theorem dc_Re_readMark_45 : decode c_C_Re_readMark 45 = .ok (.istore_n 1, 1) := by decide +kernel
theorem dc_Re_readMark_46 : decode c_C_Re_readMark 46 = .ok (.iinc 2 1, 3) := by decide +kernel
theorem dc_Re_readMark_49 : decode c_C_Re_readMark 49 = .ok (.goto (-21), 3) := by decide +kernel
theorem dc_Re_readMark_52 : decode c_C_Re_readMark 52 = .ok (.iload_n 1, 1) := by decide +kernel
theorem dc_Re_readMark_53 : decode c_C_Re_readMark 53 = .ok (.ireturn, 1) := by decide +kernel
theorem dc_Un_allScanned_0 : decode c_C_Un_allScanned 0 = .ok (.iconst 1, 1) := by decide +kernel
theorem dc_Un_allScanned_1 : decode c_C_Un_allScanned 1 = .ok (.istore_n 1, 1) := by decide +kernel
theorem dc_Un_allScanned_2 : decode c_C_Un_allScanned 2 = .ok (.iconst 0, 1) := by decide +kernel
theorem dc_Un_allScanned_3 : decode c_C_Un_allScanned 3 = .ok (.istore_n 2, 1) := by decide +kernel
theorem dc_Un_allScanned_4 : decode c_C_Un_allScanned 4 = .ok (.iload_n 2, 1) := by decide +kernel
theorem dc_Un_allScanned_5 : decode c_C_Un_allScanned 5 = .ok (.aload_n 0, 1) := by decide +kernel
theorem dc_Un_allScanned_6 : decode c_C_Un_allScanned 6 = .ok (.getfield 21, 3) := by decide +kernel
theorem dc_Un_allScanned_9 : decode c_C_Un_allScanned 9 = .ok (.getfield 110, 3) := by decide +kernel
theorem dc_Un_allScanned_12 : decode c_C_Un_allScanned 12 = .ok (.if_icmp .ge 28, 3) := by decide +kernel
theorem dc_Un_allScanned_15 : decode c_C_Un_allScanned 15 = .ok (.iload_n 1, 1) := by decide +kernel
theorem dc_Un_allScanned_16 : decode c_C_Un_allScanned 16 = .ok (.ifCond .eq 16, 3) := by decide +kernel
theorem dc_Un_allScanned_19 : decode c_C_Un_allScanned 19 = .ok (.aload_n 0, 1) := by decide +kernel
theorem dc_Un_allScanned_20 : decode c_C_Un_allScanned 20 = .ok (.getfield 53, 3) := by decide +kernel
theorem dc_Un_allScanned_23 : decode c_C_Un_allScanned 23 = .ok (.iload_n 2, 1) := by decide +kernel
theorem dc_Un_allScanned_24 : decode c_C_Un_allScanned 24 = .ok (.baload, 1) := by decide +kernel
theorem dc_Un_allScanned_25 : decode c_C_Un_allScanned 25 = .ok (.ifCond .eq 7, 3) := by decide +kernel
theorem dc_Un_allScanned_28 : decode c_C_Un_allScanned 28 = .ok (.iconst 1, 1) := by decide +kernel
theorem dc_Un_allScanned_29 : decode c_C_Un_allScanned 29 = .ok (.goto 4, 3) := by decide +kernel
theorem dc_Un_allScanned_32 : decode c_C_Un_allScanned 32 = .ok (.iconst 0, 1) := by decide +kernel
theorem dc_Un_allScanned_33 : decode c_C_Un_allScanned 33 = .ok (.istore_n 1, 1) := by decide +kernel
theorem dc_Un_allScanned_34 : decode c_C_Un_allScanned 34 = .ok (.iinc 2 1, 3) := by decide +kernel
theorem dc_Un_allScanned_37 : decode c_C_Un_allScanned 37 = .ok (.goto (-33), 3) := by decide +kernel
theorem dc_Un_allScanned_40 : decode c_C_Un_allScanned 40 = .ok (.iload_n 1, 1) := by decide +kernel
theorem dc_Un_allScanned_41 : decode c_C_Un_allScanned 41 = .ok (.ireturn, 1) := by decide +kernel
theorem dc_Un_canCome_0 : decode c_C_Un_canCome 0 = .ok (.iload_n 1, 1) := by decide +kernel
theorem dc_Un_canCome_1 : decode c_C_Un_canCome 1 = .ok (.lookupswitch 107 #[(192, 67), (196, 105), (217, 85), (218, 80), (219, 105), (221, 105), (254, 105)], 67) := by decide +kernel
theorem dc_Un_canCome_68 : decode c_C_Un_canCome 68 = .ok (.aload_n 0, 1) := by decide +kernel
theorem dc_Un_canCome_69 : decode c_C_Un_canCome 69 = .ok (.getfield 99, 3) := by decide +kernel
theorem dc_Un_canCome_72 : decode c_C_Un_canCome 72 = .ok (.ifCond .ne 7, 3) := by decide +kernel
theorem dc_Un_canCome_75 : decode c_C_Un_canCome 75 = .ok (.iconst 1, 1) := by decide +kernel
theorem dc_Un_canCome_76 : decode c_C_Un_canCome 76 = .ok (.goto 4, 3) := by decide +kernel
theorem dc_Un_canCome_79 : decode c_C_Un_canCome 79 = .ok (.iconst 0, 1) := by decide +kernel
theorem dc_Un_canCome_80 : decode c_C_Un_canCome 80 = .ok (.ireturn, 1) := by decide +kernel
theorem dc_Un_canCome_81 : decode c_C_Un_canCome 81 = .ok (.aload_n 0, 1) := by decide +kernel
theorem dc_Un_canCome_82 : decode c_C_Un_canCome 82 = .ok (.getfield 99, 3) := by decide +kernel
theorem dc_Un_canCome_85 : decode c_C_Un_canCome 85 = .ok (.ireturn, 1) := by decide +kernel
theorem dc_Un_canCome_86 : decode c_C_Un_canCome 86 = .ok (.aload_n 0, 1) := by decide +kernel
theorem dc_Un_canCome_87 : decode c_C_Un_canCome 87 = .ok (.getfield 99, 3) := by decide +kernel
theorem dc_Un_canCome_90 : decode c_C_Un_canCome 90 = .ok (.ifCond .eq 14, 3) := by decide +kernel
theorem dc_Un_canCome_93 : decode c_C_Un_canCome 93 = .ok (.aload_n 0, 1) := by decide +kernel
theorem dc_Un_canCome_94 : decode c_C_Un_canCome 94 = .ok (.invokevirtual 106, 3) := by decide +kernel
theorem dc_Un_canCome_97 : decode c_C_Un_canCome 97 = .ok (.ifCond .eq 7, 3) := by decide +kernel
theorem dc_Un_canCome_100 : decode c_C_Un_canCome 100 = .ok (.iconst 1, 1) := by decide +kernel
theorem dc_Un_canCome_101 : decode c_C_Un_canCome 101 = .ok (.goto 4, 3) := by decide +kernel
theorem dc_Un_canCome_104 : decode c_C_Un_canCome 104 = .ok (.iconst 0, 1) := by decide +kernel
theorem dc_Un_canCome_105 : decode c_C_Un_canCome 105 = .ok (.ireturn, 1) := by decide +kernel
theorem dc_Un_canCome_106 : decode c_C_Un_canCome 106 = .ok (.iconst 1, 1) := by decide +kernel
theorem dc_Un_canCome_107 : decode c_C_Un_canCome 107 = .ok (.ireturn, 1) := by decide +kernel
theorem dc_Un_canCome_108 : decode c_C_Un_canCome 108 = .ok (.iload_n 1, 1) := by decide +kernel
theorem dc_Un_canCome_109 : decode c_C_Un_canCome 109 = .ok (.sipush 224, 3) := by decide +kernel
theorem dc_Un_canCome_112 : decode c_C_Un_canCome 112 = .ok (.if_icmp .lt 14, 3) := by decide +kernel
theorem dc_Un_canCome_115 : decode c_C_Un_canCome 115 = .ok (.iload_n 1, 1) := by decide +kernel
theorem dc_Un_canCome_116 : decode c_C_Un_canCome 116 = .ok (.sipush 239, 3) := by decide +kernel
theorem dc_Un_canCome_119 : decode c_C_Un_canCome 119 = .ok (.if_icmp .gt 7, 3) := by decide +kernel
theorem dc_Un_canCome_122 : decode c_C_Un_canCome 122 = .ok (.iconst 1, 1) := by decide +kernel
theorem dc_Un_canCome_123 : decode c_C_Un_canCome 123 = .ok (.goto 4, 3) := by decide +kernel
theorem dc_Un_canCome_126 : decode c_C_Un_canCome 126 = .ok (.iconst 0, 1) := by decide +kernel
theorem dc_Un_canCome_127 : decode c_C_Un_canCome 127 = .ok (.ireturn, 1) := by decide +kernel
theorem dc_Re_readTwo_0 : decode c_C_Re_readTwo 0 = .ok (.aload_n 0, 1) := by decide +kernel
theorem dc_Re_readTwo_1 : decode c_C_Re_readTwo 1 = .ok (.invokevirtual 47, 3) := by decide +kernel
theorem dc_Re_readTwo_4 : decode c_C_Re_readTwo 4 = .ok (.istore_n 1, 1) := by decide +kernel
theorem dc_Re_readTwo_5 : decode c_C_Re_readTwo 5 = .ok (.sipush 256, 3) := by decide +kernel
theorem dc_Re_readTwo_8 : decode c_C_Re_readTwo 8 = .ok (.iload_n 1, 1) := by decide +kernel
theorem dc_Re_readTwo_9 : decode c_C_Re_readTwo 9 = .ok (.imul, 1) := by decide +kernel
theorem dc_Re_readTwo_10 : decode c_C_Re_readTwo 10 = .ok (.aload_n 0, 1) := by decide +kernel
theorem dc_Re_readTwo_11 : decode c_C_Re_readTwo 11 = .ok (.invokevirtual 47, 3) := by decide +kernel
theorem dc_Re_readTwo_14 : decode c_C_Re_readTwo 14 = .ok (.iadd, 1) := by decide +kernel
theorem dc_Re_readTwo_15 : decode c_C_Re_readTwo 15 = .ok (.ireturn, 1) := by decide +kernel
theorem dc_Un_readWithin_0 : decode c_C_Un_readWithin 0 = .ok (.aload_n 0, 1) := by decide +kernel
theorem dc_Un_readWithin_1 : decode c_C_Un_readWithin 1 = .ok (.getfield 12, 3) := by decide +kernel
theorem dc_Un_readWithin_4 : decode c_C_Un_readWithin 4 = .ok (.invokevirtual 138, 3) := by decide +kernel
theorem dc_Un_readWithin_7 : decode c_C_Un_readWithin 7 = .ok (.istore_n 3, 1) := by decide +kernel
theorem dc_Un_readWithin_8 : decode c_C_Un_readWithin 8 = .ok (.iload_n 3, 1) := by decide +kernel
theorem dc_Un_readWithin_9 : decode c_C_Un_readWithin 9 = .ok (.iload_n 1, 1) := by decide +kernel
theorem dc_Un_readWithin_10 : decode c_C_Un_readWithin 10 = .ok (.iload_n 2, 1) := by decide +kernel
theorem dc_Un_readWithin_11 : decode c_C_Un_readWithin 11 = .ok (.invokestatic 141, 3) := by decide +kernel
theorem dc_Un_readWithin_14 : decode c_C_Un_readWithin 14 = .ok (.ifCond .ne 20, 3) := by decide +kernel
theorem dc_Un_readWithin_17 : decode c_C_Un_readWithin 17 = .ok (.aload_n 0, 1) := by decide +kernel
theorem dc_Un_readWithin_18 : decode c_C_Un_readWithin 18 = .ok (.getfield 12, 3) := by decide +kernel
theorem dc_Un_readWithin_21 : decode c_C_Un_readWithin 21 = .ok (.iconst 5, 1) := by decide +kernel
theorem dc_Un_readWithin_22 : decode c_C_Un_readWithin 22 = .ok (.aload_n 0, 1) := by decide +kernel
theorem dc_Un_readWithin_23 : decode c_C_Un_readWithin 23 = .ok (.getfield 12, 3) := by decide +kernel
theorem dc_Un_readWithin_26 : decode c_C_Un_readWithin 26 = .ok (.getfield 70, 3) := by decide +kernel
theorem dc_Un_readWithin_29 : decode c_C_Un_readWithin 29 = .ok (.iconst 1, 1) := by decide +kernel
theorem dc_Un_readWithin_30 : decode c_C_Un_readWithin 30 = .ok (.isub, 1) := by decide +kernel
theorem dc_Un_readWithin_31 : decode c_C_Un_readWithin 31 = .ok (.invokevirtual 74, 3) := by decide +kernel
theorem dc_Un_readWithin_34 : decode c_C_Un_readWithin 34 = .ok (.iload_n 3, 1) := by decide +kernel
theorem dc_Un_readWithin_35 : decode c_C_Un_readWithin 35 = .ok (.ireturn, 1) := by decide +kernel
theorem dc_Un_readSide_0 : decode c_C_Un_readSide 0 = .ok (.aload_n 0, 1) := by decide +kernel
theorem dc_Un_readSide_1 : decode c_C_Un_readSide 1 = .ok (.getfield 12, 3) := by decide +kernel
theorem dc_Un_readSide_4 : decode c_C_Un_readSide 4 = .ok (.invokevirtual 116, 3) := by decide +kernel
theorem dc_Un_readSide_7 : decode c_C_Un_readSide 7 = .ok (.istore_n 1, 1) := by decide +kernel
theorem dc_Un_readSide_8 : decode c_C_Un_readSide 8 = .ok (.iload_n 1, 1) := by decide +kernel
theorem dc_Un_readSide_9 : decode c_C_Un_readSide 9 = .ok (.iconst 1, 1) := by decide +kernel
theorem dc_Un_readSide_10 : decode c_C_Un_readSide 10 = .ok (.bipush 64, 2) := by decide +kernel
theorem dc_Un_readSide_12 : decode c_C_Un_readSide 12 = .ok (.invokestatic 141, 3) := by decide +kernel
theorem dc_Un_readSide_15 : decode c_C_Un_readSide 15 = .ok (.ifCond .ne 20, 3) := by decide +kernel
theorem dc_Un_readSide_18 : decode c_C_Un_readSide 18 = .ok (.aload_n 0, 1) := by decide +kernel
theorem dc_Un_readSide_19 : decode c_C_Un_readSide 19 = .ok (.getfield 12, 3) := by decide +kernel
theorem dc_Un_readSide_22 : decode c_C_Un_readSide 22 = .ok (.iconst 5, 1) := by decide +kernel
theorem dc_Un_readSide_23 : decode c_C_Un_readSide 23 = .ok (.aload_n 0, 1) := by decide +kernel
theorem dc_Un_readSide_24 : decode c_C_Un_readSide 24 = .ok (.getfield 12, 3) := by decide +kernel
theorem dc_Un_readSide_27 : decode c_C_Un_readSide 27 = .ok (.getfield 70, 3) := by decide +kernel
theorem dc_Un_readSide_30 : decode c_C_Un_readSide 30 = .ok (.iconst 2, 1) := by decide +kernel
theorem dc_Un_readSide_31 : decode c_C_Un_readSide 31 = .ok (.isub, 1) := by decide +kernel
theorem dc_Un_readSide_32 : decode c_C_Un_readSide 32 = .ok (.invokevirtual 74, 3) := by decide +kernel
theorem dc_Un_readSide_35 : decode c_C_Un_readSide 35 = .ok (.iload_n 1, 1) := by decide +kernel
theorem dc_Un_readSide_36 : decode c_C_Un_readSide 36 = .ok (.ireturn, 1) := by decide +kernel
theorem dc_Un_wantLength_0 : decode c_C_Un_wantLength 0 = .ok (.iload_n 1, 1) := by decide +kernel
theorem dc_Un_wantLength_1 : decode c_C_Un_wantLength 1 = .ok (.ifCond .ne 15, 3) := by decide +kernel
theorem dc_Un_wantLength_4 : decode c_C_Un_wantLength 4 = .ok (.aload_n 0, 1) := by decide +kernel
theorem dc_Un_wantLength_5 : decode c_C_Un_wantLength 5 = .ok (.getfield 12, 3) := by decide +kernel
theorem dc_Un_wantLength_8 : decode c_C_Un_wantLength 8 = .ok (.iconst 4, 1) := by decide +kernel
theorem dc_Un_wantLength_9 : decode c_C_Un_wantLength 9 = .ok (.aload_n 0, 1) := by decide +kernel
theorem dc_Un_wantLength_10 : decode c_C_Un_wantLength 10 = .ok (.getfield 113, 3) := by decide +kernel
theorem dc_Un_wantLength_13 : decode c_C_Un_wantLength 13 = .ok (.invokevirtual 74, 3) := by decide +kernel
theorem dc_Un_wantLength_16 : decode c_C_Un_wantLength 16 = .ok (.return_, 1) := by decide +kernel
theorem dc_Un_readFrameLayer_0 : decode c_C_Un_readFrameLayer 0 = .ok (.aload_n 0, 1) := by decide +kernel
theorem dc_Un_readFrameLayer_1 : decode c_C_Un_readFrameLayer 1 = .ok (.getfield 12, 3) := by decide +kernel
theorem dc_Un_readFrameLayer_4 : decode c_C_Un_readFrameLayer 4 = .ok (.invokevirtual 138, 3) := by decide +kernel
theorem dc_Un_readFrameLayer_7 : decode c_C_Un_readFrameLayer 7 = .ok (.istore_n 2, 1) := by decide +kernel
theorem dc_Un_readFrameLayer_8 : decode c_C_Un_readFrameLayer 8 = .ok (.iconst 0, 1) := by decide +kernel
theorem dc_Un_readFrameLayer_9 : decode c_C_Un_readFrameLayer 9 = .ok (.istore_n 3, 1) := by decide +kernel
theorem dc_Un_readFrameLayer_10 : decode c_C_Un_readFrameLayer 10 = .ok (.iload_n 3, 1) := by decide +kernel
theorem dc_Un_readFrameLayer_11 : decode c_C_Un_readFrameLayer 11 = .ok (.iload_n 1, 1) := by decide +kernel
theorem dc_Un_readFrameLayer_12 : decode c_C_Un_readFrameLayer 12 = .ok (.if_icmp .ge 36, 3) := by decide +kernel
theorem dc_Un_readFrameLayer_15 : decode c_C_Un_readFrameLayer 15 = .ok (.aload_n 0, 1) := by decide +kernel
theorem dc_Un_readFrameLayer_16 : decode c_C_Un_readFrameLayer 16 = .ok (.getfield 47, 3) := by decide +kernel
theorem dc_Un_readFrameLayer_19 : decode c_C_Un_readFrameLayer 19 = .ok (.iload_n 3, 1) := by decide +kernel
theorem dc_Un_readFrameLayer_20 : decode c_C_Un_readFrameLayer 20 = .ok (.iaload, 1) := by decide +kernel
theorem dc_Un_readFrameLayer_21 : decode c_C_Un_readFrameLayer 21 = .ok (.iload_n 2, 1) := by decide +kernel
theorem dc_Un_readFrameLayer_22 : decode c_C_Un_readFrameLayer 22 = .ok (.if_icmp .ne 20, 3) := by decide +kernel
theorem dc_Un_readFrameLayer_25 : decode c_C_Un_readFrameLayer 25 = .ok (.aload_n 0, 1) := by decide +kernel
theorem dc_Un_readFrameLayer_26 : decode c_C_Un_readFrameLayer 26 = .ok (.getfield 12, 3) := by decide +kernel
theorem dc_Un_readFrameLayer_29 : decode c_C_Un_readFrameLayer 29 = .ok (.iconst 5, 1) := by decide +kernel
theorem dc_Un_readFrameLayer_30 : decode c_C_Un_readFrameLayer 30 = .ok (.aload_n 0, 1) := by decide +kernel
theorem dc_Un_readFrameLayer_31 : decode c_C_Un_readFrameLayer 31 = .ok (.getfield 12, 3) := by decide +kernel
theorem dc_Un_readFrameLayer_34 : decode c_C_Un_readFrameLayer 34 = .ok (.getfield 70, 3) := by decide +kernel
theorem dc_Un_readFrameLayer_37 : decode c_C_Un_readFrameLayer 37 = .ok (.iconst 1, 1) := by decide +kernel
theorem dc_Un_readFrameLayer_38 : decode c_C_Un_readFrameLayer 38 = .ok (.isub, 1) := by decide +kernel
theorem dc_Un_readFrameLayer_39 : decode c_C_Un_readFrameLayer 39 = .ok (.invokevirtual 74, 3) := by decide +kernel
theorem dc_Un_readFrameLayer_42 : decode c_C_Un_readFrameLayer 42 = .ok (.iinc 3 1, 3) := by decide +kernel
theorem dc_Un_readFrameLayer_45 : decode c_C_Un_readFrameLayer 45 = .ok (.goto (-35), 3) := by decide +kernel
theorem dc_Un_readFrameLayer_48 : decode c_C_Un_readFrameLayer 48 = .ok (.aload_n 0, 1) := by decide +kernel
theorem dc_Un_readFrameLayer_49 : decode c_C_Un_readFrameLayer 49 = .ok (.getfield 12, 3) := by decide +kernel
theorem dc_Un_readFrameLayer_52 : decode c_C_Un_readFrameLayer 52 = .ok (.invokevirtual 138, 3) := by decide +kernel
theorem dc_Un_readFrameLayer_55 : decode c_C_Un_readFrameLayer 55 = .ok (.istore_n 3, 1) := by decide +kernel
theorem dc_Un_readFrameLayer_56 : decode c_C_Un_readFrameLayer 56 = .ok (.iload_n 3, 1) := by decide +kernel
theorem dc_Un_readFrameLayer_57 : decode c_C_Un_readFrameLayer 57 = .ok (.bipush 16, 2) := by decide +kernel
theorem dc_Un_readFrameLayer_59 : decode c_C_Un_readFrameLayer 59 = .ok (.idiv, 1) := by decide +kernel
theorem dc_Un_readFrameLayer_60 : decode c_C_Un_readFrameLayer 60 = .ok (.iconst 1, 1) := by decide +kernel
theorem dc_Un_readFrameLayer_61 : decode c_C_Un_readFrameLayer 61 = .ok (.iconst 2, 1) := by decide +kernel
theorem dc_Un_readFrameLayer_62 : decode c_C_Un_readFrameLayer 62 = .ok (.invokestatic 141, 3) := by decide +kernel
theorem dc_Un_readFrameLayer_65 : decode c_C_Un_readFrameLayer 65 = .ok (.ifCond .eq 15, 3) := by decide +kernel
theorem dc_Un_readFrameLayer_68 : decode c_C_Un_readFrameLayer 68 = .ok (.iload_n 3, 1) := by decide +kernel
theorem dc_Un_readFrameLayer_69 : decode c_C_Un_readFrameLayer 69 = .ok (.bipush 16, 2) := by decide +kernel
theorem dc_Un_readFrameLayer_71 : decode c_C_Un_readFrameLayer 71 = .ok (.irem, 1) := by decide +kernel
theorem dc_Un_readFrameLayer_72 : decode c_C_Un_readFrameLayer 72 = .ok (.iconst 1, 1) := by decide +kernel
theorem dc_Un_readFrameLayer_73 : decode c_C_Un_readFrameLayer 73 = .ok (.iconst 2, 1) := by decide +kernel
theorem dc_Un_readFrameLayer_74 : decode c_C_Un_readFrameLayer 74 = .ok (.invokestatic 141, 3) := by decide +kernel
theorem dc_Un_readFrameLayer_77 : decode c_C_Un_readFrameLayer 77 = .ok (.ifCond .ne 20, 3) := by decide +kernel
theorem dc_Un_readFrameLayer_80 : decode c_C_Un_readFrameLayer 80 = .ok (.aload_n 0, 1) := by decide +kernel
theorem dc_Un_readFrameLayer_81 : decode c_C_Un_readFrameLayer 81 = .ok (.getfield 12, 3) := by decide +kernel
theorem dc_Un_readFrameLayer_84 : decode c_C_Un_readFrameLayer 84 = .ok (.iconst 5, 1) := by decide +kernel
theorem dc_Un_readFrameLayer_85 : decode c_C_Un_readFrameLayer 85 = .ok (.aload_n 0, 1) := by decide +kernel
theorem dc_Un_readFrameLayer_86 : decode c_C_Un_readFrameLayer 86 = .ok (.getfield 12, 3) := by decide +kernel
theorem dc_Un_readFrameLayer_89 : decode c_C_Un_readFrameLayer 89 = .ok (.getfield 70, 3) := by decide +kernel
theorem dc_Un_readFrameLayer_92 : decode c_C_Un_readFrameLayer 92 = .ok (.iconst 1, 1) := by decide +kernel
theorem dc_Un_readFrameLayer_93 : decode c_C_Un_readFrameLayer 93 = .ok (.isub, 1) := by decide +kernel
theorem dc_Un_readFrameLayer_94 : decode c_C_Un_readFrameLayer 94 = .ok (.invokevirtual 74, 3) := by decide +kernel
theorem dc_Un_readFrameLayer_97 : decode c_C_Un_readFrameLayer 97 = .ok (.aload_n 0, 1) := by decide +kernel
theorem dc_Un_readFrameLayer_98 : decode c_C_Un_readFrameLayer 98 = .ok (.getfield 47, 3) := by decide +kernel
theorem dc_Un_readFrameLayer_101 : decode c_C_Un_readFrameLayer 101 = .ok (.iload_n 1, 1) := by decide +kernel
theorem dc_Un_readFrameLayer_102 : decode c_C_Un_readFrameLayer 102 = .ok (.iload_n 2, 1) := by decide +kernel
theorem dc_Un_readFrameLayer_103 : decode c_C_Un_readFrameLayer 103 = .ok (.iastore, 1) := by decide +kernel
theorem dc_Un_readFrameLayer_104 : decode c_C_Un_readFrameLayer 104 = .ok (.aload_n 0, 1) := by decide +kernel
theorem dc_Un_readFrameLayer_105 : decode c_C_Un_readFrameLayer 105 = .ok (.getfield 21, 3) := by decide +kernel
theorem dc_Un_readFrameLayer_108 : decode c_C_Un_readFrameLayer 108 = .ok (.iload_n 1, 1) := by decide +kernel
theorem dc_Un_readFrameLayer_109 : decode c_C_Un_readFrameLayer 109 = .ok (.iload_n 3, 1) := by decide +kernel
theorem dc_Un_readFrameLayer_110 : decode c_C_Un_readFrameLayer 110 = .ok (.bipush 16, 2) := by decide +kernel
theorem dc_Un_readFrameLayer_112 : decode c_C_Un_readFrameLayer 112 = .ok (.idiv, 1) := by decide +kernel
theorem dc_Un_readFrameLayer_113 : decode c_C_Un_readFrameLayer 113 = .ok (.iload_n 3, 1) := by decide +kernel
theorem dc_Un_readFrameLayer_114 : decode c_C_Un_readFrameLayer 114 = .ok (.bipush 16, 2) := by decide +kernel
theorem dc_Un_readFrameLayer_116 : decode c_C_Un_readFrameLayer 116 = .ok (.irem, 1) := by decide +kernel
theorem dc_Un_readFrameLayer_117 : decode c_C_Un_readFrameLayer 117 = .ok (.invokevirtual 185, 3) := by decide +kernel
theorem dc_Un_readFrameLayer_120 : decode c_C_Un_readFrameLayer 120 = .ok (.aload_n 0, 1) := by decide +kernel
theorem dc_Un_readFrameLayer_121 : decode c_C_Un_readFrameLayer 121 = .ok (.getfield 50, 3) := by decide +kernel
theorem dc_Un_readFrameLayer_124 : decode c_C_Un_readFrameLayer 124 = .ok (.iload_n 1, 1) := by decide +kernel
theorem dc_Un_readFrameLayer_125 : decode c_C_Un_readFrameLayer 125 = .ok (.aload_n 0, 1) := by decide +kernel
theorem dc_Un_readFrameLayer_126 : decode c_C_Un_readFrameLayer 126 = .ok (.iconst 0, 1) := by decide +kernel
theorem dc_Un_readFrameLayer_127 : decode c_C_Un_readFrameLayer 127 = .ok (.iconst 3, 1) := by decide +kernel
theorem dc_Un_readFrameLayer_128 : decode c_C_Un_readFrameLayer 128 = .ok (.invokevirtual 151, 3) := by decide +kernel
theorem dc_Un_readFrameLayer_131 : decode c_C_Un_readFrameLayer 131 = .ok (.iastore, 1) := by decide +kernel
theorem dc_Un_readFrameLayer_132 : decode c_C_Un_readFrameLayer 132 = .ok (.aload_n 0, 1) := by decide +kernel
theorem dc_Un_readFrameLayer_133 : decode c_C_Un_readFrameLayer 133 = .ok (.getfield 53, 3) := by decide +kernel
theorem dc_Un_readFrameLayer_136 : decode c_C_Un_readFrameLayer 136 = .ok (.iload_n 1, 1) := by decide +kernel
theorem dc_Un_readFrameLayer_137 : decode c_C_Un_readFrameLayer 137 = .ok (.iconst 0, 1) := by decide +kernel
theorem dc_Un_readFrameLayer_138 : decode c_C_Un_readFrameLayer 138 = .ok (.bastore, 1) := by decide +kernel
theorem dc_Un_readFrameLayer_139 : decode c_C_Un_readFrameLayer 139 = .ok (.return_, 1) := by decide +kernel
theorem dc_Un_readFrame_0 : decode c_C_Un_readFrame 0 = .ok (.aload_n 0, 1) := by decide +kernel
theorem dc_Un_readFrame_1 : decode c_C_Un_readFrame 1 = .ok (.bipush 8, 2) := by decide +kernel
theorem dc_Un_readFrame_3 : decode c_C_Un_readFrame 3 = .ok (.bipush 8, 2) := by decide +kernel
theorem dc_Un_readFrame_5 : decode c_C_Un_readFrame 5 = .ok (.invokevirtual 151, 3) := by decide +kernel
theorem dc_Un_readFrame_8 : decode c_C_Un_readFrame 8 = .ok (.pop, 1) := by decide +kernel
theorem dc_Un_readFrame_9 : decode c_C_Un_readFrame 9 = .ok (.aload_n 0, 1) := by decide +kernel
theorem dc_Un_readFrame_10 : decode c_C_Un_readFrame 10 = .ok (.invokevirtual 173, 3) := by decide +kernel
theorem dc_Un_readFrame_13 : decode c_C_Un_readFrame 13 = .ok (.istore_n 1, 1) := by decide +kernel
theorem dc_Un_readFrame_14 : decode c_C_Un_readFrame 14 = .ok (.aload_n 0, 1) := by decide +kernel
theorem dc_Un_readFrame_15 : decode c_C_Un_readFrame 15 = .ok (.invokevirtual 173, 3) := by decide +kernel
theorem dc_Un_readFrame_18 : decode c_C_Un_readFrame 18 = .ok (.istore_n 2, 1) := by decide +kernel
theorem dc_Un_readFrame_19 : decode c_C_Un_readFrame 19 = .ok (.aload_n 0, 1) := by decide +kernel
theorem dc_Un_readFrame_20 : decode c_C_Un_readFrame 20 = .ok (.iconst 1, 1) := by decide +kernel
theorem dc_Un_readFrame_21 : decode c_C_Un_readFrame 21 = .ok (.iconst 3, 1) := by decide +kernel
theorem dc_Un_readFrame_22 : decode c_C_Un_readFrame 22 = .ok (.invokevirtual 151, 3) := by decide +kernel
theorem dc_Un_readFrame_25 : decode c_C_Un_readFrame 25 = .ok (.istore_n 3, 1) := by decide +kernel
theorem dc_Un_readFrame_26 : decode c_C_Un_readFrame 26 = .ok (.iload_n 3, 1) := by decide +kernel
theorem dc_Un_readFrame_27 : decode c_C_Un_readFrame 27 = .ok (.iconst 2, 1) := by decide +kernel
theorem dc_Un_readFrame_28 : decode c_C_Un_readFrame 28 = .ok (.if_icmp .ne 20, 3) := by decide +kernel
theorem dc_Un_readFrame_31 : decode c_C_Un_readFrame 31 = .ok (.aload_n 0, 1) := by decide +kernel
theorem dc_Un_readFrame_32 : decode c_C_Un_readFrame 32 = .ok (.getfield 12, 3) := by decide +kernel
theorem dc_Un_readFrame_35 : decode c_C_Un_readFrame 35 = .ok (.iconst 5, 1) := by decide +kernel
theorem dc_Un_readFrame_36 : decode c_C_Un_readFrame 36 = .ok (.aload_n 0, 1) := by decide +kernel
theorem dc_Un_readFrame_37 : decode c_C_Un_readFrame 37 = .ok (.getfield 12, 3) := by decide +kernel
theorem dc_Un_readFrame_40 : decode c_C_Un_readFrame 40 = .ok (.getfield 70, 3) := by decide +kernel
theorem dc_Un_readFrame_43 : decode c_C_Un_readFrame 43 = .ok (.iconst 1, 1) := by decide +kernel
theorem dc_Un_readFrame_44 : decode c_C_Un_readFrame 44 = .ok (.isub, 1) := by decide +kernel
theorem dc_Un_readFrame_45 : decode c_C_Un_readFrame 45 = .ok (.invokevirtual 74, 3) := by decide +kernel
theorem dc_Un_readFrame_48 : decode c_C_Un_readFrame 48 = .ok (.aload_n 0, 1) := by decide +kernel
theorem dc_Un_readFrame_49 : decode c_C_Un_readFrame 49 = .ok (.aload_n 0, 1) := by decide +kernel
theorem dc_Un_readFrame_50 : decode c_C_Un_readFrame 50 = .ok (.getfield 119, 3) := by decide +kernel
theorem dc_Un_readFrame_53 : decode c_C_Un_readFrame 53 = .ok (.bipush 8, 2) := by decide +kernel
theorem dc_Un_readFrame_55 : decode c_C_Un_readFrame 55 = .ok (.iconst 3, 1) := by decide +kernel
theorem dc_Un_readFrame_56 : decode c_C_Un_readFrame 56 = .ok (.iload_n 3, 1) := by decide +kernel
theorem dc_Un_readFrame_57 : decode c_C_Un_readFrame 57 = .ok (.imul, 1) := by decide +kernel
theorem dc_Un_readFrame_58 : decode c_C_Un_readFrame 58 = .ok (.iadd, 1) := by decide +kernel
theorem dc_Un_readFrame_59 : decode c_C_Un_readFrame 59 = .ok (.if_icmp .ne 7, 3) := by decide +kernel
theorem dc_Un_readFrame_62 : decode c_C_Un_readFrame 62 = .ok (.iconst 1, 1) := by decide +kernel
theorem dc_Un_readFrame_63 : decode c_C_Un_readFrame 63 = .ok (.goto 4, 3) := by decide +kernel
theorem dc_Un_readFrame_66 : decode c_C_Un_readFrame 66 = .ok (.iconst 0, 1) := by decide +kernel
theorem dc_Un_readFrame_67 : decode c_C_Un_readFrame 67 = .ok (.invokevirtual 128, 3) := by decide +kernel
theorem dc_Un_readFrame_70 : decode c_C_Un_readFrame 70 = .ok (.aload_n 0, 1) := by decide +kernel
theorem dc_Un_readFrame_71 : decode c_C_Un_readFrame 71 = .ok (.getfield 21, 3) := by decide +kernel
theorem dc_Un_readFrame_74 : decode c_C_Un_readFrame 74 = .ok (.iload_n 2, 1) := by decide +kernel
theorem dc_Un_readFrame_75 : decode c_C_Un_readFrame 75 = .ok (.iload_n 1, 1) := by decide +kernel
theorem dc_Un_readFrame_76 : decode c_C_Un_readFrame 76 = .ok (.iload_n 3, 1) := by decide +kernel
theorem dc_Un_readFrame_77 : decode c_C_Un_readFrame 77 = .ok (.invokevirtual 176, 3) := by decide +kernel
theorem dc_Un_readFrame_80 : decode c_C_Un_readFrame 80 = .ok (.iconst 0, 1) := by decide +kernel
theorem dc_Un_readFrame_81 : decode c_C_Un_readFrame 81 = .ok (.istore 4, 2) := by decide +kernel
theorem dc_Un_readFrame_83 : decode c_C_Un_readFrame 83 = .ok (.iload 4, 2) := by decide +kernel
theorem dc_Un_readFrame_85 : decode c_C_Un_readFrame 85 = .ok (.iload_n 3, 1) := by decide +kernel
theorem dc_Un_readFrame_86 : decode c_C_Un_readFrame 86 = .ok (.if_icmp .ge 15, 3) := by decide +kernel
theorem dc_Un_readFrame_89 : decode c_C_Un_readFrame 89 = .ok (.aload_n 0, 1) := by decide +kernel
theorem dc_Un_readFrame_90 : decode c_C_Un_readFrame 90 = .ok (.iload 4, 2) := by decide +kernel
theorem dc_Un_readFrame_92 : decode c_C_Un_readFrame 92 = .ok (.invokevirtual 179, 3) := by decide +kernel
theorem dc_Un_readFrame_95 : decode c_C_Un_readFrame 95 = .ok (.iinc 4 1, 3) := by decide +kernel
theorem dc_Un_readFrame_98 : decode c_C_Un_readFrame 98 = .ok (.goto (-15), 3) := by decide +kernel
theorem dc_Un_readFrame_101 : decode c_C_Un_readFrame 101 = .ok (.aload_n 0, 1) := by decide +kernel
theorem dc_Un_readFrame_102 : decode c_C_Un_readFrame 102 = .ok (.getfield 21, 3) := by decide +kernel
theorem dc_Un_readFrame_105 : decode c_C_Un_readFrame 105 = .ok (.invokevirtual 182, 3) := by decide +kernel
theorem dc_Un_readFrame_108 : decode c_C_Un_readFrame 108 = .ok (.aload_n 0, 1) := by decide +kernel
theorem dc_Un_readFrame_109 : decode c_C_Un_readFrame 109 = .ok (.iconst 1, 1) := by decide +kernel
theorem dc_Un_readFrame_110 : decode c_C_Un_readFrame 110 = .ok (.putfield 99, 3) := by decide +kernel
theorem dc_Un_readFrame_113 : decode c_C_Un_readFrame 113 = .ok (.return_, 1) := by decide +kernel
