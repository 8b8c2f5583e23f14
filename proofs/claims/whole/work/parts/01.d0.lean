theorem dX4_init_0 : decode cX4_init 0 = .ok (.aload_n 0, 1) := by decide +kernel
theorem dX4_init_1 : decode cX4_init 1 = .ok (.invokespecial 3, 3) := by decide +kernel
theorem dX4_init_4 : decode cX4_init 4 = .ok (.aload_n 0, 1) := by decide +kernel
theorem dX4_init_5 : decode cX4_init 5 = .ok (.new 9, 3) := by decide +kernel
theorem dX4_init_8 : decode cX4_init 8 = .ok (.dup, 1) := by decide +kernel
theorem dX4_init_9 : decode cX4_init 9 = .ok (.invokespecial 11, 3) := by decide +kernel
theorem dX4_init_12 : decode cX4_init 12 = .ok (.putfield 12, 3) := by decide +kernel
theorem dX4_init_15 : decode cX4_init 15 = .ok (.aload_n 0, 1) := by decide +kernel
theorem dX4_init_16 : decode cX4_init 16 = .ok (.new 9, 3) := by decide +kernel
theorem dX4_init_19 : decode cX4_init 19 = .ok (.dup, 1) := by decide +kernel
theorem dX4_init_20 : decode cX4_init 20 = .ok (.invokespecial 11, 3) := by decide +kernel
theorem dX4_init_23 : decode cX4_init 23 = .ok (.putfield 16, 3) := by decide +kernel
theorem dX4_init_26 : decode cX4_init 26 = .ok (.aload_n 0, 1) := by decide +kernel
theorem dX4_init_27 : decode cX4_init 27 = .ok (.new 9, 3) := by decide +kernel
theorem dX4_init_30 : decode cX4_init 30 = .ok (.dup, 1) := by decide +kernel
theorem dX4_init_31 : decode cX4_init 31 = .ok (.invokespecial 11, 3) := by decide +kernel
theorem dX4_init_34 : decode cX4_init 34 = .ok (.putfield 19, 3) := by decide +kernel
theorem dX4_init_37 : decode cX4_init 37 = .ok (.aload_n 0, 1) := by decide +kernel
theorem dX4_init_38 : decode cX4_init 38 = .ok (.iconst 0, 1) := by decide +kernel
theorem dX4_init_39 : decode cX4_init 39 = .ok (.putfield 22, 3) := by decide +kernel
theorem dX4_init_42 : decode cX4_init 42 = .ok (.aload_n 0, 1) := by decide +kernel
theorem dX4_init_43 : decode cX4_init 43 = .ok (.new 26, 3) := by decide +kernel
theorem dX4_init_46 : decode cX4_init 46 = .ok (.dup, 1) := by decide +kernel
theorem dX4_init_47 : decode cX4_init 47 = .ok (.invokespecial 28, 3) := by decide +kernel
theorem dX4_init_50 : decode cX4_init 50 = .ok (.putfield 29, 3) := by decide +kernel
theorem dX4_init_53 : decode cX4_init 53 = .ok (.aload_n 0, 1) := by decide +kernel
theorem dX4_init_54 : decode cX4_init 54 = .ok (.new 33, 3) := by decide +kernel
theorem dX4_init_57 : decode cX4_init 57 = .ok (.dup, 1) := by decide +kernel
theorem dX4_init_58 : decode cX4_init 58 = .ok (.aload_n 0, 1) := by decide +kernel
theorem dX4_init_59 : decode cX4_init 59 = .ok (.getfield 29, 3) := by decide +kernel
theorem dX4_init_62 : decode cX4_init 62 = .ok (.aload_n 0, 1) := by decide +kernel
theorem dX4_init_63 : decode cX4_init 63 = .ok (.getfield 16, 3) := by decide +kernel
theorem dX4_init_66 : decode cX4_init 66 = .ok (.invokespecial 35, 3) := by decide +kernel
theorem dX4_init_69 : decode cX4_init 69 = .ok (.putfield 38, 3) := by decide +kernel
theorem dX4_init_72 : decode cX4_init 72 = .ok (.aload_n 0, 1) := by decide +kernel
theorem dX4_init_73 : decode cX4_init 73 = .ok (.new 42, 3) := by decide +kernel
theorem dX4_init_76 : decode cX4_init 76 = .ok (.dup, 1) := by decide +kernel
theorem dX4_init_77 : decode cX4_init 77 = .ok (.invokespecial 44, 3) := by decide +kernel
theorem dX4_init_80 : decode cX4_init 80 = .ok (.putfield 45, 3) := by decide +kernel
theorem dX4_init_83 : decode cX4_init 83 = .ok (.aload_n 0, 1) := by decide +kernel
theorem dX4_init_84 : decode cX4_init 84 = .ok (.bipush 7, 2) := by decide +kernel
theorem dX4_init_86 : decode cX4_init 86 = .ok (.newarray .int, 2) := by decide +kernel
theorem dX4_init_88 : decode cX4_init 88 = .ok (.putfield 49, 3) := by decide +kernel
theorem dX4_init_91 : decode cX4_init 91 = .ok (.return_, 1) := by decide +kernel
theorem dX4_ball_0 : decode cX4_ball 0 = .ok (.iload_n 1, 1) := by decide +kernel
theorem dX4_ball_1 : decode cX4_ball 1 = .ok (.invokestatic 53, 3) := by decide +kernel
theorem dX4_ball_4 : decode cX4_ball 4 = .ok (.ifCond .ne 10, 3) := by decide +kernel
theorem dX4_ball_7 : decode cX4_ball 7 = .ok (.aload_n 0, 1) := by decide +kernel
theorem dX4_ball_8 : decode cX4_ball 8 = .ok (.ldc 57, 2) := by decide +kernel
theorem dX4_ball_10 : decode cX4_ball 10 = .ok (.invokevirtual 58, 3) := by decide +kernel
theorem dX4_ball_13 : decode cX4_ball 13 = .ok (.ireturn, 1) := by decide +kernel
theorem dX4_ball_14 : decode cX4_ball 14 = .ok (.aload_n 0, 1) := by decide +kernel
theorem dX4_ball_15 : decode cX4_ball 15 = .ok (.getfield 12, 3) := by decide +kernel
theorem dX4_ball_18 : decode cX4_ball 18 = .ok (.getfield 62, 3) := by decide +kernel
theorem dX4_ball_21 : decode cX4_ball 21 = .ok (.istore_n 2, 1) := by decide +kernel
theorem dX4_ball_22 : decode cX4_ball 22 = .ok (.aload_n 0, 1) := by decide +kernel
theorem dX4_ball_23 : decode cX4_ball 23 = .ok (.getfield 12, 3) := by decide +kernel
theorem dX4_ball_26 : decode cX4_ball 26 = .ok (.iload_n 1, 1) := by decide +kernel
theorem dX4_ball_27 : decode cX4_ball 27 = .ok (.putfield 62, 3) := by decide +kernel
theorem dX4_ball_30 : decode cX4_ball 30 = .ok (.iload_n 2, 1) := by decide +kernel
theorem dX4_ball_31 : decode cX4_ball 31 = .ok (.ireturn, 1) := by decide +kernel
theorem dX4_drag_0 : decode cX4_drag 0 = .ok (.iload_n 1, 1) := by decide +kernel
theorem dX4_drag_1 : decode cX4_drag 1 = .ok (.iconst 0, 1) := by decide +kernel
theorem dX4_drag_2 : decode cX4_drag 2 = .ok (.bipush 99, 2) := by decide +kernel
theorem dX4_drag_4 : decode cX4_drag 4 = .ok (.invokestatic 66, 3) := by decide +kernel
theorem dX4_drag_7 : decode cX4_drag 7 = .ok (.ifCond .ne 10, 3) := by decide +kernel
theorem dX4_drag_10 : decode cX4_drag 10 = .ok (.aload_n 0, 1) := by decide +kernel
theorem dX4_drag_11 : decode cX4_drag 11 = .ok (.ldc 57, 2) := by decide +kernel
theorem dX4_drag_13 : decode cX4_drag 13 = .ok (.invokevirtual 58, 3) := by decide +kernel
theorem dX4_drag_16 : decode cX4_drag 16 = .ok (.ireturn, 1) := by decide +kernel
theorem dX4_drag_17 : decode cX4_drag 17 = .ok (.aload_n 0, 1) := by decide +kernel
theorem dX4_drag_18 : decode cX4_drag 18 = .ok (.getfield 12, 3) := by decide +kernel
theorem dX4_drag_21 : decode cX4_drag 21 = .ok (.getfield 70, 3) := by decide +kernel
theorem dX4_drag_24 : decode cX4_drag 24 = .ok (.istore_n 2, 1) := by decide +kernel
theorem dX4_drag_25 : decode cX4_drag 25 = .ok (.aload_n 0, 1) := by decide +kernel
theorem dX4_drag_26 : decode cX4_drag 26 = .ok (.getfield 12, 3) := by decide +kernel
theorem dX4_drag_29 : decode cX4_drag 29 = .ok (.iload_n 1, 1) := by decide +kernel
theorem dX4_drag_30 : decode cX4_drag 30 = .ok (.putfield 70, 3) := by decide +kernel
theorem dX4_drag_33 : decode cX4_drag 33 = .ok (.iload_n 2, 1) := by decide +kernel
theorem dX4_drag_34 : decode cX4_drag 34 = .ok (.ireturn, 1) := by decide +kernel
theorem dX4_wind_0 : decode cX4_wind 0 = .ok (.iload_n 1, 1) := by decide +kernel
theorem dX4_wind_1 : decode cX4_wind 1 = .ok (.invokestatic 73, 3) := by decide +kernel
theorem dX4_wind_4 : decode cX4_wind 4 = .ok (.ifCond .eq 10, 3) := by decide +kernel
theorem dX4_wind_7 : decode cX4_wind 7 = .ok (.iload_n 2, 1) := by decide +kernel
theorem dX4_wind_8 : decode cX4_wind 8 = .ok (.invokestatic 53, 3) := by decide +kernel
theorem dX4_wind_11 : decode cX4_wind 11 = .ok (.ifCond .ne 10, 3) := by decide +kernel
theorem dX4_wind_14 : decode cX4_wind 14 = .ok (.aload_n 0, 1) := by decide +kernel
theorem dX4_wind_15 : decode cX4_wind 15 = .ok (.ldc 57, 2) := by decide +kernel
theorem dX4_wind_17 : decode cX4_wind 17 = .ok (.invokevirtual 58, 3) := by decide +kernel
theorem dX4_wind_20 : decode cX4_wind 20 = .ok (.ireturn, 1) := by decide +kernel
theorem dX4_wind_21 : decode cX4_wind 21 = .ok (.aload_n 0, 1) := by decide +kernel
theorem dX4_wind_22 : decode cX4_wind 22 = .ok (.getfield 12, 3) := by decide +kernel
theorem dX4_wind_25 : decode cX4_wind 25 = .ok (.invokevirtual 76, 3) := by decide +kernel
theorem dX4_wind_28 : decode cX4_wind 28 = .ok (.ifCond .eq 10, 3) := by decide +kernel
theorem dX4_wind_31 : decode cX4_wind 31 = .ok (.aload_n 0, 1) := by decide +kernel
theorem dX4_wind_32 : decode cX4_wind 32 = .ok (.ldc 80, 2) := by decide +kernel
theorem dX4_wind_34 : decode cX4_wind 34 = .ok (.invokevirtual 58, 3) := by decide +kernel
theorem dX4_wind_37 : decode cX4_wind 37 = .ok (.ireturn, 1) := by decide +kernel
theorem dX4_wind_38 : decode cX4_wind 38 = .ok (.aload_n 0, 1) := by decide +kernel
theorem dX4_wind_39 : decode cX4_wind 39 = .ok (.getfield 12, 3) := by decide +kernel
theorem dX4_wind_42 : decode cX4_wind 42 = .ok (.iload_n 1, 1) := by decide +kernel
theorem dX4_wind_43 : decode cX4_wind 43 = .ok (.iload_n 2, 1) := by decide +kernel
theorem dX4_wind_44 : decode cX4_wind 44 = .ok (.invokevirtual 81, 3) := by decide +kernel
theorem dX4_wind_47 : decode cX4_wind 47 = .ok (.ireturn, 1) := by decide +kernel
theorem dX4_of_0 : decode cX4_of 0 = .ok (.aload_n 0, 1) := by decide +kernel
theorem dX4_of_1 : decode cX4_of 1 = .ok (.getfield 12, 3) := by decide +kernel
theorem dX4_of_4 : decode cX4_of 4 = .ok (.iload_n 1, 1) := by decide +kernel
theorem dX4_of_5 : decode cX4_of 5 = .ok (.invokevirtual 85, 3) := by decide +kernel
theorem dX4_of_8 : decode cX4_of 8 = .ok (.ifCond .eq 13, 3) := by decide +kernel
theorem dX4_of_11 : decode cX4_of 11 = .ok (.iload_n 2, 1) := by decide +kernel
theorem dX4_of_12 : decode cX4_of 12 = .ok (.iconst 0, 1) := by decide +kernel
theorem dX4_of_13 : decode cX4_of 13 = .ok (.bipush 9, 2) := by decide +kernel
theorem dX4_of_15 : decode cX4_of 15 = .ok (.invokestatic 66, 3) := by decide +kernel
theorem dX4_of_18 : decode cX4_of 18 = .ok (.ifCond .ne 10, 3) := by decide +kernel
theorem dX4_of_21 : decode cX4_of 21 = .ok (.aload_n 0, 1) := by decide +kernel
theorem dX4_of_22 : decode cX4_of 22 = .ok (.ldc 57, 2) := by decide +kernel
theorem dX4_of_24 : decode cX4_of 24 = .ok (.invokevirtual 58, 3) := by decide +kernel
theorem dX4_of_27 : decode cX4_of 27 = .ok (.ireturn, 1) := by decide +kernel
theorem dX4_of_28 : decode cX4_of 28 = .ok (.aload_n 0, 1) := by decide +kernel
theorem dX4_of_29 : decode cX4_of 29 = .ok (.getfield 12, 3) := by decide +kernel
theorem dX4_of_32 : decode cX4_of 32 = .ok (.iload_n 1, 1) := by decide +kernel
theorem dX4_of_33 : decode cX4_of 33 = .ok (.iload_n 2, 1) := by decide +kernel
theorem dX4_of_34 : decode cX4_of 34 = .ok (.invokevirtual 88, 3) := by decide +kernel
theorem dX4_of_37 : decode cX4_of 37 = .ok (.ireturn, 1) := by decide +kernel
theorem dX4_change_0 : decode cX4_change 0 = .ok (.aload_n 0, 1) := by decide +kernel
theorem dX4_change_1 : decode cX4_change 1 = .ok (.getfield 12, 3) := by decide +kernel
theorem dX4_change_4 : decode cX4_change 4 = .ok (.iload_n 1, 1) := by decide +kernel
theorem dX4_change_5 : decode cX4_change 5 = .ok (.invokevirtual 85, 3) := by decide +kernel
theorem dX4_change_8 : decode cX4_change 8 = .ok (.ifCond .eq 11, 3) := by decide +kernel
theorem dX4_change_11 : decode cX4_change 11 = .ok (.iload_n 2, 1) := by decide +kernel
theorem dX4_change_12 : decode cX4_change 12 = .ok (.iload_n 3, 1) := by decide +kernel
theorem dX4_change_13 : decode cX4_change 13 = .ok (.invokestatic 91, 3) := by decide +kernel
theorem dX4_change_16 : decode cX4_change 16 = .ok (.ifCond .ne 10, 3) := by decide +kernel
theorem dX4_change_19 : decode cX4_change 19 = .ok (.aload_n 0, 1) := by decide +kernel
theorem dX4_change_20 : decode cX4_change 20 = .ok (.ldc 57, 2) := by decide +kernel
theorem dX4_change_22 : decode cX4_change 22 = .ok (.invokevirtual 58, 3) := by decide +kernel
theorem dX4_change_25 : decode cX4_change 25 = .ok (.ireturn, 1) := by decide +kernel
theorem dX4_change_26 : decode cX4_change 26 = .ok (.aload_n 0, 1) := by decide +kernel
theorem dX4_change_27 : decode cX4_change 27 = .ok (.getfield 12, 3) := by decide +kernel
theorem dX4_change_30 : decode cX4_change 30 = .ok (.iload_n 1, 1) := by decide +kernel
theorem dX4_change_31 : decode cX4_change 31 = .ok (.iload_n 2, 1) := by decide +kernel
theorem dX4_change_32 : decode cX4_change 32 = .ok (.invokevirtual 95, 3) := by decide +kernel
theorem dX4_change_35 : decode cX4_change 35 = .ok (.istore 4, 2) := by decide +kernel
theorem dX4_change_37 : decode cX4_change 37 = .ok (.aload_n 0, 1) := by decide +kernel
theorem dX4_change_38 : decode cX4_change 38 = .ok (.getfield 12, 3) := by decide +kernel
theorem dX4_change_41 : decode cX4_change 41 = .ok (.iload_n 1, 1) := by decide +kernel
theorem dX4_change_42 : decode cX4_change 42 = .ok (.iload_n 2, 1) := by decide +kernel
theorem dX4_change_43 : decode cX4_change 43 = .ok (.iload_n 3, 1) := by decide +kernel
theorem dX4_change_44 : decode cX4_change 44 = .ok (.invokevirtual 98, 3) := by decide +kernel
theorem dX4_change_47 : decode cX4_change 47 = .ok (.iload 4, 2) := by decide +kernel
theorem dX4_change_49 : decode cX4_change 49 = .ok (.ireturn, 1) := by decide +kernel
theorem dX4_lend_0 : decode cX4_lend 0 = .ok (.iload_n 1, 1) := by decide +kernel
theorem dX4_lend_1 : decode cX4_lend 1 = .ok (.iconst 1, 1) := by decide +kernel
theorem dX4_lend_2 : decode cX4_lend 2 = .ok (.bipush 99, 2) := by decide +kernel
theorem dX4_lend_4 : decode cX4_lend 4 = .ok (.invokestatic 66, 3) := by decide +kernel
theorem dX4_lend_7 : decode cX4_lend 7 = .ok (.ifCond .ne 10, 3) := by decide +kernel
theorem dX4_lend_10 : decode cX4_lend 10 = .ok (.aload_n 0, 1) := by decide +kernel
theorem dX4_lend_11 : decode cX4_lend 11 = .ok (.ldc 57, 2) := by decide +kernel
theorem dX4_lend_13 : decode cX4_lend 13 = .ok (.invokevirtual 58, 3) := by decide +kernel
theorem dX4_lend_16 : decode cX4_lend 16 = .ok (.ireturn, 1) := by decide +kernel
theorem dX4_lend_17 : decode cX4_lend 17 = .ok (.aload_n 0, 1) := by decide +kernel
theorem dX4_lend_18 : decode cX4_lend 18 = .ok (.getfield 12, 3) := by decide +kernel
theorem dX4_lend_21 : decode cX4_lend 21 = .ok (.getfield 102, 3) := by decide +kernel
theorem dX4_lend_24 : decode cX4_lend 24 = .ok (.ifCond .ne 10, 3) := by decide +kernel
theorem dX4_lend_27 : decode cX4_lend 27 = .ok (.aload_n 0, 1) := by decide +kernel
theorem dX4_lend_28 : decode cX4_lend 28 = .ok (.ldc 105, 2) := by decide +kernel
theorem dX4_lend_30 : decode cX4_lend 30 = .ok (.invokevirtual 58, 3) := by decide +kernel
theorem dX4_lend_33 : decode cX4_lend 33 = .ok (.ireturn, 1) := by decide +kernel
theorem dX4_lend_34 : decode cX4_lend 34 = .ok (.aload_n 0, 1) := by decide +kernel
theorem dX4_lend_35 : decode cX4_lend 35 = .ok (.getfield 12, 3) := by decide +kernel
theorem dX4_lend_38 : decode cX4_lend 38 = .ok (.iload_n 1, 1) := by decide +kernel
theorem dX4_lend_39 : decode cX4_lend 39 = .ok (.invokevirtual 106, 3) := by decide +kernel
theorem dX4_lend_42 : decode cX4_lend 42 = .ok (.ireturn, 1) := by decide +kernel
theorem dX4_felt_0 : decode cX4_felt 0 = .ok (.iload_n 1, 1) := by decide +kernel
theorem dX4_felt_1 : decode cX4_felt 1 = .ok (.invokestatic 53, 3) := by decide +kernel
theorem dX4_felt_4 : decode cX4_felt 4 = .ok (.ifCond .ne 10, 3) := by decide +kernel
theorem dX4_felt_7 : decode cX4_felt 7 = .ok (.aload_n 0, 1) := by decide +kernel
theorem dX4_felt_8 : decode cX4_felt 8 = .ok (.ldc 57, 2) := by decide +kernel
theorem dX4_felt_10 : decode cX4_felt 10 = .ok (.invokevirtual 58, 3) := by decide +kernel
theorem dX4_felt_13 : decode cX4_felt 13 = .ok (.ireturn, 1) := by decide +kernel
theorem dX4_felt_14 : decode cX4_felt 14 = .ok (.aload_n 0, 1) := by decide +kernel
theorem dX4_felt_15 : decode cX4_felt 15 = .ok (.getfield 12, 3) := by decide +kernel
theorem dX4_felt_18 : decode cX4_felt 18 = .ok (.iload_n 1, 1) := by decide +kernel
theorem dX4_felt_19 : decode cX4_felt 19 = .ok (.invokevirtual 109, 3) := by decide +kernel
theorem dX4_felt_22 : decode cX4_felt 22 = .ok (.ireturn, 1) := by decide +kernel
theorem dX4_go_0 : decode cX4_go 0 = .ok (.iload_n 1, 1) := by decide +kernel
theorem dX4_go_1 : decode cX4_go 1 = .ok (.iconst 1, 1) := by decide +kernel
theorem dX4_go_2 : decode cX4_go 2 = .ok (.bipush 60, 2) := by decide +kernel
theorem dX4_go_4 : decode cX4_go 4 = .ok (.invokestatic 66, 3) := by decide +kernel
theorem dX4_go_7 : decode cX4_go 7 = .ok (.ifCond .ne 10, 3) := by decide +kernel
theorem dX4_go_10 : decode cX4_go 10 = .ok (.aload_n 0, 1) := by decide +kernel
theorem dX4_go_11 : decode cX4_go 11 = .ok (.ldc 57, 2) := by decide +kernel
theorem dX4_go_13 : decode cX4_go 13 = .ok (.invokevirtual 58, 3) := by decide +kernel
theorem dX4_go_16 : decode cX4_go 16 = .ok (.ireturn, 1) := by decide +kernel
theorem dX4_go_17 : decode cX4_go 17 = .ok (.aload_n 0, 1) := by decide +kernel
theorem dX4_go_18 : decode cX4_go 18 = .ok (.getfield 12, 3) := by decide +kernel
theorem dX4_go_21 : decode cX4_go 21 = .ok (.getfield 112, 3) := by decide +kernel
theorem dX4_go_24 : decode cX4_go 24 = .ok (.ldc 115, 2) := by decide +kernel
theorem dX4_go_26 : decode cX4_go 26 = .ok (.iload_n 1, 1) := by decide +kernel
theorem dX4_go_27 : decode cX4_go 27 = .ok (.isub, 1) := by decide +kernel
theorem dX4_go_28 : decode cX4_go 28 = .ok (.if_icmp .le 10, 3) := by decide +kernel
theorem dX4_go_31 : decode cX4_go 31 = .ok (.aload_n 0, 1) := by decide +kernel
theorem dX4_go_32 : decode cX4_go 32 = .ok (.ldc 105, 2) := by decide +kernel
theorem dX4_go_34 : decode cX4_go 34 = .ok (.invokevirtual 58, 3) := by decide +kernel
theorem dX4_go_37 : decode cX4_go 37 = .ok (.ireturn, 1) := by decide +kernel
theorem dX4_go_38 : decode cX4_go 38 = .ok (.aload_n 0, 1) := by decide +kernel
theorem dX4_go_39 : decode cX4_go 39 = .ok (.getfield 12, 3) := by decide +kernel
theorem dX4_go_42 : decode cX4_go 42 = .ok (.iload_n 1, 1) := by decide +kernel
theorem dX4_go_43 : decode cX4_go 43 = .ok (.invokevirtual 116, 3) := by decide +kernel
theorem dX4_go_46 : decode cX4_go 46 = .ok (.aload_n 0, 1) := by decide +kernel
theorem dX4_go_47 : decode cX4_go 47 = .ok (.getfield 12, 3) := by decide +kernel
theorem dX4_go_50 : decode cX4_go 50 = .ok (.getfield 62, 3) := by decide +kernel
theorem dX4_go_53 : decode cX4_go 53 = .ok (.ireturn, 1) := by decide +kernel
theorem dX4_now_0 : decode cX4_now 0 = .ok (.iload_n 1, 1) := by decide +kernel
theorem dX4_now_1 : decode cX4_now 1 = .ok (.tableswitch 126 0 7 #[47, 55, 63, 78, 93, 102, 110, 118], 47) := by decide +kernel
theorem dX4_now_48 : decode cX4_now 48 = .ok (.aload_n 0, 1) := by decide +kernel
theorem dX4_now_49 : decode cX4_now 49 = .ok (.getfield 12, 3) := by decide +kernel
theorem dX4_now_52 : decode cX4_now 52 = .ok (.getfield 112, 3) := by decide +kernel
theorem dX4_now_55 : decode cX4_now 55 = .ok (.ireturn, 1) := by decide +kernel
theorem dX4_now_56 : decode cX4_now 56 = .ok (.aload_n 0, 1) := by decide +kernel
theorem dX4_now_57 : decode cX4_now 57 = .ok (.getfield 12, 3) := by decide +kernel
theorem dX4_now_60 : decode cX4_now 60 = .ok (.getfield 62, 3) := by decide +kernel
theorem dX4_now_63 : decode cX4_now 63 = .ok (.ireturn, 1) := by decide +kernel
theorem dX4_now_64 : decode cX4_now 64 = .ok (.aload_n 0, 1) := by decide +kernel
theorem dX4_now_65 : decode cX4_now 65 = .ok (.getfield 12, 3) := by decide +kernel
theorem dX4_now_68 : decode cX4_now 68 = .ok (.invokevirtual 120, 3) := by decide +kernel
theorem dX4_now_71 : decode cX4_now 71 = .ok (.aload_n 0, 1) := by decide +kernel
theorem dX4_now_72 : decode cX4_now 72 = .ok (.getfield 12, 3) := by decide +kernel
theorem dX4_now_75 : decode cX4_now 75 = .ok (.getfield 123, 3) := by decide +kernel
theorem dX4_now_78 : decode cX4_now 78 = .ok (.ireturn, 1) := by decide +kernel
theorem dX4_now_79 : decode cX4_now 79 = .ok (.aload_n 0, 1) := by decide +kernel
theorem dX4_now_80 : decode cX4_now 80 = .ok (.getfield 12, 3) := by decide +kernel
theorem dX4_now_83 : decode cX4_now 83 = .ok (.invokevirtual 120, 3) := by decide +kernel
theorem dX4_now_86 : decode cX4_now 86 = .ok (.aload_n 0, 1) := by decide +kernel
theorem dX4_now_87 : decode cX4_now 87 = .ok (.getfield 12, 3) := by decide +kernel
theorem dX4_now_90 : decode cX4_now 90 = .ok (.getfield 126, 3) := by decide +kernel
theorem dX4_now_93 : decode cX4_now 93 = .ok (.ireturn, 1) := by decide +kernel
theorem dX4_now_94 : decode cX4_now 94 = .ok (.aload_n 0, 1) := by decide +kernel
theorem dX4_now_95 : decode cX4_now 95 = .ok (.getfield 12, 3) := by decide +kernel
theorem dX4_now_98 : decode cX4_now 98 = .ok (.iconst (-1), 1) := by decide +kernel
theorem dX4_now_99 : decode cX4_now 99 = .ok (.invokevirtual 129, 3) := by decide +kernel
theorem dX4_now_102 : decode cX4_now 102 = .ok (.ireturn, 1) := by decide +kernel
theorem dX4_now_103 : decode cX4_now 103 = .ok (.aload_n 0, 1) := by decide +kernel
theorem dX4_now_104 : decode cX4_now 104 = .ok (.getfield 12, 3) := by decide +kernel
theorem dX4_now_107 : decode cX4_now 107 = .ok (.getfield 132, 3) := by decide +kernel
theorem dX4_now_110 : decode cX4_now 110 = .ok (.ireturn, 1) := by decide +kernel
theorem dX4_now_111 : decode cX4_now 111 = .ok (.aload_n 0, 1) := by decide +kernel
theorem dX4_now_112 : decode cX4_now 112 = .ok (.getfield 12, 3) := by decide +kernel
theorem dX4_now_115 : decode cX4_now 115 = .ok (.invokevirtual 135, 3) := by decide +kernel
theorem dX4_now_118 : decode cX4_now 118 = .ok (.ireturn, 1) := by decide +kernel
theorem dX4_now_119 : decode cX4_now 119 = .ok (.aload_n 0, 1) := by decide +kernel
theorem dX4_now_120 : decode cX4_now 120 = .ok (.getfield 12, 3) := by decide +kernel
theorem dX4_now_123 : decode cX4_now 123 = .ok (.invokevirtual 139, 3) := by decide +kernel
theorem dX4_now_126 : decode cX4_now 126 = .ok (.ireturn, 1) := by decide +kernel
theorem dX4_now_127 : decode cX4_now 127 = .ok (.aload_n 0, 1) := by decide +kernel
theorem dX4_now_128 : decode cX4_now 128 = .ok (.ldc 57, 2) := by decide +kernel
theorem dX4_now_130 : decode cX4_now 130 = .ok (.invokevirtual 58, 3) := by decide +kernel
theorem dX4_now_133 : decode cX4_now 133 = .ok (.ireturn, 1) := by decide +kernel
theorem dX4_ahead_0 : decode cX4_ahead 0 = .ok (.iload_n 2, 1) := by decide +kernel
theorem dX4_ahead_1 : decode cX4_ahead 1 = .ok (.iconst 2, 1) := by decide +kernel
theorem dX4_ahead_2 : decode cX4_ahead 2 = .ok (.iconst 5, 1) := by decide +kernel
theorem dX4_ahead_3 : decode cX4_ahead 3 = .ok (.invokestatic 66, 3) := by decide +kernel
theorem dX4_ahead_6 : decode cX4_ahead 6 = .ok (.ifCond .ne 9, 3) := by decide +kernel
theorem dX4_ahead_9 : decode cX4_ahead 9 = .ok (.iload_n 2, 1) := by decide +kernel
theorem dX4_ahead_10 : decode cX4_ahead 10 = .ok (.bipush 9, 2) := by decide +kernel
theorem dX4_ahead_12 : decode cX4_ahead 12 = .ok (.if_icmp .ne 7, 3) := by decide +kernel
theorem dX4_ahead_15 : decode cX4_ahead 15 = .ok (.iconst 1, 1) := by decide +kernel
theorem dX4_ahead_16 : decode cX4_ahead 16 = .ok (.goto 4, 3) := by decide +kernel
theorem dX4_ahead_19 : decode cX4_ahead 19 = .ok (.iconst 0, 1) := by decide +kernel
theorem dX4_ahead_20 : decode cX4_ahead 20 = .ok (.istore 4, 2) := by decide +kernel
theorem dX4_ahead_22 : decode cX4_ahead 22 = .ok (.aload_n 0, 1) := by decide +kernel
theorem dX4_ahead_23 : decode cX4_ahead 23 = .ok (.getfield 12, 3) := by decide +kernel
theorem dX4_ahead_26 : decode cX4_ahead 26 = .ok (.iload_n 1, 1) := by decide +kernel
theorem dX4_ahead_27 : decode cX4_ahead 27 = .ok (.invokevirtual 85, 3) := by decide +kernel
theorem dX4_ahead_30 : decode cX4_ahead 30 = .ok (.ifCond .eq 18, 3) := by decide +kernel
theorem dX4_ahead_33 : decode cX4_ahead 33 = .ok (.iload 4, 2) := by decide +kernel
theorem dX4_ahead_35 : decode cX4_ahead 35 = .ok (.ifCond .eq 13, 3) := by decide +kernel
theorem dX4_ahead_38 : decode cX4_ahead 38 = .ok (.iload_n 3, 1) := by decide +kernel
theorem dX4_ahead_39 : decode cX4_ahead 39 = .ok (.iconst 0, 1) := by decide +kernel
theorem dX4_ahead_40 : decode cX4_ahead 40 = .ok (.bipush 100, 2) := by decide +kernel
theorem dX4_ahead_42 : decode cX4_ahead 42 = .ok (.invokestatic 66, 3) := by decide +kernel
theorem dX4_ahead_45 : decode cX4_ahead 45 = .ok (.ifCond .ne 10, 3) := by decide +kernel
theorem dX4_ahead_48 : decode cX4_ahead 48 = .ok (.aload_n 0, 1) := by decide +kernel
theorem dX4_ahead_49 : decode cX4_ahead 49 = .ok (.ldc 57, 2) := by decide +kernel
theorem dX4_ahead_51 : decode cX4_ahead 51 = .ok (.invokevirtual 58, 3) := by decide +kernel
theorem dX4_ahead_54 : decode cX4_ahead 54 = .ok (.ireturn, 1) := by decide +kernel
theorem dX4_ahead_55 : decode cX4_ahead 55 = .ok (.aload_n 0, 1) := by decide +kernel
theorem dX4_ahead_56 : decode cX4_ahead 56 = .ok (.getfield 16, 3) := by decide +kernel
theorem dX4_ahead_59 : decode cX4_ahead 59 = .ok (.aload_n 0, 1) := by decide +kernel
theorem dX4_ahead_60 : decode cX4_ahead 60 = .ok (.getfield 12, 3) := by decide +kernel
theorem dX4_ahead_63 : decode cX4_ahead 63 = .ok (.invokevirtual 142, 3) := by decide +kernel
theorem dX4_ahead_66 : decode cX4_ahead 66 = .ok (.aload_n 0, 1) := by decide +kernel
theorem dX4_ahead_67 : decode cX4_ahead 67 = .ok (.getfield 16, 3) := by decide +kernel
theorem dX4_ahead_70 : decode cX4_ahead 70 = .ok (.iload_n 3, 1) := by decide +kernel
theorem dX4_ahead_71 : decode cX4_ahead 71 = .ok (.invokevirtual 116, 3) := by decide +kernel
theorem dX4_ahead_74 : decode cX4_ahead 74 = .ok (.aload_n 0, 1) := by decide +kernel
theorem dX4_ahead_75 : decode cX4_ahead 75 = .ok (.getfield 16, 3) := by decide +kernel
theorem dX4_ahead_78 : decode cX4_ahead 78 = .ok (.iload_n 1, 1) := by decide +kernel
theorem dX4_ahead_79 : decode cX4_ahead 79 = .ok (.iload_n 2, 1) := by decide +kernel
theorem dX4_ahead_80 : decode cX4_ahead 80 = .ok (.invokevirtual 88, 3) := by decide +kernel
theorem dX4_ahead_83 : decode cX4_ahead 83 = .ok (.ireturn, 1) := by decide +kernel
theorem dX4_where_0 : decode cX4_where 0 = .ok (.iload_n 1, 1) := by decide +kernel
theorem dX4_where_1 : decode cX4_where 1 = .ok (.iconst 0, 1) := by decide +kernel
theorem dX4_where_2 : decode cX4_where 2 = .ok (.bipush 100, 2) := by decide +kernel
theorem dX4_where_4 : decode cX4_where 4 = .ok (.invokestatic 66, 3) := by decide +kernel
theorem dX4_where_7 : decode cX4_where 7 = .ok (.ifCond .ne 10, 3) := by decide +kernel
theorem dX4_where_10 : decode cX4_where 10 = .ok (.aload_n 0, 1) := by decide +kernel
theorem dX4_where_11 : decode cX4_where 11 = .ok (.ldc 57, 2) := by decide +kernel
theorem dX4_where_13 : decode cX4_where 13 = .ok (.invokevirtual 58, 3) := by decide +kernel
theorem dX4_where_16 : decode cX4_where 16 = .ok (.ireturn, 1) := by decide +kernel
theorem dX4_where_17 : decode cX4_where 17 = .ok (.aload_n 0, 1) := by decide +kernel
theorem dX4_where_18 : decode cX4_where 18 = .ok (.getfield 16, 3) := by decide +kernel
theorem dX4_where_21 : decode cX4_where 21 = .ok (.aload_n 0, 1) := by decide +kernel
theorem dX4_where_22 : decode cX4_where 22 = .ok (.getfield 12, 3) := by decide +kernel
theorem dX4_where_25 : decode cX4_where 25 = .ok (.invokevirtual 142, 3) := by decide +kernel
theorem dX4_where_28 : decode cX4_where 28 = .ok (.aload_n 0, 1) := by decide +kernel
theorem dX4_where_29 : decode cX4_where 29 = .ok (.getfield 16, 3) := by decide +kernel
theorem dX4_where_32 : decode cX4_where 32 = .ok (.iload_n 1, 1) := by decide +kernel
theorem dX4_where_33 : decode cX4_where 33 = .ok (.invokevirtual 116, 3) := by decide +kernel
theorem dX4_where_36 : decode cX4_where 36 = .ok (.aload_n 0, 1) := by decide +kernel
theorem dX4_where_37 : decode cX4_where 37 = .ok (.getfield 16, 3) := by decide +kernel
theorem dX4_where_40 : decode cX4_where 40 = .ok (.getfield 62, 3) := by decide +kernel
theorem dX4_where_43 : decode cX4_where 43 = .ok (.ireturn, 1) := by decide +kernel
theorem dX4_when_0 : decode cX4_when 0 = .ok (.iload_n 1, 1) := by decide +kernel
theorem dX4_when_1 : decode cX4_when 1 = .ok (.invokestatic 53, 3) := by decide +kernel
theorem dX4_when_4 : decode cX4_when 4 = .ok (.ifCond .ne 10, 3) := by decide +kernel
theorem dX4_when_7 : decode cX4_when 7 = .ok (.aload_n 0, 1) := by decide +kernel
theorem dX4_when_8 : decode cX4_when 8 = .ok (.ldc 57, 2) := by decide +kernel
theorem dX4_when_10 : decode cX4_when 10 = .ok (.invokevirtual 58, 3) := by decide +kernel
theorem dX4_when_13 : decode cX4_when 13 = .ok (.ireturn, 1) := by decide +kernel
theorem dX4_when_14 : decode cX4_when 14 = .ok (.aload_n 0, 1) := by decide +kernel
theorem dX4_when_15 : decode cX4_when 15 = .ok (.getfield 16, 3) := by decide +kernel
theorem dX4_when_18 : decode cX4_when 18 = .ok (.aload_n 0, 1) := by decide +kernel
theorem dX4_when_19 : decode cX4_when 19 = .ok (.getfield 12, 3) := by decide +kernel
theorem dX4_when_22 : decode cX4_when 22 = .ok (.invokevirtual 142, 3) := by decide +kernel
theorem dX4_when_25 : decode cX4_when 25 = .ok (.iconst 0, 1) := by decide +kernel
theorem dX4_when_26 : decode cX4_when 26 = .ok (.istore_n 2, 1) := by decide +kernel
theorem dX4_when_27 : decode cX4_when 27 = .ok (.iload_n 2, 1) := by decide +kernel
theorem dX4_when_28 : decode cX4_when 28 = .ok (.sipush 200, 3) := by decide +kernel
theorem dX4_when_31 : decode cX4_when 31 = .ok (.if_icmp .gt 29, 3) := by decide +kernel
theorem dX4_when_34 : decode cX4_when 34 = .ok (.aload_n 0, 1) := by decide +kernel
theorem dX4_when_35 : decode cX4_when 35 = .ok (.getfield 16, 3) := by decide +kernel
theorem dX4_when_38 : decode cX4_when 38 = .ok (.getfield 62, 3) := by decide +kernel
theorem dX4_when_41 : decode cX4_when 41 = .ok (.iload_n 1, 1) := by decide +kernel
theorem dX4_when_42 : decode cX4_when 42 = .ok (.if_icmp .ne 5, 3) := by decide +kernel
theorem dX4_when_45 : decode cX4_when 45 = .ok (.iload_n 2, 1) := by decide +kernel
theorem dX4_when_46 : decode cX4_when 46 = .ok (.ireturn, 1) := by decide +kernel
theorem dX4_when_47 : decode cX4_when 47 = .ok (.aload_n 0, 1) := by decide +kernel
theorem dX4_when_48 : decode cX4_when 48 = .ok (.getfield 16, 3) := by decide +kernel
theorem dX4_when_51 : decode cX4_when 51 = .ok (.invokevirtual 146, 3) := by decide +kernel
theorem dX4_when_54 : decode cX4_when 54 = .ok (.iinc 2 1, 3) := by decide +kernel
theorem dX4_when_57 : decode cX4_when 57 = .ok (.goto (-30), 3) := by decide +kernel
theorem dX4_when_60 : decode cX4_when 60 = .ok (.aload_n 0, 1) := by decide +kernel
theorem dX4_when_61 : decode cX4_when 61 = .ok (.ldc 149, 2) := by decide +kernel
theorem dX4_when_63 : decode cX4_when 63 = .ok (.invokevirtual 58, 3) := by decide +kernel
theorem dX4_when_66 : decode cX4_when 66 = .ok (.ireturn, 1) := by decide +kernel
theorem dX4_comes_0 : decode cX4_comes 0 = .ok (.aload_n 0, 1) := by decide +kernel
theorem dX4_comes_1 : decode cX4_comes 1 = .ok (.getfield 12, 3) := by decide +kernel
theorem dX4_comes_4 : decode cX4_comes 4 = .ok (.iload_n 1, 1) := by decide +kernel
theorem dX4_comes_5 : decode cX4_comes 5 = .ok (.invokevirtual 85, 3) := by decide +kernel
theorem dX4_comes_8 : decode cX4_comes 8 = .ok (.ifCond .ne 10, 3) := by decide +kernel
theorem dX4_comes_11 : decode cX4_comes 11 = .ok (.aload_n 0, 1) := by decide +kernel
theorem dX4_comes_12 : decode cX4_comes 12 = .ok (.ldc 57, 2) := by decide +kernel
theorem dX4_comes_14 : decode cX4_comes 14 = .ok (.invokevirtual 58, 3) := by decide +kernel
theorem dX4_comes_17 : decode cX4_comes 17 = .ok (.ireturn, 1) := by decide +kernel
theorem dX4_comes_18 : decode cX4_comes 18 = .ok (.aload_n 0, 1) := by decide +kernel
theorem dX4_comes_19 : decode cX4_comes 19 = .ok (.getfield 16, 3) := by decide +kernel
theorem dX4_comes_22 : decode cX4_comes 22 = .ok (.aload_n 0, 1) := by decide +kernel
theorem dX4_comes_23 : decode cX4_comes 23 = .ok (.getfield 12, 3) := by decide +kernel
theorem dX4_comes_26 : decode cX4_comes 26 = .ok (.invokevirtual 142, 3) := by decide +kernel
theorem dX4_comes_29 : decode cX4_comes 29 = .ok (.iconst 1, 1) := by decide +kernel
theorem dX4_comes_30 : decode cX4_comes 30 = .ok (.istore_n 2, 1) := by decide +kernel
theorem dX4_comes_31 : decode cX4_comes 31 = .ok (.iload_n 2, 1) := by decide +kernel
theorem dX4_comes_32 : decode cX4_comes 32 = .ok (.sipush 200, 3) := by decide +kernel
theorem dX4_comes_35 : decode cX4_comes 35 = .ok (.if_icmp .gt 39, 3) := by decide +kernel
theorem dX4_comes_38 : decode cX4_comes 38 = .ok (.aload_n 0, 1) := by decide +kernel
theorem dX4_comes_39 : decode cX4_comes 39 = .ok (.getfield 16, 3) := by decide +kernel
theorem dX4_comes_42 : decode cX4_comes 42 = .ok (.invokevirtual 146, 3) := by decide +kernel
theorem dX4_comes_45 : decode cX4_comes 45 = .ok (.aload_n 0, 1) := by decide +kernel
theorem dX4_comes_46 : decode cX4_comes 46 = .ok (.getfield 16, 3) := by decide +kernel
theorem dX4_comes_49 : decode cX4_comes 49 = .ok (.iload_n 1, 1) := by decide +kernel
theorem dX4_comes_50 : decode cX4_comes 50 = .ok (.iconst 5, 1) := by decide +kernel
theorem dX4_comes_51 : decode cX4_comes 51 = .ok (.invokevirtual 95, 3) := by decide +kernel
theorem dX4_comes_54 : decode cX4_comes 54 = .ok (.aload_n 0, 1) := by decide +kernel
theorem dX4_comes_55 : decode cX4_comes 55 = .ok (.getfield 12, 3) := by decide +kernel
theorem dX4_comes_58 : decode cX4_comes 58 = .ok (.iload_n 1, 1) := by decide +kernel
theorem dX4_comes_59 : decode cX4_comes 59 = .ok (.iconst 5, 1) := by decide +kernel
theorem dX4_comes_60 : decode cX4_comes 60 = .ok (.invokevirtual 95, 3) := by decide +kernel
theorem dX4_comes_63 : decode cX4_comes 63 = .ok (.if_icmp .le 5, 3) := by decide +kernel
theorem dX4_comes_66 : decode cX4_comes 66 = .ok (.iload_n 2, 1) := by decide +kernel
theorem dX4_comes_67 : decode cX4_comes 67 = .ok (.ireturn, 1) := by decide +kernel
theorem dX4_comes_68 : decode cX4_comes 68 = .ok (.iinc 2 1, 3) := by decide +kernel
theorem dX4_comes_71 : decode cX4_comes 71 = .ok (.goto (-40), 3) := by decide +kernel
theorem dX4_comes_74 : decode cX4_comes 74 = .ok (.aload_n 0, 1) := by decide +kernel
theorem dX4_comes_75 : decode cX4_comes 75 = .ok (.ldc 149, 2) := by decide +kernel
theorem dX4_comes_77 : decode cX4_comes 77 = .ok (.invokevirtual 58, 3) := by decide +kernel
theorem dX4_comes_80 : decode cX4_comes 80 = .ok (.ireturn, 1) := by decide +kernel
theorem dX4_off_0 : decode cX4_off 0 = .ok (.aload_n 0, 1) := by decide +kernel
theorem dX4_off_1 : decode cX4_off 1 = .ok (.getfield 16, 3) := by decide +kernel
theorem dX4_off_4 : decode cX4_off 4 = .ok (.aload_n 0, 1) := by decide +kernel
theorem dX4_off_5 : decode cX4_off 5 = .ok (.getfield 12, 3) := by decide +kernel
theorem dX4_off_8 : decode cX4_off 8 = .ok (.invokevirtual 142, 3) := by decide +kernel
theorem dX4_off_11 : decode cX4_off 11 = .ok (.iconst 1, 1) := by decide +kernel
theorem dX4_off_12 : decode cX4_off 12 = .ok (.istore_n 1, 1) := by decide +kernel
theorem dX4_off_13 : decode cX4_off 13 = .ok (.iload_n 1, 1) := by decide +kernel
theorem dX4_off_14 : decode cX4_off 14 = .ok (.sipush 200, 3) := by decide +kernel
theorem dX4_off_17 : decode cX4_off 17 = .ok (.if_icmp .gt 35, 3) := by decide +kernel
theorem dX4_off_20 : decode cX4_off 20 = .ok (.aload_n 0, 1) := by decide +kernel
theorem dX4_off_21 : decode cX4_off 21 = .ok (.getfield 16, 3) := by decide +kernel
theorem dX4_off_24 : decode cX4_off 24 = .ok (.invokevirtual 146, 3) := by decide +kernel
theorem dX4_off_27 : decode cX4_off 27 = .ok (.aload_n 0, 1) := by decide +kernel
theorem dX4_off_28 : decode cX4_off 28 = .ok (.getfield 16, 3) := by decide +kernel
theorem dX4_off_31 : decode cX4_off 31 = .ok (.getfield 132, 3) := by decide +kernel
theorem dX4_off_34 : decode cX4_off 34 = .ok (.aload_n 0, 1) := by decide +kernel
theorem dX4_off_35 : decode cX4_off 35 = .ok (.getfield 12, 3) := by decide +kernel
theorem dX4_off_38 : decode cX4_off 38 = .ok (.getfield 132, 3) := by decide +kernel
theorem dX4_off_41 : decode cX4_off 41 = .ok (.if_icmp .le 5, 3) := by decide +kernel
theorem dX4_off_44 : decode cX4_off 44 = .ok (.iload_n 1, 1) := by decide +kernel
theorem dX4_off_45 : decode cX4_off 45 = .ok (.ireturn, 1) := by decide +kernel
theorem dX4_off_46 : decode cX4_off 46 = .ok (.iinc 1 1, 3) := by decide +kernel
theorem dX4_off_49 : decode cX4_off 49 = .ok (.goto (-36), 3) := by decide +kernel
theorem dX4_off_52 : decode cX4_off 52 = .ok (.aload_n 0, 1) := by decide +kernel
theorem dX4_off_53 : decode cX4_off 53 = .ok (.ldc 149, 2) := by decide +kernel
theorem dX4_off_55 : decode cX4_off 55 = .ok (.invokevirtual 58, 3) := by decide +kernel
theorem dX4_off_58 : decode cX4_off 58 = .ok (.ireturn, 1) := by decide +kernel
theorem dX4_unwind_0 : decode cX4_unwind 0 = .ok (.iload_n 1, 1) := by decide +kernel
theorem dX4_unwind_1 : decode cX4_unwind 1 = .ok (.iconst 1, 1) := by decide +kernel
theorem dX4_unwind_2 : decode cX4_unwind 2 = .ok (.aload_n 0, 1) := by decide +kernel
theorem dX4_unwind_3 : decode cX4_unwind 3 = .ok (.getfield 12, 3) := by decide +kernel
theorem dX4_unwind_6 : decode cX4_unwind 6 = .ok (.getfield 102, 3) := by decide +kernel
theorem dX4_unwind_9 : decode cX4_unwind 9 = .ok (.ishl, 1) := by decide +kernel
theorem dX4_unwind_10 : decode cX4_unwind 10 = .ok (.ineg, 1) := by decide +kernel
theorem dX4_unwind_11 : decode cX4_unwind 11 = .ok (.iand, 1) := by decide +kernel
theorem dX4_unwind_12 : decode cX4_unwind 12 = .ok (.ifCond .eq 10, 3) := by decide +kernel
theorem dX4_unwind_15 : decode cX4_unwind 15 = .ok (.aload_n 0, 1) := by decide +kernel
theorem dX4_unwind_16 : decode cX4_unwind 16 = .ok (.ldc 57, 2) := by decide +kernel
theorem dX4_unwind_18 : decode cX4_unwind 18 = .ok (.invokevirtual 58, 3) := by decide +kernel
theorem dX4_unwind_21 : decode cX4_unwind 21 = .ok (.ireturn, 1) := by decide +kernel
theorem dX4_unwind_22 : decode cX4_unwind 22 = .ok (.iconst 0, 1) := by decide +kernel
theorem dX4_unwind_23 : decode cX4_unwind 23 = .ok (.istore_n 2, 1) := by decide +kernel
theorem dX4_unwind_24 : decode cX4_unwind 24 = .ok (.iload_n 2, 1) := by decide +kernel
theorem dX4_unwind_25 : decode cX4_unwind 25 = .ok (.aload_n 0, 1) := by decide +kernel
theorem dX4_unwind_26 : decode cX4_unwind 26 = .ok (.getfield 12, 3) := by decide +kernel
theorem dX4_unwind_29 : decode cX4_unwind 29 = .ok (.getfield 102, 3) := by decide +kernel
theorem dX4_unwind_32 : decode cX4_unwind 32 = .ok (.if_icmp .ge 28, 3) := by decide +kernel
theorem dX4_unwind_35 : decode cX4_unwind 35 = .ok (.iload_n 1, 1) := by decide +kernel
theorem dX4_unwind_36 : decode cX4_unwind 36 = .ok (.iload_n 2, 1) := by decide +kernel
theorem dX4_unwind_37 : decode cX4_unwind 37 = .ok (.ishr, 1) := by decide +kernel
theorem dX4_unwind_38 : decode cX4_unwind 38 = .ok (.iconst 1, 1) := by decide +kernel
theorem dX4_unwind_39 : decode cX4_unwind 39 = .ok (.iand, 1) := by decide +kernel
theorem dX4_unwind_40 : decode cX4_unwind 40 = .ok (.ifCond .eq 14, 3) := by decide +kernel
theorem dX4_unwind_43 : decode cX4_unwind 43 = .ok (.aload_n 0, 1) := by decide +kernel
theorem dX4_unwind_44 : decode cX4_unwind 44 = .ok (.getfield 12, 3) := by decide +kernel
theorem dX4_unwind_47 : decode cX4_unwind 47 = .ok (.iload_n 2, 1) := by decide +kernel
theorem dX4_unwind_48 : decode cX4_unwind 48 = .ok (.iconst 1, 1) := by decide +kernel
theorem dX4_unwind_49 : decode cX4_unwind 49 = .ok (.isub, 1) := by decide +kernel
theorem dX4_unwind_50 : decode cX4_unwind 50 = .ok (.invokevirtual 129, 3) := by decide +kernel
theorem dX4_unwind_53 : decode cX4_unwind 53 = .ok (.ireturn, 1) := by decide +kernel
theorem dX4_unwind_54 : decode cX4_unwind 54 = .ok (.iinc 2 1, 3) := by decide +kernel
theorem dX4_unwind_57 : decode cX4_unwind 57 = .ok (.goto (-33), 3) := by decide +kernel
theorem dX4_unwind_60 : decode cX4_unwind 60 = .ok (.iconst 0, 1) := by decide +kernel
theorem dX4_unwind_61 : decode cX4_unwind 61 = .ok (.ireturn, 1) := by decide +kernel
theorem dX4_had_0 : decode cX4_had 0 = .ok (.iload_n 1, 1) := by decide +kernel
theorem dX4_had_1 : decode cX4_had 1 = .ok (.iconst 0, 1) := by decide +kernel
theorem dX4_had_2 : decode cX4_had 2 = .ok (.sipush 999, 3) := by decide +kernel
theorem dX4_had_5 : decode cX4_had 5 = .ok (.invokestatic 66, 3) := by decide +kernel
theorem dX4_had_8 : decode cX4_had 8 = .ok (.ifCond .ne 10, 3) := by decide +kernel
theorem dX4_had_11 : decode cX4_had 11 = .ok (.aload_n 0, 1) := by decide +kernel
theorem dX4_had_12 : decode cX4_had 12 = .ok (.ldc 57, 2) := by decide +kernel
theorem dX4_had_14 : decode cX4_had 14 = .ok (.invokevirtual 58, 3) := by decide +kernel
theorem dX4_had_17 : decode cX4_had 17 = .ok (.ireturn, 1) := by decide +kernel
theorem dX4_had_18 : decode cX4_had 18 = .ok (.iconst 0, 1) := by decide +kernel
theorem dX4_had_19 : decode cX4_had 19 = .ok (.istore_n 2, 1) := by decide +kernel
theorem dX4_had_20 : decode cX4_had 20 = .ok (.aload_n 0, 1) := by decide +kernel
theorem dX4_had_21 : decode cX4_had 21 = .ok (.getfield 12, 3) := by decide +kernel
theorem dX4_had_24 : decode cX4_had 24 = .ok (.getfield 102, 3) := by decide +kernel
theorem dX4_had_27 : decode cX4_had 27 = .ok (.iconst 1, 1) := by decide +kernel
theorem dX4_had_28 : decode cX4_had 28 = .ok (.isub, 1) := by decide +kernel
theorem dX4_had_29 : decode cX4_had 29 = .ok (.istore_n 3, 1) := by decide +kernel
theorem dX4_had_30 : decode cX4_had 30 = .ok (.iload_n 3, 1) := by decide +kernel
theorem dX4_had_31 : decode cX4_had 31 = .ok (.ifCond .lt 26, 3) := by decide +kernel
theorem dX4_had_34 : decode cX4_had 34 = .ok (.aload_n 0, 1) := by decide +kernel
theorem dX4_had_35 : decode cX4_had 35 = .ok (.getfield 12, 3) := by decide +kernel
theorem dX4_had_38 : decode cX4_had 38 = .ok (.iload_n 3, 1) := by decide +kernel
theorem dX4_had_39 : decode cX4_had 39 = .ok (.iconst 1, 1) := by decide +kernel
theorem dX4_had_40 : decode cX4_had 40 = .ok (.isub, 1) := by decide +kernel
theorem dX4_had_41 : decode cX4_had 41 = .ok (.invokevirtual 129, 3) := by decide +kernel
theorem dX4_had_44 : decode cX4_had 44 = .ok (.iload_n 1, 1) := by decide +kernel
theorem dX4_had_45 : decode cX4_had 45 = .ok (.if_icmp .gt 6, 3) := by decide +kernel
theorem dX4_had_48 : decode cX4_had 48 = .ok (.iinc 2 1, 3) := by decide +kernel
theorem dX4_had_51 : decode cX4_had 51 = .ok (.iinc 3 (-1), 3) := by decide +kernel
theorem dX4_had_54 : decode cX4_had 54 = .ok (.goto (-24), 3) := by decide +kernel
theorem dX4_had_57 : decode cX4_had 57 = .ok (.iload_n 2, 1) := by decide +kernel
theorem dX4_had_58 : decode cX4_had 58 = .ok (.ireturn, 1) := by decide +kernel
theorem dX4_drawTo_0 : decode cX4_drawTo 0 = .ok (.aload_n 0, 1) := by decide +kernel
theorem dX4_drawTo_1 : decode cX4_drawTo 1 = .ok (.getfield 12, 3) := by decide +kernel
theorem dX4_drawTo_4 : decode cX4_drawTo 4 = .ok (.iload_n 1, 1) := by decide +kernel
theorem dX4_drawTo_5 : decode cX4_drawTo 5 = .ok (.invokevirtual 85, 3) := by decide +kernel
theorem dX4_drawTo_8 : decode cX4_drawTo 8 = .ok (.ifCond .eq 20, 3) := by decide +kernel
theorem dX4_drawTo_11 : decode cX4_drawTo 11 = .ok (.iload_n 2, 1) := by decide +kernel
theorem dX4_drawTo_12 : decode cX4_drawTo 12 = .ok (.invokestatic 53, 3) := by decide +kernel
theorem dX4_drawTo_15 : decode cX4_drawTo 15 = .ok (.ifCond .eq 13, 3) := by decide +kernel
theorem dX4_drawTo_18 : decode cX4_drawTo 18 = .ok (.iload_n 3, 1) := by decide +kernel
theorem dX4_drawTo_19 : decode cX4_drawTo 19 = .ok (.iconst 0, 1) := by decide +kernel
theorem dX4_drawTo_20 : decode cX4_drawTo 20 = .ok (.bipush 40, 2) := by decide +kernel
theorem dX4_drawTo_22 : decode cX4_drawTo 22 = .ok (.invokestatic 66, 3) := by decide +kernel
theorem dX4_drawTo_25 : decode cX4_drawTo 25 = .ok (.ifCond .ne 10, 3) := by decide +kernel
theorem dX4_drawTo_28 : decode cX4_drawTo 28 = .ok (.aload_n 0, 1) := by decide +kernel
theorem dX4_drawTo_29 : decode cX4_drawTo 29 = .ok (.ldc 57, 2) := by decide +kernel
theorem dX4_drawTo_31 : decode cX4_drawTo 31 = .ok (.invokevirtual 58, 3) := by decide +kernel
theorem dX4_drawTo_34 : decode cX4_drawTo 34 = .ok (.ireturn, 1) := by decide +kernel
theorem dX4_drawTo_35 : decode cX4_drawTo 35 = .ok (.iconst 0, 1) := by decide +kernel
theorem dX4_drawTo_36 : decode cX4_drawTo 36 = .ok (.istore 4, 2) := by decide +kernel
theorem dX4_drawTo_38 : decode cX4_drawTo 38 = .ok (.bipush 12, 2) := by decide +kernel
theorem dX4_drawTo_40 : decode cX4_drawTo 40 = .ok (.istore 5, 2) := by decide +kernel
theorem dX4_drawTo_42 : decode cX4_drawTo 42 = .ok (.iconst 0, 1) := by decide +kernel
theorem dX4_drawTo_43 : decode cX4_drawTo 43 = .ok (.istore 6, 2) := by decide +kernel
theorem dX4_drawTo_45 : decode cX4_drawTo 45 = .ok (.iload 6, 2) := by decide +kernel
theorem dX4_drawTo_47 : decode cX4_drawTo 47 = .ok (.bipush 12, 2) := by decide +kernel
theorem dX4_drawTo_49 : decode cX4_drawTo 49 = .ok (.if_icmp .ge 54, 3) := by decide +kernel
theorem dX4_drawTo_52 : decode cX4_drawTo 52 = .ok (.aload_n 0, 1) := by decide +kernel
theorem dX4_drawTo_53 : decode cX4_drawTo 53 = .ok (.iload_n 1, 1) := by decide +kernel
theorem dX4_drawTo_54 : decode cX4_drawTo 54 = .ok (.iconst 1, 1) := by decide +kernel
theorem dX4_drawTo_55 : decode cX4_drawTo 55 = .ok (.iload 6, 2) := by decide +kernel
theorem dX4_drawTo_57 : decode cX4_drawTo 57 = .ok (.invokevirtual 150, 3) := by decide +kernel
theorem dX4_drawTo_60 : decode cX4_drawTo 60 = .ok (.aload_n 0, 1) := by decide +kernel
theorem dX4_drawTo_61 : decode cX4_drawTo 61 = .ok (.getfield 16, 3) := by decide +kernel
theorem dX4_drawTo_64 : decode cX4_drawTo 64 = .ok (.iload_n 3, 1) := by decide +kernel
theorem dX4_drawTo_65 : decode cX4_drawTo 65 = .ok (.invokevirtual 116, 3) := by decide +kernel
theorem dX4_drawTo_68 : decode cX4_drawTo 68 = .ok (.aload_n 0, 1) := by decide +kernel
theorem dX4_drawTo_69 : decode cX4_drawTo 69 = .ok (.getfield 16, 3) := by decide +kernel
theorem dX4_drawTo_72 : decode cX4_drawTo 72 = .ok (.getfield 62, 3) := by decide +kernel
theorem dX4_drawTo_75 : decode cX4_drawTo 75 = .ok (.iload_n 2, 1) := by decide +kernel
theorem dX4_drawTo_76 : decode cX4_drawTo 76 = .ok (.isub, 1) := by decide +kernel
theorem dX4_drawTo_77 : decode cX4_drawTo 77 = .ok (.invokestatic 153, 3) := by decide +kernel
theorem dX4_drawTo_80 : decode cX4_drawTo 80 = .ok (.istore 7, 2) := by decide +kernel
theorem dX4_drawTo_82 : decode cX4_drawTo 82 = .ok (.iload 7, 2) := by decide +kernel
theorem dX4_drawTo_84 : decode cX4_drawTo 84 = .ok (.iload 5, 2) := by decide +kernel
theorem dX4_drawTo_86 : decode cX4_drawTo 86 = .ok (.if_icmp .ge 11, 3) := by decide +kernel
theorem dX4_drawTo_89 : decode cX4_drawTo 89 = .ok (.iload 6, 2) := by decide +kernel
theorem dX4_drawTo_91 : decode cX4_drawTo 91 = .ok (.istore 4, 2) := by decide +kernel
theorem dX4_drawTo_93 : decode cX4_drawTo 93 = .ok (.iload 7, 2) := by decide +kernel
theorem dX4_drawTo_95 : decode cX4_drawTo 95 = .ok (.istore 5, 2) := by decide +kernel
theorem dX4_drawTo_97 : decode cX4_drawTo 97 = .ok (.iinc 6 1, 3) := by decide +kernel
theorem dX4_drawTo_100 : decode cX4_drawTo 100 = .ok (.goto (-55), 3) := by decide +kernel
theorem dX4_drawTo_103 : decode cX4_drawTo 103 = .ok (.iload 4, 2) := by decide +kernel
theorem dX4_drawTo_105 : decode cX4_drawTo 105 = .ok (.ireturn, 1) := by decide +kernel
theorem dX4_longFor_0 : decode cX4_longFor 0 = .ok (.aload_n 0, 1) := by decide +kernel
theorem dX4_longFor_1 : decode cX4_longFor 1 = .ok (.getfield 12, 3) := by decide +kernel
theorem dX4_longFor_4 : decode cX4_longFor 4 = .ok (.iload_n 1, 1) := by decide +kernel
theorem dX4_longFor_5 : decode cX4_longFor 5 = .ok (.invokevirtual 85, 3) := by decide +kernel
theorem dX4_longFor_8 : decode cX4_longFor 8 = .ok (.ifCond .eq 20, 3) := by decide +kernel
theorem dX4_longFor_11 : decode cX4_longFor 11 = .ok (.iload_n 2, 1) := by decide +kernel
theorem dX4_longFor_12 : decode cX4_longFor 12 = .ok (.invokestatic 53, 3) := by decide +kernel
theorem dX4_longFor_15 : decode cX4_longFor 15 = .ok (.ifCond .eq 13, 3) := by decide +kernel
theorem dX4_longFor_18 : decode cX4_longFor 18 = .ok (.iload_n 3, 1) := by decide +kernel
theorem dX4_longFor_19 : decode cX4_longFor 19 = .ok (.iconst 0, 1) := by decide +kernel
theorem dX4_longFor_20 : decode cX4_longFor 20 = .ok (.bipush 40, 2) := by decide +kernel
theorem dX4_longFor_22 : decode cX4_longFor 22 = .ok (.invokestatic 66, 3) := by decide +kernel
theorem dX4_longFor_25 : decode cX4_longFor 25 = .ok (.ifCond .ne 10, 3) := by decide +kernel
theorem dX4_longFor_28 : decode cX4_longFor 28 = .ok (.aload_n 0, 1) := by decide +kernel
theorem dX4_longFor_29 : decode cX4_longFor 29 = .ok (.ldc 57, 2) := by decide +kernel
theorem dX4_longFor_31 : decode cX4_longFor 31 = .ok (.invokevirtual 58, 3) := by decide +kernel
theorem dX4_longFor_34 : decode cX4_longFor 34 = .ok (.ireturn, 1) := by decide +kernel
theorem dX4_longFor_35 : decode cX4_longFor 35 = .ok (.iconst 1, 1) := by decide +kernel
theorem dX4_longFor_36 : decode cX4_longFor 36 = .ok (.istore 4, 2) := by decide +kernel
theorem dX4_longFor_38 : decode cX4_longFor 38 = .ok (.iload 4, 2) := by decide +kernel
theorem dX4_longFor_40 : decode cX4_longFor 40 = .ok (.bipush 99, 2) := by decide +kernel
theorem dX4_longFor_42 : decode cX4_longFor 42 = .ok (.if_icmp .gt 39, 3) := by decide +kernel
theorem dX4_longFor_45 : decode cX4_longFor 45 = .ok (.aload_n 0, 1) := by decide +kernel
theorem dX4_longFor_46 : decode cX4_longFor 46 = .ok (.iload_n 1, 1) := by decide +kernel
theorem dX4_longFor_47 : decode cX4_longFor 47 = .ok (.iconst 2, 1) := by decide +kernel
theorem dX4_longFor_48 : decode cX4_longFor 48 = .ok (.iload 4, 2) := by decide +kernel
theorem dX4_longFor_50 : decode cX4_longFor 50 = .ok (.invokevirtual 150, 3) := by decide +kernel
theorem dX4_longFor_53 : decode cX4_longFor 53 = .ok (.aload_n 0, 1) := by decide +kernel
theorem dX4_longFor_54 : decode cX4_longFor 54 = .ok (.getfield 16, 3) := by decide +kernel
theorem dX4_longFor_57 : decode cX4_longFor 57 = .ok (.iload_n 3, 1) := by decide +kernel
theorem dX4_longFor_58 : decode cX4_longFor 58 = .ok (.invokevirtual 116, 3) := by decide +kernel
theorem dX4_longFor_61 : decode cX4_longFor 61 = .ok (.aload_n 0, 1) := by decide +kernel
theorem dX4_longFor_62 : decode cX4_longFor 62 = .ok (.getfield 16, 3) := by decide +kernel
theorem dX4_longFor_65 : decode cX4_longFor 65 = .ok (.getfield 62, 3) := by decide +kernel
theorem dX4_longFor_68 : decode cX4_longFor 68 = .ok (.iload_n 2, 1) := by decide +kernel
theorem dX4_longFor_69 : decode cX4_longFor 69 = .ok (.if_icmp .ne 6, 3) := by decide +kernel
theorem dX4_longFor_72 : decode cX4_longFor 72 = .ok (.iload 4, 2) := by decide +kernel
theorem dX4_longFor_74 : decode cX4_longFor 74 = .ok (.ireturn, 1) := by decide +kernel
theorem dX4_longFor_75 : decode cX4_longFor 75 = .ok (.iinc 4 1, 3) := by decide +kernel
theorem dX4_longFor_78 : decode cX4_longFor 78 = .ok (.goto (-40), 3) := by decide +kernel
theorem dX4_longFor_81 : decode cX4_longFor 81 = .ok (.aload_n 0, 1) := by decide +kernel
theorem dX4_longFor_82 : decode cX4_longFor 82 = .ok (.ldc 149, 2) := by decide +kernel
theorem dX4_longFor_84 : decode cX4_longFor 84 = .ok (.invokevirtual 58, 3) := by decide +kernel
theorem dX4_longFor_87 : decode cX4_longFor 87 = .ok (.ireturn, 1) := by decide +kernel
theorem dX4_kindFor_0 : decode cX4_kindFor 0 = .ok (.aload_n 0, 1) := by decide +kernel
theorem dX4_kindFor_1 : decode cX4_kindFor 1 = .ok (.getfield 12, 3) := by decide +kernel
theorem dX4_kindFor_4 : decode cX4_kindFor 4 = .ok (.iload_n 1, 1) := by decide +kernel
theorem dX4_kindFor_5 : decode cX4_kindFor 5 = .ok (.invokevirtual 85, 3) := by decide +kernel
theorem dX4_kindFor_8 : decode cX4_kindFor 8 = .ok (.ifCond .eq 13, 3) := by decide +kernel
theorem dX4_kindFor_11 : decode cX4_kindFor 11 = .ok (.iload_n 2, 1) := by decide +kernel
theorem dX4_kindFor_12 : decode cX4_kindFor 12 = .ok (.iconst 0, 1) := by decide +kernel
theorem dX4_kindFor_13 : decode cX4_kindFor 13 = .ok (.bipush 40, 2) := by decide +kernel
theorem dX4_kindFor_15 : decode cX4_kindFor 15 = .ok (.invokestatic 66, 3) := by decide +kernel
theorem dX4_kindFor_18 : decode cX4_kindFor 18 = .ok (.ifCond .ne 10, 3) := by decide +kernel
theorem dX4_kindFor_21 : decode cX4_kindFor 21 = .ok (.aload_n 0, 1) := by decide +kernel
theorem dX4_kindFor_22 : decode cX4_kindFor 22 = .ok (.ldc 57, 2) := by decide +kernel
theorem dX4_kindFor_24 : decode cX4_kindFor 24 = .ok (.invokevirtual 58, 3) := by decide +kernel
theorem dX4_kindFor_27 : decode cX4_kindFor 27 = .ok (.ireturn, 1) := by decide +kernel
theorem dX4_kindFor_28 : decode cX4_kindFor 28 = .ok (.iconst 0, 1) := by decide +kernel
theorem dX4_kindFor_29 : decode cX4_kindFor 29 = .ok (.istore_n 3, 1) := by decide +kernel
theorem dX4_kindFor_30 : decode cX4_kindFor 30 = .ok (.iconst (-1), 1) := by decide +kernel
theorem dX4_kindFor_31 : decode cX4_kindFor 31 = .ok (.istore 4, 2) := by decide +kernel
theorem dX4_kindFor_33 : decode cX4_kindFor 33 = .ok (.iconst 0, 1) := by decide +kernel
theorem dX4_kindFor_34 : decode cX4_kindFor 34 = .ok (.istore 5, 2) := by decide +kernel
theorem dX4_kindFor_36 : decode cX4_kindFor 36 = .ok (.iload 5, 2) := by decide +kernel
theorem dX4_kindFor_38 : decode cX4_kindFor 38 = .ok (.bipush 7, 2) := by decide +kernel
theorem dX4_kindFor_40 : decode cX4_kindFor 40 = .ok (.if_icmp .ge 50, 3) := by decide +kernel
theorem dX4_kindFor_43 : decode cX4_kindFor 43 = .ok (.aload_n 0, 1) := by decide +kernel
theorem dX4_kindFor_44 : decode cX4_kindFor 44 = .ok (.iload_n 1, 1) := by decide +kernel
theorem dX4_kindFor_45 : decode cX4_kindFor 45 = .ok (.iconst 0, 1) := by decide +kernel
theorem dX4_kindFor_46 : decode cX4_kindFor 46 = .ok (.iload 5, 2) := by decide +kernel
theorem dX4_kindFor_48 : decode cX4_kindFor 48 = .ok (.invokevirtual 150, 3) := by decide +kernel
theorem dX4_kindFor_51 : decode cX4_kindFor 51 = .ok (.aload_n 0, 1) := by decide +kernel
theorem dX4_kindFor_52 : decode cX4_kindFor 52 = .ok (.getfield 16, 3) := by decide +kernel
theorem dX4_kindFor_55 : decode cX4_kindFor 55 = .ok (.iload_n 2, 1) := by decide +kernel
theorem dX4_kindFor_56 : decode cX4_kindFor 56 = .ok (.invokevirtual 116, 3) := by decide +kernel
theorem dX4_kindFor_59 : decode cX4_kindFor 59 = .ok (.aload_n 0, 1) := by decide +kernel
theorem dX4_kindFor_60 : decode cX4_kindFor 60 = .ok (.getfield 16, 3) := by decide +kernel
theorem dX4_kindFor_63 : decode cX4_kindFor 63 = .ok (.iload_n 1, 1) := by decide +kernel
theorem dX4_kindFor_64 : decode cX4_kindFor 64 = .ok (.iconst 5, 1) := by decide +kernel
theorem dX4_kindFor_65 : decode cX4_kindFor 65 = .ok (.invokevirtual 95, 3) := by decide +kernel
theorem dX4_kindFor_68 : decode cX4_kindFor 68 = .ok (.istore 6, 2) := by decide +kernel
theorem dX4_kindFor_70 : decode cX4_kindFor 70 = .ok (.iload 6, 2) := by decide +kernel
theorem dX4_kindFor_72 : decode cX4_kindFor 72 = .ok (.iload 4, 2) := by decide +kernel
theorem dX4_kindFor_74 : decode cX4_kindFor 74 = .ok (.if_icmp .le 10, 3) := by decide +kernel
theorem dX4_kindFor_77 : decode cX4_kindFor 77 = .ok (.iload 5, 2) := by decide +kernel
theorem dX4_kindFor_79 : decode cX4_kindFor 79 = .ok (.istore_n 3, 1) := by decide +kernel
theorem dX4_kindFor_80 : decode cX4_kindFor 80 = .ok (.iload 6, 2) := by decide +kernel
theorem dX4_kindFor_82 : decode cX4_kindFor 82 = .ok (.istore 4, 2) := by decide +kernel
theorem dX4_kindFor_84 : decode cX4_kindFor 84 = .ok (.iinc 5 1, 3) := by decide +kernel
theorem dX4_kindFor_87 : decode cX4_kindFor 87 = .ok (.goto (-51), 3) := by decide +kernel
theorem dX4_kindFor_90 : decode cX4_kindFor 90 = .ok (.iload_n 3, 1) := by decide +kernel
theorem dX4_kindFor_91 : decode cX4_kindFor 91 = .ok (.ireturn, 1) := by decide +kernel
theorem dX4_dragFor_0 : decode cX4_dragFor 0 = .ok (.iload_n 1, 1) := by decide +kernel
theorem dX4_dragFor_1 : decode cX4_dragFor 1 = .ok (.invokestatic 53, 3) := by decide +kernel
theorem dX4_dragFor_4 : decode cX4_dragFor 4 = .ok (.ifCond .eq 13, 3) := by decide +kernel
theorem dX4_dragFor_7 : decode cX4_dragFor 7 = .ok (.iload_n 2, 1) := by decide +kernel
theorem dX4_dragFor_8 : decode cX4_dragFor 8 = .ok (.iconst 0, 1) := by decide +kernel
theorem dX4_dragFor_9 : decode cX4_dragFor 9 = .ok (.bipush 40, 2) := by decide +kernel
theorem dX4_dragFor_11 : decode cX4_dragFor 11 = .ok (.invokestatic 66, 3) := by decide +kernel
theorem dX4_dragFor_14 : decode cX4_dragFor 14 = .ok (.ifCond .ne 10, 3) := by decide +kernel
theorem dX4_dragFor_17 : decode cX4_dragFor 17 = .ok (.aload_n 0, 1) := by decide +kernel
theorem dX4_dragFor_18 : decode cX4_dragFor 18 = .ok (.ldc 57, 2) := by decide +kernel
theorem dX4_dragFor_20 : decode cX4_dragFor 20 = .ok (.invokevirtual 58, 3) := by decide +kernel
theorem dX4_dragFor_23 : decode cX4_dragFor 23 = .ok (.ireturn, 1) := by decide +kernel
theorem dX4_dragFor_24 : decode cX4_dragFor 24 = .ok (.bipush 99, 2) := by decide +kernel
theorem dX4_dragFor_26 : decode cX4_dragFor 26 = .ok (.istore_n 3, 1) := by decide +kernel
theorem dX4_dragFor_27 : decode cX4_dragFor 27 = .ok (.iload_n 3, 1) := by decide +kernel
theorem dX4_dragFor_28 : decode cX4_dragFor 28 = .ok (.ifCond .lt 49, 3) := by decide +kernel
theorem dX4_dragFor_31 : decode cX4_dragFor 31 = .ok (.aload_n 0, 1) := by decide +kernel
theorem dX4_dragFor_32 : decode cX4_dragFor 32 = .ok (.getfield 16, 3) := by decide +kernel
theorem dX4_dragFor_35 : decode cX4_dragFor 35 = .ok (.aload_n 0, 1) := by decide +kernel
theorem dX4_dragFor_36 : decode cX4_dragFor 36 = .ok (.getfield 12, 3) := by decide +kernel
theorem dX4_dragFor_39 : decode cX4_dragFor 39 = .ok (.invokevirtual 142, 3) := by decide +kernel
theorem dX4_dragFor_42 : decode cX4_dragFor 42 = .ok (.aload_n 0, 1) := by decide +kernel
theorem dX4_dragFor_43 : decode cX4_dragFor 43 = .ok (.getfield 16, 3) := by decide +kernel
theorem dX4_dragFor_46 : decode cX4_dragFor 46 = .ok (.iload_n 3, 1) := by decide +kernel
theorem dX4_dragFor_47 : decode cX4_dragFor 47 = .ok (.putfield 70, 3) := by decide +kernel
theorem dX4_dragFor_50 : decode cX4_dragFor 50 = .ok (.aload_n 0, 1) := by decide +kernel
theorem dX4_dragFor_51 : decode cX4_dragFor 51 = .ok (.getfield 16, 3) := by decide +kernel
theorem dX4_dragFor_54 : decode cX4_dragFor 54 = .ok (.iload_n 2, 1) := by decide +kernel
theorem dX4_dragFor_55 : decode cX4_dragFor 55 = .ok (.invokevirtual 116, 3) := by decide +kernel
theorem dX4_dragFor_58 : decode cX4_dragFor 58 = .ok (.aload_n 0, 1) := by decide +kernel
theorem dX4_dragFor_59 : decode cX4_dragFor 59 = .ok (.getfield 16, 3) := by decide +kernel
theorem dX4_dragFor_62 : decode cX4_dragFor 62 = .ok (.getfield 62, 3) := by decide +kernel
theorem dX4_dragFor_65 : decode cX4_dragFor 65 = .ok (.iload_n 1, 1) := by decide +kernel
theorem dX4_dragFor_66 : decode cX4_dragFor 66 = .ok (.if_icmp .ne 5, 3) := by decide +kernel
theorem dX4_dragFor_69 : decode cX4_dragFor 69 = .ok (.iload_n 3, 1) := by decide +kernel
theorem dX4_dragFor_70 : decode cX4_dragFor 70 = .ok (.ireturn, 1) := by decide +kernel
theorem dX4_dragFor_71 : decode cX4_dragFor 71 = .ok (.iinc 3 (-1), 3) := by decide +kernel
theorem dX4_dragFor_74 : decode cX4_dragFor 74 = .ok (.goto (-47), 3) := by decide +kernel
theorem dX4_dragFor_77 : decode cX4_dragFor 77 = .ok (.aload_n 0, 1) := by decide +kernel
theorem dX4_dragFor_78 : decode cX4_dragFor 78 = .ok (.ldc 149, 2) := by decide +kernel
theorem dX4_dragFor_80 : decode cX4_dragFor 80 = .ok (.invokevirtual 58, 3) := by decide +kernel
theorem dX4_dragFor_83 : decode cX4_dragFor 83 = .ok (.ireturn, 1) := by decide +kernel
theorem dX4_loosen_0 : decode cX4_loosen 0 = .ok (.iload_n 1, 1) := by decide +kernel
theorem dX4_loosen_1 : decode cX4_loosen 1 = .ok (.invokestatic 53, 3) := by decide +kernel
theorem dX4_loosen_4 : decode cX4_loosen 4 = .ok (.ifCond .eq 13, 3) := by decide +kernel
theorem dX4_loosen_7 : decode cX4_loosen 7 = .ok (.iload_n 2, 1) := by decide +kernel
theorem dX4_loosen_8 : decode cX4_loosen 8 = .ok (.iconst 0, 1) := by decide +kernel
theorem dX4_loosen_9 : decode cX4_loosen 9 = .ok (.bipush 20, 2) := by decide +kernel
theorem dX4_loosen_11 : decode cX4_loosen 11 = .ok (.invokestatic 66, 3) := by decide +kernel
theorem dX4_loosen_14 : decode cX4_loosen 14 = .ok (.ifCond .ne 10, 3) := by decide +kernel
theorem dX4_loosen_17 : decode cX4_loosen 17 = .ok (.aload_n 0, 1) := by decide +kernel
theorem dX4_loosen_18 : decode cX4_loosen 18 = .ok (.ldc 57, 2) := by decide +kernel
theorem dX4_loosen_20 : decode cX4_loosen 20 = .ok (.invokevirtual 58, 3) := by decide +kernel
theorem dX4_loosen_23 : decode cX4_loosen 23 = .ok (.ireturn, 1) := by decide +kernel
theorem dX4_loosen_24 : decode cX4_loosen 24 = .ok (.iconst 1, 1) := by decide +kernel
theorem dX4_loosen_25 : decode cX4_loosen 25 = .ok (.aload_n 0, 1) := by decide +kernel
theorem dX4_loosen_26 : decode cX4_loosen 26 = .ok (.getfield 12, 3) := by decide +kernel
theorem dX4_loosen_29 : decode cX4_loosen 29 = .ok (.getfield 102, 3) := by decide +kernel
theorem dX4_loosen_32 : decode cX4_loosen 32 = .ok (.ishl, 1) := by decide +kernel
theorem dX4_loosen_33 : decode cX4_loosen 33 = .ok (.istore_n 3, 1) := by decide +kernel
theorem dX4_loosen_34 : decode cX4_loosen 34 = .ok (.iconst 0, 1) := by decide +kernel
theorem dX4_loosen_35 : decode cX4_loosen 35 = .ok (.istore 4, 2) := by decide +kernel
theorem dX4_loosen_37 : decode cX4_loosen 37 = .ok (.iload 4, 2) := by decide +kernel
theorem dX4_loosen_39 : decode cX4_loosen 39 = .ok (.aload_n 0, 1) := by decide +kernel
theorem dX4_loosen_40 : decode cX4_loosen 40 = .ok (.getfield 12, 3) := by decide +kernel
theorem dX4_loosen_43 : decode cX4_loosen 43 = .ok (.getfield 102, 3) := by decide +kernel
theorem dX4_loosen_46 : decode cX4_loosen 46 = .ok (.if_icmp .gt 76, 3) := by decide +kernel
theorem dX4_loosen_49 : decode cX4_loosen 49 = .ok (.iconst 0, 1) := by decide +kernel
theorem dX4_loosen_50 : decode cX4_loosen 50 = .ok (.istore 5, 2) := by decide +kernel
theorem dX4_loosen_52 : decode cX4_loosen 52 = .ok (.iload 5, 2) := by decide +kernel
theorem dX4_loosen_54 : decode cX4_loosen 54 = .ok (.iload_n 3, 1) := by decide +kernel
theorem dX4_loosen_55 : decode cX4_loosen 55 = .ok (.if_icmp .ge 61, 3) := by decide +kernel
theorem dX4_loosen_58 : decode cX4_loosen 58 = .ok (.iload 5, 2) := by decide +kernel
theorem dX4_loosen_60 : decode cX4_loosen 60 = .ok (.invokestatic 158, 3) := by decide +kernel
theorem dX4_loosen_63 : decode cX4_loosen 63 = .ok (.iload 4, 2) := by decide +kernel
theorem dX4_loosen_65 : decode cX4_loosen 65 = .ok (.if_icmp .ne 45, 3) := by decide +kernel
theorem dX4_loosen_68 : decode cX4_loosen 68 = .ok (.aload_n 0, 1) := by decide +kernel
theorem dX4_loosen_69 : decode cX4_loosen 69 = .ok (.getfield 16, 3) := by decide +kernel
theorem dX4_loosen_72 : decode cX4_loosen 72 = .ok (.aload_n 0, 1) := by decide +kernel
theorem dX4_loosen_73 : decode cX4_loosen 73 = .ok (.getfield 12, 3) := by decide +kernel
theorem dX4_loosen_76 : decode cX4_loosen 76 = .ok (.invokevirtual 142, 3) := by decide +kernel
theorem dX4_loosen_79 : decode cX4_loosen 79 = .ok (.aload_n 0, 1) := by decide +kernel
theorem dX4_loosen_80 : decode cX4_loosen 80 = .ok (.getfield 16, 3) := by decide +kernel
theorem dX4_loosen_83 : decode cX4_loosen 83 = .ok (.iload 5, 2) := by decide +kernel
theorem dX4_loosen_85 : decode cX4_loosen 85 = .ok (.putfield 163, 3) := by decide +kernel
theorem dX4_loosen_88 : decode cX4_loosen 88 = .ok (.aload_n 0, 1) := by decide +kernel
theorem dX4_loosen_89 : decode cX4_loosen 89 = .ok (.getfield 16, 3) := by decide +kernel
theorem dX4_loosen_92 : decode cX4_loosen 92 = .ok (.iload_n 2, 1) := by decide +kernel
theorem dX4_loosen_93 : decode cX4_loosen 93 = .ok (.invokevirtual 116, 3) := by decide +kernel
theorem dX4_loosen_96 : decode cX4_loosen 96 = .ok (.aload_n 0, 1) := by decide +kernel
theorem dX4_loosen_97 : decode cX4_loosen 97 = .ok (.getfield 16, 3) := by decide +kernel
theorem dX4_loosen_100 : decode cX4_loosen 100 = .ok (.getfield 62, 3) := by decide +kernel
theorem dX4_loosen_103 : decode cX4_loosen 103 = .ok (.iload_n 1, 1) := by decide +kernel
theorem dX4_loosen_104 : decode cX4_loosen 104 = .ok (.if_icmp .ne 6, 3) := by decide +kernel
theorem dX4_loosen_107 : decode cX4_loosen 107 = .ok (.iload 5, 2) := by decide +kernel
theorem dX4_loosen_109 : decode cX4_loosen 109 = .ok (.ireturn, 1) := by decide +kernel
theorem dX4_loosen_110 : decode cX4_loosen 110 = .ok (.iinc 5 1, 3) := by decide +kernel
theorem dX4_loosen_113 : decode cX4_loosen 113 = .ok (.goto (-61), 3) := by decide +kernel
theorem dX4_loosen_116 : decode cX4_loosen 116 = .ok (.iinc 4 1, 3) := by decide +kernel
theorem dX4_loosen_119 : decode cX4_loosen 119 = .ok (.goto (-82), 3) := by decide +kernel
theorem dX4_loosen_122 : decode cX4_loosen 122 = .ok (.aload_n 0, 1) := by decide +kernel
theorem dX4_loosen_123 : decode cX4_loosen 123 = .ok (.ldc 149, 2) := by decide +kernel
theorem dX4_loosen_125 : decode cX4_loosen 125 = .ok (.invokevirtual 58, 3) := by decide +kernel
theorem dX4_loosen_128 : decode cX4_loosen 128 = .ok (.ireturn, 1) := by decide +kernel
theorem dX4_fits_0 : decode cX4_fits 0 = .ok (.aload_n 0, 1) := by decide +kernel
theorem dX4_fits_1 : decode cX4_fits 1 = .ok (.iload_n 1, 1) := by decide +kernel
theorem dX4_fits_2 : decode cX4_fits 2 = .ok (.iload_n 2, 1) := by decide +kernel
theorem dX4_fits_3 : decode cX4_fits 3 = .ok (.iconst 1, 1) := by decide +kernel
theorem dX4_fits_4 : decode cX4_fits 4 = .ok (.bipush 12, 2) := by decide +kernel
theorem dX4_fits_6 : decode cX4_fits 6 = .ok (.invokevirtual 166, 3) := by decide +kernel
theorem dX4_fits_9 : decode cX4_fits 9 = .ok (.ireturn, 1) := by decide +kernel
theorem dX4_kinds_0 : decode cX4_kinds 0 = .ok (.aload_n 0, 1) := by decide +kernel
theorem dX4_kinds_1 : decode cX4_kinds 1 = .ok (.iload_n 1, 1) := by decide +kernel
theorem dX4_kinds_2 : decode cX4_kinds 2 = .ok (.iload_n 2, 1) := by decide +kernel
theorem dX4_kinds_3 : decode cX4_kinds 3 = .ok (.iconst 0, 1) := by decide +kernel
theorem dX4_kinds_4 : decode cX4_kinds 4 = .ok (.bipush 7, 2) := by decide +kernel
theorem dX4_kinds_6 : decode cX4_kinds 6 = .ok (.invokevirtual 166, 3) := by decide +kernel
theorem dX4_kinds_9 : decode cX4_kinds 9 = .ok (.ireturn, 1) := by decide +kernel
theorem dX4_parcels_0 : decode cX4_parcels 0 = .ok (.iload_n 1, 1) := by decide +kernel
theorem dX4_parcels_1 : decode cX4_parcels 1 = .ok (.iconst 1, 1) := by decide +kernel
theorem dX4_parcels_2 : decode cX4_parcels 2 = .ok (.bipush 20, 2) := by decide +kernel
theorem dX4_parcels_4 : decode cX4_parcels 4 = .ok (.invokestatic 66, 3) := by decide +kernel
theorem dX4_parcels_7 : decode cX4_parcels 7 = .ok (.ifCond .ne 10, 3) := by decide +kernel
theorem dX4_parcels_10 : decode cX4_parcels 10 = .ok (.aload_n 0, 1) := by decide +kernel
theorem dX4_parcels_11 : decode cX4_parcels 11 = .ok (.ldc 57, 2) := by decide +kernel
theorem dX4_parcels_13 : decode cX4_parcels 13 = .ok (.invokevirtual 58, 3) := by decide +kernel
theorem dX4_parcels_16 : decode cX4_parcels 16 = .ok (.ireturn, 1) := by decide +kernel
theorem dX4_parcels_17 : decode cX4_parcels 17 = .ok (.aload_n 0, 1) := by decide +kernel
theorem dX4_parcels_18 : decode cX4_parcels 18 = .ok (.getfield 12, 3) := by decide +kernel
theorem dX4_parcels_21 : decode cX4_parcels 21 = .ok (.getfield 112, 3) := by decide +kernel
theorem dX4_parcels_24 : decode cX4_parcels 24 = .ok (.ldc 115, 2) := by decide +kernel
theorem dX4_parcels_26 : decode cX4_parcels 26 = .ok (.iload_n 1, 1) := by decide +kernel
theorem dX4_parcels_27 : decode cX4_parcels 27 = .ok (.isub, 1) := by decide +kernel
theorem dX4_parcels_28 : decode cX4_parcels 28 = .ok (.if_icmp .le 10, 3) := by decide +kernel
theorem dX4_parcels_31 : decode cX4_parcels 31 = .ok (.aload_n 0, 1) := by decide +kernel
theorem dX4_parcels_32 : decode cX4_parcels 32 = .ok (.ldc 105, 2) := by decide +kernel
theorem dX4_parcels_34 : decode cX4_parcels 34 = .ok (.invokevirtual 58, 3) := by decide +kernel
theorem dX4_parcels_37 : decode cX4_parcels 37 = .ok (.ireturn, 1) := by decide +kernel
theorem dX4_parcels_38 : decode cX4_parcels 38 = .ok (.iconst 0, 1) := by decide +kernel
theorem dX4_parcels_39 : decode cX4_parcels 39 = .ok (.istore_n 2, 1) := by decide +kernel
theorem dX4_parcels_40 : decode cX4_parcels 40 = .ok (.iload_n 2, 1) := by decide +kernel
theorem dX4_parcels_41 : decode cX4_parcels 41 = .ok (.iload_n 1, 1) := by decide +kernel
theorem dX4_parcels_42 : decode cX4_parcels 42 = .ok (.if_icmp .ge 61, 3) := by decide +kernel
theorem dX4_parcels_45 : decode cX4_parcels 45 = .ok (.aload_n 0, 1) := by decide +kernel
theorem dX4_parcels_46 : decode cX4_parcels 46 = .ok (.getfield 12, 3) := by decide +kernel
theorem dX4_parcels_49 : decode cX4_parcels 49 = .ok (.invokevirtual 170, 3) := by decide +kernel
theorem dX4_parcels_52 : decode cX4_parcels 52 = .ok (.bipush 8, 2) := by decide +kernel
theorem dX4_parcels_54 : decode cX4_parcels 54 = .ok (.irem, 1) := by decide +kernel
theorem dX4_parcels_55 : decode cX4_parcels 55 = .ok (.istore_n 3, 1) := by decide +kernel
theorem dX4_parcels_56 : decode cX4_parcels 56 = .ok (.aload_n 0, 1) := by decide +kernel
theorem dX4_parcels_57 : decode cX4_parcels 57 = .ok (.getfield 12, 3) := by decide +kernel
theorem dX4_parcels_60 : decode cX4_parcels 60 = .ok (.invokevirtual 170, 3) := by decide +kernel
theorem dX4_parcels_63 : decode cX4_parcels 63 = .ok (.bipush 12, 2) := by decide +kernel
theorem dX4_parcels_65 : decode cX4_parcels 65 = .ok (.irem, 1) := by decide +kernel
theorem dX4_parcels_66 : decode cX4_parcels 66 = .ok (.istore 4, 2) := by decide +kernel
theorem dX4_parcels_68 : decode cX4_parcels 68 = .ok (.aload_n 0, 1) := by decide +kernel
theorem dX4_parcels_69 : decode cX4_parcels 69 = .ok (.getfield 12, 3) := by decide +kernel
theorem dX4_parcels_72 : decode cX4_parcels 72 = .ok (.iload_n 3, 1) := by decide +kernel
theorem dX4_parcels_73 : decode cX4_parcels 73 = .ok (.invokevirtual 85, 3) := by decide +kernel
theorem dX4_parcels_76 : decode cX4_parcels 76 = .ok (.ifCond .eq 14, 3) := by decide +kernel
theorem dX4_parcels_79 : decode cX4_parcels 79 = .ok (.aload_n 0, 1) := by decide +kernel
theorem dX4_parcels_80 : decode cX4_parcels 80 = .ok (.getfield 12, 3) := by decide +kernel
theorem dX4_parcels_83 : decode cX4_parcels 83 = .ok (.iload_n 3, 1) := by decide +kernel
theorem dX4_parcels_84 : decode cX4_parcels 84 = .ok (.iconst 1, 1) := by decide +kernel
theorem dX4_parcels_85 : decode cX4_parcels 85 = .ok (.iload 4, 2) := by decide +kernel
theorem dX4_parcels_87 : decode cX4_parcels 87 = .ok (.invokevirtual 98, 3) := by decide +kernel
theorem dX4_parcels_90 : decode cX4_parcels 90 = .ok (.aload_n 0, 1) := by decide +kernel
theorem dX4_parcels_91 : decode cX4_parcels 91 = .ok (.getfield 12, 3) := by decide +kernel
theorem dX4_parcels_94 : decode cX4_parcels 94 = .ok (.invokevirtual 146, 3) := by decide +kernel
theorem dX4_parcels_97 : decode cX4_parcels 97 = .ok (.iinc 2 1, 3) := by decide +kernel
theorem dX4_parcels_100 : decode cX4_parcels 100 = .ok (.goto (-60), 3) := by decide +kernel
theorem dX4_parcels_103 : decode cX4_parcels 103 = .ok (.aload_n 0, 1) := by decide +kernel
theorem dX4_parcels_104 : decode cX4_parcels 104 = .ok (.getfield 12, 3) := by decide +kernel
theorem dX4_parcels_107 : decode cX4_parcels 107 = .ok (.getfield 62, 3) := by decide +kernel
theorem dX4_parcels_110 : decode cX4_parcels 110 = .ok (.ireturn, 1) := by decide +kernel
theorem dX4_odds_0 : decode cX4_odds 0 = .ok (.iload_n 1, 1) := by decide +kernel
theorem dX4_odds_1 : decode cX4_odds 1 = .ok (.iconst 0, 1) := by decide +kernel
theorem dX4_odds_2 : decode cX4_odds 2 = .ok (.bipush 17, 2) := by decide +kernel
theorem dX4_odds_4 : decode cX4_odds 4 = .ok (.invokestatic 66, 3) := by decide +kernel
theorem dX4_odds_7 : decode cX4_odds 7 = .ok (.ifCond .eq 12, 3) := by decide +kernel
theorem dX4_odds_10 : decode cX4_odds 10 = .ok (.iload_n 2, 1) := by decide +kernel
theorem dX4_odds_11 : decode cX4_odds 11 = .ok (.iconst 0, 1) := by decide +kernel
theorem dX4_odds_12 : decode cX4_odds 12 = .ok (.iconst 1, 1) := by decide +kernel
theorem dX4_odds_13 : decode cX4_odds 13 = .ok (.invokestatic 66, 3) := by decide +kernel
theorem dX4_odds_16 : decode cX4_odds 16 = .ok (.ifCond .ne 11, 3) := by decide +kernel
theorem dX4_odds_19 : decode cX4_odds 19 = .ok (.aload_n 0, 1) := by decide +kernel
theorem dX4_odds_20 : decode cX4_odds 20 = .ok (.ldc 57, 2) := by decide +kernel
theorem dX4_odds_22 : decode cX4_odds 22 = .ok (.invokevirtual 58, 3) := by decide +kernel
theorem dX4_odds_25 : decode cX4_odds 25 = .ok (.i2l, 1) := by decide +kernel
theorem dX4_odds_26 : decode cX4_odds 26 = .ok (.lreturn, 1) := by decide +kernel
theorem dX4_odds_27 : decode cX4_odds 27 = .ok (.aload_n 0, 1) := by decide +kernel
theorem dX4_odds_28 : decode cX4_odds 28 = .ok (.getfield 12, 3) := by decide +kernel
theorem dX4_odds_31 : decode cX4_odds 31 = .ok (.invokevirtual 135, 3) := by decide +kernel
theorem dX4_odds_34 : decode cX4_odds 34 = .ok (.invokestatic 158, 3) := by decide +kernel
theorem dX4_odds_37 : decode cX4_odds 37 = .ok (.istore_n 3, 1) := by decide +kernel
theorem dX4_odds_38 : decode cX4_odds 38 = .ok (.iload_n 2, 1) := by decide +kernel
theorem dX4_odds_39 : decode cX4_odds 39 = .ok (.ifCond .ne 7, 3) := by decide +kernel
theorem dX4_odds_42 : decode cX4_odds 42 = .ok (.iload_n 3, 1) := by decide +kernel
theorem dX4_odds_43 : decode cX4_odds 43 = .ok (.goto 5, 3) := by decide +kernel
theorem dX4_odds_46 : decode cX4_odds 46 = .ok (.bipush 12, 2) := by decide +kernel
theorem dX4_odds_48 : decode cX4_odds 48 = .ok (.iload_n 3, 1) := by decide +kernel
theorem dX4_odds_49 : decode cX4_odds 49 = .ok (.invokestatic 173, 3) := by decide +kernel
theorem dX4_odds_52 : decode cX4_odds 52 = .ok (.istore 4, 2) := by decide +kernel
theorem dX4_odds_54 : decode cX4_odds 54 = .ok (.lconst 1, 1) := by decide +kernel
theorem dX4_odds_55 : decode cX4_odds 55 = .ok (.lstore 5, 2) := by decide +kernel
theorem dX4_odds_57 : decode cX4_odds 57 = .ok (.iconst 0, 1) := by decide +kernel
theorem dX4_odds_58 : decode cX4_odds 58 = .ok (.istore 7, 2) := by decide +kernel
theorem dX4_odds_60 : decode cX4_odds 60 = .ok (.iload 7, 2) := by decide +kernel
theorem dX4_odds_62 : decode cX4_odds 62 = .ok (.iload_n 1, 1) := by decide +kernel
theorem dX4_odds_63 : decode cX4_odds 63 = .ok (.if_icmp .ge 17, 3) := by decide +kernel
theorem dX4_odds_66 : decode cX4_odds 66 = .ok (.lload 5, 2) := by decide +kernel
theorem dX4_odds_68 : decode cX4_odds 68 = .ok (.iload 4, 2) := by decide +kernel
theorem dX4_odds_70 : decode cX4_odds 70 = .ok (.i2l, 1) := by decide +kernel
theorem dX4_odds_71 : decode cX4_odds 71 = .ok (.lmul, 1) := by decide +kernel
theorem dX4_odds_72 : decode cX4_odds 72 = .ok (.lstore 5, 2) := by decide +kernel
theorem dX4_odds_74 : decode cX4_odds 74 = .ok (.iinc 7 1, 3) := by decide +kernel
theorem dX4_odds_77 : decode cX4_odds 77 = .ok (.goto (-17), 3) := by decide +kernel
theorem dX4_odds_80 : decode cX4_odds 80 = .ok (.lload 5, 2) := by decide +kernel
theorem dX4_odds_82 : decode cX4_odds 82 = .ok (.lreturn, 1) := by decide +kernel
theorem dX4_seed_0 : decode cX4_seed 0 = .ok (.aload_n 0, 1) := by decide +kernel
theorem dX4_seed_1 : decode cX4_seed 1 = .ok (.getfield 12, 3) := by decide +kernel
theorem dX4_seed_4 : decode cX4_seed 4 = .ok (.getfield 176, 3) := by decide +kernel
theorem dX4_seed_7 : decode cX4_seed 7 = .ok (.istore_n 2, 1) := by decide +kernel
theorem dX4_seed_8 : decode cX4_seed 8 = .ok (.aload_n 0, 1) := by decide +kernel
theorem dX4_seed_9 : decode cX4_seed 9 = .ok (.getfield 12, 3) := by decide +kernel
theorem dX4_seed_12 : decode cX4_seed 12 = .ok (.iload_n 1, 1) := by decide +kernel
theorem dX4_seed_13 : decode cX4_seed 13 = .ok (.putfield 176, 3) := by decide +kernel
theorem dX4_seed_16 : decode cX4_seed 16 = .ok (.iload_n 2, 1) := by decide +kernel
theorem dX4_seed_17 : decode cX4_seed 17 = .ok (.ireturn, 1) := by decide +kernel
theorem dX4_feed_0 : decode cX4_feed 0 = .ok (.iload_n 2, 1) := by decide +kernel
theorem dX4_feed_1 : decode cX4_feed 1 = .ok (.iconst 1, 1) := by decide +kernel
theorem dX4_feed_2 : decode cX4_feed 2 = .ok (.iconst 4, 1) := by decide +kernel
theorem dX4_feed_3 : decode cX4_feed 3 = .ok (.invokestatic 66, 3) := by decide +kernel
theorem dX4_feed_6 : decode cX4_feed 6 = .ok (.ifCond .ne 10, 3) := by decide +kernel
theorem dX4_feed_9 : decode cX4_feed 9 = .ok (.aload_n 0, 1) := by decide +kernel
theorem dX4_feed_10 : decode cX4_feed 10 = .ok (.ldc 57, 2) := by decide +kernel
theorem dX4_feed_12 : decode cX4_feed 12 = .ok (.invokevirtual 58, 3) := by decide +kernel
theorem dX4_feed_15 : decode cX4_feed 15 = .ok (.ireturn, 1) := by decide +kernel
theorem dX4_feed_16 : decode cX4_feed 16 = .ok (.aload_n 0, 1) := by decide +kernel
theorem dX4_feed_17 : decode cX4_feed 17 = .ok (.getfield 29, 3) := by decide +kernel
theorem dX4_feed_20 : decode cX4_feed 20 = .ok (.getfield 179, 3) := by decide +kernel
theorem dX4_feed_23 : decode cX4_feed 23 = .ok (.bipush 120, 2) := by decide +kernel
theorem dX4_feed_25 : decode cX4_feed 25 = .ok (.iload_n 2, 1) := by decide +kernel
theorem dX4_feed_26 : decode cX4_feed 26 = .ok (.isub, 1) := by decide +kernel
theorem dX4_feed_27 : decode cX4_feed 27 = .ok (.if_icmp .le 10, 3) := by decide +kernel
theorem dX4_feed_30 : decode cX4_feed 30 = .ok (.aload_n 0, 1) := by decide +kernel
theorem dX4_feed_31 : decode cX4_feed 31 = .ok (.ldc 80, 2) := by decide +kernel
theorem dX4_feed_33 : decode cX4_feed 33 = .ok (.invokevirtual 58, 3) := by decide +kernel
theorem dX4_feed_36 : decode cX4_feed 36 = .ok (.ireturn, 1) := by decide +kernel
theorem dX4_feed_37 : decode cX4_feed 37 = .ok (.iload_n 2, 1) := by decide +kernel
theorem dX4_feed_38 : decode cX4_feed 38 = .ok (.iconst 1, 1) := by decide +kernel
theorem dX4_feed_39 : decode cX4_feed 39 = .ok (.isub, 1) := by decide +kernel
theorem dX4_feed_40 : decode cX4_feed 40 = .ok (.istore_n 3, 1) := by decide +kernel
theorem dX4_feed_41 : decode cX4_feed 41 = .ok (.iload_n 3, 1) := by decide +kernel
theorem dX4_feed_42 : decode cX4_feed 42 = .ok (.ifCond .lt 26, 3) := by decide +kernel
theorem dX4_feed_45 : decode cX4_feed 45 = .ok (.aload_n 0, 1) := by decide +kernel
theorem dX4_feed_46 : decode cX4_feed 46 = .ok (.getfield 29, 3) := by decide +kernel
theorem dX4_feed_49 : decode cX4_feed 49 = .ok (.iload_n 1, 1) := by decide +kernel
theorem dX4_feed_50 : decode cX4_feed 50 = .ok (.bipush 8, 2) := by decide +kernel
theorem dX4_feed_52 : decode cX4_feed 52 = .ok (.iload_n 3, 1) := by decide +kernel
theorem dX4_feed_53 : decode cX4_feed 53 = .ok (.imul, 1) := by decide +kernel
theorem dX4_feed_54 : decode cX4_feed 54 = .ok (.iushr, 1) := by decide +kernel
theorem dX4_feed_55 : decode cX4_feed 55 = .ok (.sipush 255, 3) := by decide +kernel
theorem dX4_feed_58 : decode cX4_feed 58 = .ok (.iand, 1) := by decide +kernel
theorem dX4_feed_59 : decode cX4_feed 59 = .ok (.invokevirtual 182, 3) := by decide +kernel
theorem dX4_feed_62 : decode cX4_feed 62 = .ok (.iinc 3 (-1), 3) := by decide +kernel
theorem dX4_feed_65 : decode cX4_feed 65 = .ok (.goto (-24), 3) := by decide +kernel
theorem dX4_feed_68 : decode cX4_feed 68 = .ok (.aload_n 0, 1) := by decide +kernel
theorem dX4_feed_69 : decode cX4_feed 69 = .ok (.getfield 29, 3) := by decide +kernel
theorem dX4_feed_72 : decode cX4_feed 72 = .ok (.getfield 179, 3) := by decide +kernel
theorem dX4_feed_75 : decode cX4_feed 75 = .ok (.ireturn, 1) := by decide +kernel
theorem dX4_wipe_0 : decode cX4_wipe 0 = .ok (.aload_n 0, 1) := by decide +kernel
theorem dX4_wipe_1 : decode cX4_wipe 1 = .ok (.getfield 29, 3) := by decide +kernel
theorem dX4_wipe_4 : decode cX4_wipe 4 = .ok (.getfield 179, 3) := by decide +kernel
theorem dX4_wipe_7 : decode cX4_wipe 7 = .ok (.istore_n 1, 1) := by decide +kernel
theorem dX4_wipe_8 : decode cX4_wipe 8 = .ok (.aload_n 0, 1) := by decide +kernel
theorem dX4_wipe_9 : decode cX4_wipe 9 = .ok (.getfield 29, 3) := by decide +kernel
theorem dX4_wipe_12 : decode cX4_wipe 12 = .ok (.iconst 0, 1) := by decide +kernel
theorem dX4_wipe_13 : decode cX4_wipe 13 = .ok (.putfield 179, 3) := by decide +kernel
theorem dX4_wipe_16 : decode cX4_wipe 16 = .ok (.iload_n 1, 1) := by decide +kernel
theorem dX4_wipe_17 : decode cX4_wipe 17 = .ok (.ireturn, 1) := by decide +kernel
theorem dX4_text_0 : decode cX4_text 0 = .ok (.aload_n 0, 1) := by decide +kernel
theorem dX4_text_1 : decode cX4_text 1 = .ok (.getfield 16, 3) := by decide +kernel
theorem dX4_text_4 : decode cX4_text 4 = .ok (.aload_n 0, 1) := by decide +kernel
theorem dX4_text_5 : decode cX4_text 5 = .ok (.getfield 12, 3) := by decide +kernel
theorem dX4_text_8 : decode cX4_text 8 = .ok (.invokevirtual 185, 3) := by decide +kernel
theorem dX4_text_11 : decode cX4_text 11 = .ok (.aload_n 0, 1) := by decide +kernel
theorem dX4_text_12 : decode cX4_text 12 = .ok (.getfield 38, 3) := by decide +kernel
theorem dX4_text_15 : decode cX4_text 15 = .ok (.invokevirtual 188, 3) := by decide +kernel
theorem dX4_text_18 : decode cX4_text 18 = .ok (.istore_n 1, 1) := by decide +kernel
theorem dX4_text_19 : decode cX4_text 19 = .ok (.aload_n 0, 1) := by decide +kernel
theorem dX4_text_20 : decode cX4_text 20 = .ok (.getfield 29, 3) := by decide +kernel
theorem dX4_text_23 : decode cX4_text 23 = .ok (.iconst 0, 1) := by decide +kernel
theorem dX4_text_24 : decode cX4_text 24 = .ok (.putfield 179, 3) := by decide +kernel
theorem dX4_text_27 : decode cX4_text 27 = .ok (.iload_n 1, 1) := by decide +kernel
theorem dX4_text_28 : decode cX4_text 28 = .ok (.ifCond .lt 14, 3) := by decide +kernel
theorem dX4_text_31 : decode cX4_text 31 = .ok (.aload_n 0, 1) := by decide +kernel
theorem dX4_text_32 : decode cX4_text 32 = .ok (.getfield 12, 3) := by decide +kernel
theorem dX4_text_35 : decode cX4_text 35 = .ok (.aload_n 0, 1) := by decide +kernel
theorem dX4_text_36 : decode cX4_text 36 = .ok (.getfield 16, 3) := by decide +kernel
theorem dX4_text_39 : decode cX4_text 39 = .ok (.invokevirtual 185, 3) := by decide +kernel
theorem dX4_text_42 : decode cX4_text 42 = .ok (.iload_n 1, 1) := by decide +kernel
theorem dX4_text_43 : decode cX4_text 43 = .ok (.ireturn, 1) := by decide +kernel
theorem dX4_hold_0 : decode cX4_hold 0 = .ok (.iload_n 1, 1) := by decide +kernel
theorem dX4_hold_1 : decode cX4_hold 1 = .ok (.invokestatic 191, 3) := by decide +kernel
theorem dX4_hold_4 : decode cX4_hold 4 = .ok (.ifCond .eq 19, 3) := by decide +kernel
theorem dX4_hold_7 : decode cX4_hold 7 = .ok (.iload_n 2, 1) := by decide +kernel
theorem dX4_hold_8 : decode cX4_hold 8 = .ok (.iconst (-1), 1) := by decide +kernel
theorem dX4_hold_9 : decode cX4_hold 9 = .ok (.if_icmp .eq 21, 3) := by decide +kernel
theorem dX4_hold_12 : decode cX4_hold 12 = .ok (.aload_n 0, 1) := by decide +kernel
theorem dX4_hold_13 : decode cX4_hold 13 = .ok (.getfield 12, 3) := by decide +kernel
theorem dX4_hold_16 : decode cX4_hold 16 = .ok (.iload_n 2, 1) := by decide +kernel
theorem dX4_hold_17 : decode cX4_hold 17 = .ok (.invokevirtual 85, 3) := by decide +kernel
theorem dX4_hold_20 : decode cX4_hold 20 = .ok (.ifCond .ne 10, 3) := by decide +kernel
theorem dX4_hold_23 : decode cX4_hold 23 = .ok (.aload_n 0, 1) := by decide +kernel
theorem dX4_hold_24 : decode cX4_hold 24 = .ok (.ldc 57, 2) := by decide +kernel
theorem dX4_hold_26 : decode cX4_hold 26 = .ok (.invokevirtual 58, 3) := by decide +kernel
theorem dX4_hold_29 : decode cX4_hold 29 = .ok (.ireturn, 1) := by decide +kernel
theorem dX4_hold_30 : decode cX4_hold 30 = .ok (.aload_n 0, 1) := by decide +kernel
theorem dX4_hold_31 : decode cX4_hold 31 = .ok (.getfield 12, 3) := by decide +kernel
theorem dX4_hold_34 : decode cX4_hold 34 = .ok (.iload_n 1, 1) := by decide +kernel
theorem dX4_hold_35 : decode cX4_hold 35 = .ok (.iload_n 2, 1) := by decide +kernel
theorem dX4_hold_36 : decode cX4_hold 36 = .ok (.invokevirtual 194, 3) := by decide +kernel
theorem dX4_hold_39 : decode cX4_hold 39 = .ok (.iconst 1, 1) := by decide +kernel
theorem dX4_hold_40 : decode cX4_hold 40 = .ok (.ireturn, 1) := by decide +kernel
theorem dX4_as_0 : decode cX4_as 0 = .ok (.iload_n 1, 1) := by decide +kernel
theorem dX4_as_1 : decode cX4_as 1 = .ok (.invokestatic 191, 3) := by decide +kernel
theorem dX4_as_4 : decode cX4_as 4 = .ok (.ifCond .eq 10, 3) := by decide +kernel
theorem dX4_as_7 : decode cX4_as 7 = .ok (.iload_n 2, 1) := by decide +kernel
theorem dX4_as_8 : decode cX4_as 8 = .ok (.invokestatic 73, 3) := by decide +kernel
theorem dX4_as_11 : decode cX4_as 11 = .ok (.ifCond .ne 10, 3) := by decide +kernel
theorem dX4_as_14 : decode cX4_as 14 = .ok (.aload_n 0, 1) := by decide +kernel
theorem dX4_as_15 : decode cX4_as 15 = .ok (.ldc 57, 2) := by decide +kernel
theorem dX4_as_17 : decode cX4_as 17 = .ok (.invokevirtual 58, 3) := by decide +kernel
theorem dX4_as_20 : decode cX4_as 20 = .ok (.ireturn, 1) := by decide +kernel
theorem dX4_as_21 : decode cX4_as 21 = .ok (.aload_n 0, 1) := by decide +kernel
theorem dX4_as_22 : decode cX4_as 22 = .ok (.getfield 12, 3) := by decide +kernel
theorem dX4_as_25 : decode cX4_as 25 = .ok (.iload_n 1, 1) := by decide +kernel
theorem dX4_as_26 : decode cX4_as 26 = .ok (.invokevirtual 198, 3) := by decide +kernel
theorem dX4_as_29 : decode cX4_as 29 = .ok (.istore_n 3, 1) := by decide +kernel
theorem dX4_as_30 : decode cX4_as 30 = .ok (.iload_n 3, 1) := by decide +kernel
theorem dX4_as_31 : decode cX4_as 31 = .ok (.iconst (-1), 1) := by decide +kernel
theorem dX4_as_32 : decode cX4_as 32 = .ok (.if_icmp .ne 10, 3) := by decide +kernel
theorem dX4_as_35 : decode cX4_as 35 = .ok (.aload_n 0, 1) := by decide +kernel
theorem dX4_as_36 : decode cX4_as 36 = .ok (.ldc 201, 2) := by decide +kernel
theorem dX4_as_38 : decode cX4_as 38 = .ok (.invokevirtual 58, 3) := by decide +kernel
theorem dX4_as_41 : decode cX4_as 41 = .ok (.ireturn, 1) := by decide +kernel
theorem dX4_as_42 : decode cX4_as 42 = .ok (.aload_n 0, 1) := by decide +kernel
theorem dX4_as_43 : decode cX4_as 43 = .ok (.getfield 12, 3) := by decide +kernel
theorem dX4_as_46 : decode cX4_as 46 = .ok (.iload_n 3, 1) := by decide +kernel
theorem dX4_as_47 : decode cX4_as 47 = .ok (.iconst 0, 1) := by decide +kernel
theorem dX4_as_48 : decode cX4_as 48 = .ok (.invokevirtual 95, 3) := by decide +kernel
theorem dX4_as_51 : decode cX4_as 51 = .ok (.iload_n 2, 1) := by decide +kernel
theorem dX4_as_52 : decode cX4_as 52 = .ok (.invokestatic 202, 3) := by decide +kernel
theorem dX4_as_55 : decode cX4_as 55 = .ok (.ifCond .ne 10, 3) := by decide +kernel
theorem dX4_as_58 : decode cX4_as 58 = .ok (.aload_n 0, 1) := by decide +kernel
theorem dX4_as_59 : decode cX4_as 59 = .ok (.ldc 205, 2) := by decide +kernel
theorem dX4_as_61 : decode cX4_as 61 = .ok (.invokevirtual 58, 3) := by decide +kernel
theorem dX4_as_64 : decode cX4_as 64 = .ok (.ireturn, 1) := by decide +kernel
theorem dX4_as_65 : decode cX4_as 65 = .ok (.iload_n 3, 1) := by decide +kernel
theorem dX4_as_66 : decode cX4_as 66 = .ok (.ireturn, 1) := by decide +kernel
theorem dX4_sheet_0 : decode cX4_sheet 0 = .ok (.iload_n 1, 1) := by decide +kernel
theorem dX4_sheet_1 : decode cX4_sheet 1 = .ok (.invokestatic 206, 3) := by decide +kernel
theorem dX4_sheet_4 : decode cX4_sheet 4 = .ok (.ifCond .eq 25, 3) := by decide +kernel
theorem dX4_sheet_7 : decode cX4_sheet 7 = .ok (.iload_n 2, 1) := by decide +kernel
theorem dX4_sheet_8 : decode cX4_sheet 8 = .ok (.ifCond .eq 28, 3) := by decide +kernel
theorem dX4_sheet_11 : decode cX4_sheet 11 = .ok (.iload_n 2, 1) := by decide +kernel
theorem dX4_sheet_12 : decode cX4_sheet 12 = .ok (.bipush 8, 2) := by decide +kernel
theorem dX4_sheet_14 : decode cX4_sheet 14 = .ok (.if_icmp .eq 22, 3) := by decide +kernel
theorem dX4_sheet_17 : decode cX4_sheet 17 = .ok (.iload_n 2, 1) := by decide +kernel
theorem dX4_sheet_18 : decode cX4_sheet 18 = .ok (.bipush 16, 2) := by decide +kernel
theorem dX4_sheet_20 : decode cX4_sheet 20 = .ok (.if_icmp .eq 16, 3) := by decide +kernel
theorem dX4_sheet_23 : decode cX4_sheet 23 = .ok (.iload_n 2, 1) := by decide +kernel
theorem dX4_sheet_24 : decode cX4_sheet 24 = .ok (.bipush 32, 2) := by decide +kernel
theorem dX4_sheet_26 : decode cX4_sheet 26 = .ok (.if_icmp .eq 10, 3) := by decide +kernel
theorem dX4_sheet_29 : decode cX4_sheet 29 = .ok (.aload_n 0, 1) := by decide +kernel
theorem dX4_sheet_30 : decode cX4_sheet 30 = .ok (.ldc 57, 2) := by decide +kernel
theorem dX4_sheet_32 : decode cX4_sheet 32 = .ok (.invokevirtual 58, 3) := by decide +kernel
theorem dX4_sheet_35 : decode cX4_sheet 35 = .ok (.ireturn, 1) := by decide +kernel
theorem dX4_sheet_36 : decode cX4_sheet 36 = .ok (.iload_n 3, 1) := by decide +kernel
theorem dX4_sheet_37 : decode cX4_sheet 37 = .ok (.ifCond .ge 10, 3) := by decide +kernel
theorem dX4_sheet_40 : decode cX4_sheet 40 = .ok (.aload_n 0, 1) := by decide +kernel
theorem dX4_sheet_41 : decode cX4_sheet 41 = .ok (.ldc 209, 2) := by decide +kernel
theorem dX4_sheet_43 : decode cX4_sheet 43 = .ok (.invokevirtual 58, 3) := by decide +kernel
theorem dX4_sheet_46 : decode cX4_sheet 46 = .ok (.ireturn, 1) := by decide +kernel
theorem dX4_sheet_47 : decode cX4_sheet 47 = .ok (.iload_n 3, 1) := by decide +kernel
theorem dX4_sheet_48 : decode cX4_sheet 48 = .ok (.bipush 40, 2) := by decide +kernel
theorem dX4_sheet_50 : decode cX4_sheet 50 = .ok (.if_icmp .le 10, 3) := by decide +kernel
theorem dX4_sheet_53 : decode cX4_sheet 53 = .ok (.aload_n 0, 1) := by decide +kernel
theorem dX4_sheet_54 : decode cX4_sheet 54 = .ok (.ldc 57, 2) := by decide +kernel
theorem dX4_sheet_56 : decode cX4_sheet 56 = .ok (.invokevirtual 58, 3) := by decide +kernel
theorem dX4_sheet_59 : decode cX4_sheet 59 = .ok (.ireturn, 1) := by decide +kernel
theorem dX4_sheet_60 : decode cX4_sheet 60 = .ok (.iload_n 2, 1) := by decide +kernel
theorem dX4_sheet_61 : decode cX4_sheet 61 = .ok (.ifCond .ne 7, 3) := by decide +kernel
theorem dX4_sheet_64 : decode cX4_sheet 64 = .ok (.iconst 0, 1) := by decide +kernel
theorem dX4_sheet_65 : decode cX4_sheet 65 = .ok (.goto 4, 3) := by decide +kernel
theorem dX4_sheet_68 : decode cX4_sheet 68 = .ok (.iload_n 3, 1) := by decide +kernel
theorem dX4_sheet_69 : decode cX4_sheet 69 = .ok (.istore 4, 2) := by decide +kernel
theorem dX4_sheet_71 : decode cX4_sheet 71 = .ok (.aload_n 0, 1) := by decide +kernel
theorem dX4_sheet_72 : decode cX4_sheet 72 = .ok (.getfield 45, 3) := by decide +kernel
theorem dX4_sheet_75 : decode cX4_sheet 75 = .ok (.iload_n 1, 1) := by decide +kernel
theorem dX4_sheet_76 : decode cX4_sheet 76 = .ok (.iload_n 2, 1) := by decide +kernel
theorem dX4_sheet_77 : decode cX4_sheet 77 = .ok (.iload 4, 2) := by decide +kernel
theorem dX4_sheet_79 : decode cX4_sheet 79 = .ok (.invokevirtual 210, 3) := by decide +kernel
theorem dX4_sheet_82 : decode cX4_sheet 82 = .ok (.iload 4, 2) := by decide +kernel
theorem dX4_sheet_84 : decode cX4_sheet 84 = .ok (.ireturn, 1) := by decide +kernel
theorem dX4_write_0 : decode cX4_write 0 = .ok (.aload_n 0, 1) := by decide +kernel
theorem dX4_write_1 : decode cX4_write 1 = .ok (.iload_n 1, 1) := by decide +kernel
theorem dX4_write_2 : decode cX4_write 2 = .ok (.invokevirtual 213, 3) := by decide +kernel
theorem dX4_write_5 : decode cX4_write 5 = .ok (.istore 4, 2) := by decide +kernel
theorem dX4_write_7 : decode cX4_write 7 = .ok (.iload 4, 2) := by decide +kernel
theorem dX4_write_9 : decode cX4_write 9 = .ok (.ifCond .eq 10, 3) := by decide +kernel
theorem dX4_write_12 : decode cX4_write 12 = .ok (.aload_n 0, 1) := by decide +kernel
theorem dX4_write_13 : decode cX4_write 13 = .ok (.iload 4, 2) := by decide +kernel
theorem dX4_write_15 : decode cX4_write 15 = .ok (.invokevirtual 58, 3) := by decide +kernel
theorem dX4_write_18 : decode cX4_write 18 = .ok (.ireturn, 1) := by decide +kernel
theorem dX4_write_19 : decode cX4_write 19 = .ok (.iload_n 2, 1) := by decide +kernel
theorem dX4_write_20 : decode cX4_write 20 = .ok (.iconst 0, 1) := by decide +kernel
theorem dX4_write_21 : decode cX4_write 21 = .ok (.aload_n 0, 1) := by decide +kernel
theorem dX4_write_22 : decode cX4_write 22 = .ok (.getfield 45, 3) := by decide +kernel
theorem dX4_write_25 : decode cX4_write 25 = .ok (.iload_n 1, 1) := by decide +kernel
theorem dX4_write_26 : decode cX4_write 26 = .ok (.invokevirtual 216, 3) := by decide +kernel
theorem dX4_write_29 : decode cX4_write 29 = .ok (.iconst 1, 1) := by decide +kernel
theorem dX4_write_30 : decode cX4_write 30 = .ok (.isub, 1) := by decide +kernel
theorem dX4_write_31 : decode cX4_write 31 = .ok (.invokestatic 66, 3) := by decide +kernel
theorem dX4_write_34 : decode cX4_write 34 = .ok (.ifCond .ne 10, 3) := by decide +kernel
theorem dX4_write_37 : decode cX4_write 37 = .ok (.aload_n 0, 1) := by decide +kernel
theorem dX4_write_38 : decode cX4_write 38 = .ok (.ldc 57, 2) := by decide +kernel
theorem dX4_write_40 : decode cX4_write 40 = .ok (.invokevirtual 58, 3) := by decide +kernel
theorem dX4_write_43 : decode cX4_write 43 = .ok (.ireturn, 1) := by decide +kernel
theorem dX4_write_44 : decode cX4_write 44 = .ok (.aload_n 0, 1) := by decide +kernel
theorem dX4_write_45 : decode cX4_write 45 = .ok (.getfield 45, 3) := by decide +kernel
theorem dX4_write_48 : decode cX4_write 48 = .ok (.iload_n 1, 1) := by decide +kernel
theorem dX4_write_49 : decode cX4_write 49 = .ok (.iload_n 2, 1) := by decide +kernel
theorem dX4_write_50 : decode cX4_write 50 = .ok (.iload_n 3, 1) := by decide +kernel
theorem dX4_write_51 : decode cX4_write 51 = .ok (.invokevirtual 219, 3) := by decide +kernel
theorem dX4_write_54 : decode cX4_write 54 = .ok (.iconst 1, 1) := by decide +kernel
theorem dX4_write_55 : decode cX4_write 55 = .ok (.ireturn, 1) := by decide +kernel
theorem dX4_copy_0 : decode cX4_copy 0 = .ok (.iload_n 1, 1) := by decide +kernel
theorem dX4_copy_1 : decode cX4_copy 1 = .ok (.invokestatic 206, 3) := by decide +kernel
theorem dX4_copy_4 : decode cX4_copy 4 = .ok (.ifCond .eq 10, 3) := by decide +kernel
theorem dX4_copy_7 : decode cX4_copy 7 = .ok (.iload_n 3, 1) := by decide +kernel
theorem dX4_copy_8 : decode cX4_copy 8 = .ok (.invokestatic 206, 3) := by decide +kernel
theorem dX4_copy_11 : decode cX4_copy 11 = .ok (.ifCond .ne 10, 3) := by decide +kernel
theorem dX4_copy_14 : decode cX4_copy 14 = .ok (.aload_n 0, 1) := by decide +kernel
theorem dX4_copy_15 : decode cX4_copy 15 = .ok (.ldc 57, 2) := by decide +kernel
theorem dX4_copy_17 : decode cX4_copy 17 = .ok (.invokevirtual 58, 3) := by decide +kernel
theorem dX4_copy_20 : decode cX4_copy 20 = .ok (.ireturn, 1) := by decide +kernel
theorem dX4_copy_21 : decode cX4_copy 21 = .ok (.aload_n 0, 1) := by decide +kernel
theorem dX4_copy_22 : decode cX4_copy 22 = .ok (.getfield 45, 3) := by decide +kernel
theorem dX4_copy_25 : decode cX4_copy 25 = .ok (.iload_n 1, 1) := by decide +kernel
theorem dX4_copy_26 : decode cX4_copy 26 = .ok (.invokevirtual 222, 3) := by decide +kernel
theorem dX4_copy_29 : decode cX4_copy 29 = .ok (.ifCond .ne 14, 3) := by decide +kernel
theorem dX4_copy_32 : decode cX4_copy 32 = .ok (.aload_n 0, 1) := by decide +kernel
theorem dX4_copy_33 : decode cX4_copy 33 = .ok (.getfield 45, 3) := by decide +kernel
theorem dX4_copy_36 : decode cX4_copy 36 = .ok (.iload_n 3, 1) := by decide +kernel
theorem dX4_copy_37 : decode cX4_copy 37 = .ok (.invokevirtual 222, 3) := by decide +kernel
theorem dX4_copy_40 : decode cX4_copy 40 = .ok (.ifCond .eq 10, 3) := by decide +kernel
theorem dX4_copy_43 : decode cX4_copy 43 = .ok (.aload_n 0, 1) := by decide +kernel
theorem dX4_copy_44 : decode cX4_copy 44 = .ok (.ldc 201, 2) := by decide +kernel
theorem dX4_copy_46 : decode cX4_copy 46 = .ok (.invokevirtual 58, 3) := by decide +kernel
theorem dX4_copy_49 : decode cX4_copy 49 = .ok (.ireturn, 1) := by decide +kernel
theorem dX4_copy_50 : decode cX4_copy 50 = .ok (.aload_n 0, 1) := by decide +kernel
theorem dX4_copy_51 : decode cX4_copy 51 = .ok (.getfield 45, 3) := by decide +kernel
theorem dX4_copy_54 : decode cX4_copy 54 = .ok (.iload_n 1, 1) := by decide +kernel
theorem dX4_copy_55 : decode cX4_copy 55 = .ok (.invokevirtual 225, 3) := by decide +kernel
theorem dX4_copy_58 : decode cX4_copy 58 = .ok (.aload_n 0, 1) := by decide +kernel
theorem dX4_copy_59 : decode cX4_copy 59 = .ok (.getfield 45, 3) := by decide +kernel
theorem dX4_copy_62 : decode cX4_copy 62 = .ok (.iload_n 3, 1) := by decide +kernel
theorem dX4_copy_63 : decode cX4_copy 63 = .ok (.invokevirtual 225, 3) := by decide +kernel
theorem dX4_copy_66 : decode cX4_copy 66 = .ok (.if_icmp .eq 10, 3) := by decide +kernel
theorem dX4_copy_69 : decode cX4_copy 69 = .ok (.aload_n 0, 1) := by decide +kernel
theorem dX4_copy_70 : decode cX4_copy 70 = .ok (.ldc 205, 2) := by decide +kernel
theorem dX4_copy_72 : decode cX4_copy 72 = .ok (.invokevirtual 58, 3) := by decide +kernel
theorem dX4_copy_75 : decode cX4_copy 75 = .ok (.ireturn, 1) := by decide +kernel
theorem dX4_copy_76 : decode cX4_copy 76 = .ok (.aload_n 0, 1) := by decide +kernel
theorem dX4_copy_77 : decode cX4_copy 77 = .ok (.getfield 45, 3) := by decide +kernel
theorem dX4_copy_80 : decode cX4_copy 80 = .ok (.iload_n 1, 1) := by decide +kernel
theorem dX4_copy_81 : decode cX4_copy 81 = .ok (.iload_n 2, 1) := by decide +kernel
theorem dX4_copy_82 : decode cX4_copy 82 = .ok (.iload 5, 2) := by decide +kernel
theorem dX4_copy_84 : decode cX4_copy 84 = .ok (.invokevirtual 228, 3) := by decide +kernel
theorem dX4_copy_87 : decode cX4_copy 87 = .ok (.ifCond .eq 18, 3) := by decide +kernel
theorem dX4_copy_90 : decode cX4_copy 90 = .ok (.aload_n 0, 1) := by decide +kernel
theorem dX4_copy_91 : decode cX4_copy 91 = .ok (.getfield 45, 3) := by decide +kernel
theorem dX4_copy_94 : decode cX4_copy 94 = .ok (.iload_n 3, 1) := by decide +kernel
theorem dX4_copy_95 : decode cX4_copy 95 = .ok (.iload 4, 2) := by decide +kernel
theorem dX4_copy_97 : decode cX4_copy 97 = .ok (.iload 5, 2) := by decide +kernel
theorem dX4_copy_99 : decode cX4_copy 99 = .ok (.invokevirtual 228, 3) := by decide +kernel
theorem dX4_copy_102 : decode cX4_copy 102 = .ok (.ifCond .ne 10, 3) := by decide +kernel
theorem dX4_copy_105 : decode cX4_copy 105 = .ok (.aload_n 0, 1) := by decide +kernel
theorem dX4_copy_106 : decode cX4_copy 106 = .ok (.ldc 57, 2) := by decide +kernel
theorem dX4_copy_108 : decode cX4_copy 108 = .ok (.invokevirtual 58, 3) := by decide +kernel
theorem dX4_copy_111 : decode cX4_copy 111 = .ok (.ireturn, 1) := by decide +kernel
theorem dX4_copy_112 : decode cX4_copy 112 = .ok (.aload_n 0, 1) := by decide +kernel
theorem dX4_copy_113 : decode cX4_copy 113 = .ok (.getfield 45, 3) := by decide +kernel
theorem dX4_copy_116 : decode cX4_copy 116 = .ok (.iload_n 1, 1) := by decide +kernel
theorem dX4_copy_117 : decode cX4_copy 117 = .ok (.iload_n 2, 1) := by decide +kernel
theorem dX4_copy_118 : decode cX4_copy 118 = .ok (.iload_n 3, 1) := by decide +kernel
theorem dX4_copy_119 : decode cX4_copy 119 = .ok (.iload 4, 2) := by decide +kernel
theorem dX4_copy_121 : decode cX4_copy 121 = .ok (.iload 5, 2) := by decide +kernel
theorem dX4_copy_123 : decode cX4_copy 123 = .ok (.invokevirtual 231, 3) := by decide +kernel
theorem dX4_copy_126 : decode cX4_copy 126 = .ok (.iload 5, 2) := by decide +kernel
theorem dX4_copy_128 : decode cX4_copy 128 = .ok (.ireturn, 1) := by decide +kernel
theorem dX4_load_0 : decode cX4_load 0 = .ok (.aload_n 0, 1) := by decide +kernel
theorem dX4_load_1 : decode cX4_load 1 = .ok (.iload_n 1, 1) := by decide +kernel
theorem dX4_load_2 : decode cX4_load 2 = .ok (.invokevirtual 213, 3) := by decide +kernel
theorem dX4_load_5 : decode cX4_load 5 = .ok (.istore_n 2, 1) := by decide +kernel
theorem dX4_load_6 : decode cX4_load 6 = .ok (.iload_n 2, 1) := by decide +kernel
theorem dX4_load_7 : decode cX4_load 7 = .ok (.ifCond .eq 9, 3) := by decide +kernel
theorem dX4_load_10 : decode cX4_load 10 = .ok (.aload_n 0, 1) := by decide +kernel
theorem dX4_load_11 : decode cX4_load 11 = .ok (.iload_n 2, 1) := by decide +kernel
theorem dX4_load_12 : decode cX4_load 12 = .ok (.invokevirtual 58, 3) := by decide +kernel
theorem dX4_load_15 : decode cX4_load 15 = .ok (.ireturn, 1) := by decide +kernel
theorem dX4_load_16 : decode cX4_load 16 = .ok (.aload_n 0, 1) := by decide +kernel
theorem dX4_load_17 : decode cX4_load 17 = .ok (.getfield 45, 3) := by decide +kernel
theorem dX4_load_20 : decode cX4_load 20 = .ok (.iload_n 1, 1) := by decide +kernel
theorem dX4_load_21 : decode cX4_load 21 = .ok (.invokevirtual 216, 3) := by decide +kernel
theorem dX4_load_24 : decode cX4_load 24 = .ok (.aload_n 0, 1) := by decide +kernel
theorem dX4_load_25 : decode cX4_load 25 = .ok (.getfield 12, 3) := by decide +kernel
theorem dX4_load_28 : decode cX4_load 28 = .ok (.getfield 102, 3) := by decide +kernel
theorem dX4_load_31 : decode cX4_load 31 = .ok (.invokestatic 235, 3) := by decide +kernel
theorem dX4_load_34 : decode cX4_load 34 = .ok (.istore_n 3, 1) := by decide +kernel
theorem dX4_load_35 : decode cX4_load 35 = .ok (.iconst 0, 1) := by decide +kernel
theorem dX4_load_36 : decode cX4_load 36 = .ok (.istore 4, 2) := by decide +kernel
theorem dX4_load_38 : decode cX4_load 38 = .ok (.iload 4, 2) := by decide +kernel
theorem dX4_load_40 : decode cX4_load 40 = .ok (.iload_n 3, 1) := by decide +kernel
theorem dX4_load_41 : decode cX4_load 41 = .ok (.if_icmp .ge 45, 3) := by decide +kernel
theorem dX4_load_44 : decode cX4_load 44 = .ok (.aload_n 0, 1) := by decide +kernel
theorem dX4_load_45 : decode cX4_load 45 = .ok (.getfield 45, 3) := by decide +kernel
theorem dX4_load_48 : decode cX4_load 48 = .ok (.iload_n 1, 1) := by decide +kernel
theorem dX4_load_49 : decode cX4_load 49 = .ok (.iload 4, 2) := by decide +kernel
theorem dX4_load_51 : decode cX4_load 51 = .ok (.invokevirtual 238, 3) := by decide +kernel
theorem dX4_load_54 : decode cX4_load 54 = .ok (.istore 5, 2) := by decide +kernel
theorem dX4_load_56 : decode cX4_load 56 = .ok (.iconst 2, 1) := by decide +kernel
theorem dX4_load_57 : decode cX4_load 57 = .ok (.iload 5, 2) := by decide +kernel
theorem dX4_load_59 : decode cX4_load 59 = .ok (.invokestatic 91, 3) := by decide +kernel
theorem dX4_load_62 : decode cX4_load 62 = .ok (.ifCond .ne 6, 3) := by decide +kernel
theorem dX4_load_65 : decode cX4_load 65 = .ok (.iload 4, 2) := by decide +kernel
theorem dX4_load_67 : decode cX4_load 67 = .ok (.ireturn, 1) := by decide +kernel
theorem dX4_load_68 : decode cX4_load 68 = .ok (.aload_n 0, 1) := by decide +kernel
theorem dX4_load_69 : decode cX4_load 69 = .ok (.getfield 12, 3) := by decide +kernel
theorem dX4_load_72 : decode cX4_load 72 = .ok (.iload 4, 2) := by decide +kernel
theorem dX4_load_74 : decode cX4_load 74 = .ok (.iconst 2, 1) := by decide +kernel
theorem dX4_load_75 : decode cX4_load 75 = .ok (.iload 5, 2) := by decide +kernel
theorem dX4_load_77 : decode cX4_load 77 = .ok (.invokevirtual 98, 3) := by decide +kernel
theorem dX4_load_80 : decode cX4_load 80 = .ok (.iinc 4 1, 3) := by decide +kernel
theorem dX4_load_83 : decode cX4_load 83 = .ok (.goto (-45), 3) := by decide +kernel
theorem dX4_load_86 : decode cX4_load 86 = .ok (.iload_n 3, 1) := by decide +kernel
theorem dX4_load_87 : decode cX4_load 87 = .ok (.ireturn, 1) := by decide +kernel
theorem dX4_judge_0 : decode cX4_judge 0 = .ok (.aload_n 0, 1) := by decide +kernel
theorem dX4_judge_1 : decode cX4_judge 1 = .ok (.iload_n 1, 1) := by decide +kernel
theorem dX4_judge_2 : decode cX4_judge 2 = .ok (.invokevirtual 213, 3) := by decide +kernel
theorem dX4_judge_5 : decode cX4_judge 5 = .ok (.istore_n 2, 1) := by decide +kernel
theorem dX4_judge_6 : decode cX4_judge 6 = .ok (.iload_n 2, 1) := by decide +kernel
theorem dX4_judge_7 : decode cX4_judge 7 = .ok (.ifCond .eq 9, 3) := by decide +kernel
theorem dX4_judge_10 : decode cX4_judge 10 = .ok (.aload_n 0, 1) := by decide +kernel
theorem dX4_judge_11 : decode cX4_judge 11 = .ok (.iload_n 2, 1) := by decide +kernel
theorem dX4_judge_12 : decode cX4_judge 12 = .ok (.invokevirtual 58, 3) := by decide +kernel
theorem dX4_judge_15 : decode cX4_judge 15 = .ok (.ireturn, 1) := by decide +kernel
theorem dX4_judge_16 : decode cX4_judge 16 = .ok (.iconst 0, 1) := by decide +kernel
theorem dX4_judge_17 : decode cX4_judge 17 = .ok (.istore_n 3, 1) := by decide +kernel
theorem dX4_judge_18 : decode cX4_judge 18 = .ok (.iload_n 3, 1) := by decide +kernel
theorem dX4_judge_19 : decode cX4_judge 19 = .ok (.aload_n 0, 1) := by decide +kernel
theorem dX4_judge_20 : decode cX4_judge 20 = .ok (.getfield 45, 3) := by decide +kernel
theorem dX4_judge_23 : decode cX4_judge 23 = .ok (.iload_n 1, 1) := by decide +kernel
theorem dX4_judge_24 : decode cX4_judge 24 = .ok (.invokevirtual 216, 3) := by decide +kernel
theorem dX4_judge_27 : decode cX4_judge 27 = .ok (.if_icmp .ge 45, 3) := by decide +kernel
theorem dX4_judge_30 : decode cX4_judge 30 = .ok (.aload_n 0, 1) := by decide +kernel
theorem dX4_judge_31 : decode cX4_judge 31 = .ok (.getfield 12, 3) := by decide +kernel
theorem dX4_judge_34 : decode cX4_judge 34 = .ok (.iload_n 3, 1) := by decide +kernel
theorem dX4_judge_35 : decode cX4_judge 35 = .ok (.invokevirtual 85, 3) := by decide +kernel
theorem dX4_judge_38 : decode cX4_judge 38 = .ok (.ifCond .eq 24, 3) := by decide +kernel
theorem dX4_judge_41 : decode cX4_judge 41 = .ok (.aload_n 0, 1) := by decide +kernel
theorem dX4_judge_42 : decode cX4_judge 42 = .ok (.getfield 12, 3) := by decide +kernel
theorem dX4_judge_45 : decode cX4_judge 45 = .ok (.iload_n 3, 1) := by decide +kernel
theorem dX4_judge_46 : decode cX4_judge 46 = .ok (.iconst 1, 1) := by decide +kernel
theorem dX4_judge_47 : decode cX4_judge 47 = .ok (.invokevirtual 95, 3) := by decide +kernel
theorem dX4_judge_50 : decode cX4_judge 50 = .ok (.aload_n 0, 1) := by decide +kernel
theorem dX4_judge_51 : decode cX4_judge 51 = .ok (.getfield 45, 3) := by decide +kernel
theorem dX4_judge_54 : decode cX4_judge 54 = .ok (.iload_n 1, 1) := by decide +kernel
theorem dX4_judge_55 : decode cX4_judge 55 = .ok (.iload_n 3, 1) := by decide +kernel
theorem dX4_judge_56 : decode cX4_judge 56 = .ok (.invokevirtual 238, 3) := by decide +kernel
theorem dX4_judge_59 : decode cX4_judge 59 = .ok (.if_icmp .eq 7, 3) := by decide +kernel
theorem dX4_judge_62 : decode cX4_judge 62 = .ok (.iconst 1, 1) := by decide +kernel
theorem dX4_judge_63 : decode cX4_judge 63 = .ok (.iload_n 3, 1) := by decide +kernel
theorem dX4_judge_64 : decode cX4_judge 64 = .ok (.iadd, 1) := by decide +kernel
theorem dX4_judge_65 : decode cX4_judge 65 = .ok (.ireturn, 1) := by decide +kernel
theorem dX4_judge_66 : decode cX4_judge 66 = .ok (.iinc 3 1, 3) := by decide +kernel
theorem dX4_judge_69 : decode cX4_judge 69 = .ok (.goto (-51), 3) := by decide +kernel
theorem dX4_judge_72 : decode cX4_judge 72 = .ok (.iconst 0, 1) := by decide +kernel
theorem dX4_judge_73 : decode cX4_judge 73 = .ok (.ireturn, 1) := by decide +kernel
theorem dX4_image_0 : decode cX4_image 0 = .ok (.aload_n 0, 1) := by decide +kernel
theorem dX4_image_1 : decode cX4_image 1 = .ok (.getfield 19, 3) := by decide +kernel
theorem dX4_image_4 : decode cX4_image 4 = .ok (.aload_n 0, 1) := by decide +kernel
theorem dX4_image_5 : decode cX4_image 5 = .ok (.getfield 12, 3) := by decide +kernel
theorem dX4_image_8 : decode cX4_image 8 = .ok (.invokevirtual 185, 3) := by decide +kernel
theorem dX4_image_11 : decode cX4_image 11 = .ok (.aload_n 0, 1) := by decide +kernel
theorem dX4_image_12 : decode cX4_image 12 = .ok (.iconst 1, 1) := by decide +kernel
theorem dX4_image_13 : decode cX4_image 13 = .ok (.putfield 22, 3) := by decide +kernel
theorem dX4_image_16 : decode cX4_image 16 = .ok (.iconst 1, 1) := by decide +kernel
theorem dX4_image_17 : decode cX4_image 17 = .ok (.ireturn, 1) := by decide +kernel
theorem dX4_undo_0 : decode cX4_undo 0 = .ok (.aload_n 0, 1) := by decide +kernel
theorem dX4_undo_1 : decode cX4_undo 1 = .ok (.getfield 22, 3) := by decide +kernel
theorem dX4_undo_4 : decode cX4_undo 4 = .ok (.ifCond .ne 10, 3) := by decide +kernel
theorem dX4_undo_7 : decode cX4_undo 7 = .ok (.aload_n 0, 1) := by decide +kernel
theorem dX4_undo_8 : decode cX4_undo 8 = .ok (.ldc 149, 2) := by decide +kernel
theorem dX4_undo_10 : decode cX4_undo 10 = .ok (.invokevirtual 58, 3) := by decide +kernel
theorem dX4_undo_13 : decode cX4_undo 13 = .ok (.ireturn, 1) := by decide +kernel
theorem dX4_undo_14 : decode cX4_undo 14 = .ok (.aload_n 0, 1) := by decide +kernel
theorem dX4_undo_15 : decode cX4_undo 15 = .ok (.getfield 12, 3) := by decide +kernel
theorem dX4_undo_18 : decode cX4_undo 18 = .ok (.aload_n 0, 1) := by decide +kernel
theorem dX4_undo_19 : decode cX4_undo 19 = .ok (.getfield 19, 3) := by decide +kernel
theorem dX4_undo_22 : decode cX4_undo 22 = .ok (.invokevirtual 185, 3) := by decide +kernel
theorem dX4_undo_25 : decode cX4_undo 25 = .ok (.aload_n 0, 1) := by decide +kernel
theorem dX4_undo_26 : decode cX4_undo 26 = .ok (.getfield 12, 3) := by decide +kernel
theorem dX4_undo_29 : decode cX4_undo 29 = .ok (.getfield 112, 3) := by decide +kernel
theorem dX4_undo_32 : decode cX4_undo 32 = .ok (.ireturn, 1) := by decide +kernel
theorem dX4_tear_0 : decode cX4_tear 0 = .ok (.aload_n 0, 1) := by decide +kernel
theorem dX4_tear_1 : decode cX4_tear 1 = .ok (.getfield 22, 3) := by decide +kernel
theorem dX4_tear_4 : decode cX4_tear 4 = .ok (.ifCond .eq 7, 3) := by decide +kernel
theorem dX4_tear_7 : decode cX4_tear 7 = .ok (.iconst 1, 1) := by decide +kernel
theorem dX4_tear_8 : decode cX4_tear 8 = .ok (.goto 4, 3) := by decide +kernel
theorem dX4_tear_11 : decode cX4_tear 11 = .ok (.iconst 0, 1) := by decide +kernel
theorem dX4_tear_12 : decode cX4_tear 12 = .ok (.istore_n 1, 1) := by decide +kernel
theorem dX4_tear_13 : decode cX4_tear 13 = .ok (.aload_n 0, 1) := by decide +kernel
theorem dX4_tear_14 : decode cX4_tear 14 = .ok (.iconst 0, 1) := by decide +kernel
theorem dX4_tear_15 : decode cX4_tear 15 = .ok (.putfield 22, 3) := by decide +kernel
theorem dX4_tear_18 : decode cX4_tear 18 = .ok (.iload_n 1, 1) := by decide +kernel
theorem dX4_tear_19 : decode cX4_tear 19 = .ok (.ireturn, 1) := by decide +kernel
theorem dX4_count_0 : decode cX4_count 0 = .ok (.iload_n 1, 1) := by decide +kernel
theorem dX4_count_1 : decode cX4_count 1 = .ok (.tableswitch 112 0 7 #[47, 55, 63, 71, 80, 88, 96, 104], 47) := by decide +kernel
theorem dX4_count_48 : decode cX4_count 48 = .ok (.aload_n 0, 1) := by decide +kernel
theorem dX4_count_49 : decode cX4_count 49 = .ok (.getfield 12, 3) := by decide +kernel
theorem dX4_count_52 : decode cX4_count 52 = .ok (.getfield 112, 3) := by decide +kernel
theorem dX4_count_55 : decode cX4_count 55 = .ok (.ireturn, 1) := by decide +kernel
theorem dX4_count_56 : decode cX4_count 56 = .ok (.aload_n 0, 1) := by decide +kernel
theorem dX4_count_57 : decode cX4_count 57 = .ok (.getfield 12, 3) := by decide +kernel
theorem dX4_count_60 : decode cX4_count 60 = .ok (.getfield 102, 3) := by decide +kernel
theorem dX4_count_63 : decode cX4_count 63 = .ok (.ireturn, 1) := by decide +kernel
theorem dX4_count_64 : decode cX4_count 64 = .ok (.aload_n 0, 1) := by decide +kernel
theorem dX4_count_65 : decode cX4_count 65 = .ok (.getfield 12, 3) := by decide +kernel
theorem dX4_count_68 : decode cX4_count 68 = .ok (.getfield 62, 3) := by decide +kernel
theorem dX4_count_71 : decode cX4_count 71 = .ok (.ireturn, 1) := by decide +kernel
theorem dX4_count_72 : decode cX4_count 72 = .ok (.aload_n 0, 1) := by decide +kernel
theorem dX4_count_73 : decode cX4_count 73 = .ok (.getfield 12, 3) := by decide +kernel
theorem dX4_count_76 : decode cX4_count 76 = .ok (.iconst (-1), 1) := by decide +kernel
theorem dX4_count_77 : decode cX4_count 77 = .ok (.invokevirtual 129, 3) := by decide +kernel
theorem dX4_count_80 : decode cX4_count 80 = .ok (.ireturn, 1) := by decide +kernel
theorem dX4_count_81 : decode cX4_count 81 = .ok (.aload_n 0, 1) := by decide +kernel
theorem dX4_count_82 : decode cX4_count 82 = .ok (.getfield 12, 3) := by decide +kernel
theorem dX4_count_85 : decode cX4_count 85 = .ok (.getfield 132, 3) := by decide +kernel
theorem dX4_count_88 : decode cX4_count 88 = .ok (.ireturn, 1) := by decide +kernel
theorem dX4_count_89 : decode cX4_count 89 = .ok (.aload_n 0, 1) := by decide +kernel
theorem dX4_count_90 : decode cX4_count 90 = .ok (.getfield 29, 3) := by decide +kernel
theorem dX4_count_93 : decode cX4_count 93 = .ok (.getfield 179, 3) := by decide +kernel
theorem dX4_count_96 : decode cX4_count 96 = .ok (.ireturn, 1) := by decide +kernel
theorem dX4_count_97 : decode cX4_count 97 = .ok (.aload_n 0, 1) := by decide +kernel
theorem dX4_count_98 : decode cX4_count 98 = .ok (.getfield 12, 3) := by decide +kernel
theorem dX4_count_101 : decode cX4_count 101 = .ok (.getfield 176, 3) := by decide +kernel
theorem dX4_count_104 : decode cX4_count 104 = .ok (.ireturn, 1) := by decide +kernel
