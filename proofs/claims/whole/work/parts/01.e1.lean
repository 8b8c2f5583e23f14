theorem dX5_had_15 : decode cX5_had 15 = .ok (.invokevirtual 60, 3) := by decide +kernel
theorem dX5_had_18 : decode cX5_had 18 = .ok (.ireturn, 1) := by decide +kernel
theorem dX5_had_19 : decode cX5_had 19 = .ok (.iconst 0, 1) := by decide +kernel
theorem dX5_had_20 : decode cX5_had 20 = .ok (.istore_n 2, 1) := by decide +kernel
theorem dX5_had_21 : decode cX5_had 21 = .ok (.iload_n 2, 1) := by decide +kernel
theorem dX5_had_22 : decode cX5_had 22 = .ok (.aload_n 0, 1) := by decide +kernel
theorem dX5_had_23 : decode cX5_had 23 = .ok (.getfield 7, 3) := by decide +kernel
theorem dX5_had_26 : decode cX5_had 26 = .ok (.iconst 1, 1) := by decide +kernel
theorem dX5_had_27 : decode cX5_had 27 = .ok (.iaload, 1) := by decide +kernel
theorem dX5_had_28 : decode cX5_had 28 = .ok (.if_icmp .ge 27, 3) := by decide +kernel
theorem dX5_had_31 : decode cX5_had 31 = .ok (.aload_n 0, 1) := by decide +kernel
theorem dX5_had_32 : decode cX5_had 32 = .ok (.aload_n 0, 1) := by decide +kernel
theorem dX5_had_33 : decode cX5_had 33 = .ok (.getfield 7, 3) := by decide +kernel
theorem dX5_had_36 : decode cX5_had 36 = .ok (.iconst 1, 1) := by decide +kernel
theorem dX5_had_37 : decode cX5_had 37 = .ok (.iaload, 1) := by decide +kernel
theorem dX5_had_38 : decode cX5_had 38 = .ok (.iload_n 2, 1) := by decide +kernel
theorem dX5_had_39 : decode cX5_had 39 = .ok (.isub, 1) := by decide +kernel
theorem dX5_had_40 : decode cX5_had 40 = .ok (.iconst 1, 1) := by decide +kernel
theorem dX5_had_41 : decode cX5_had 41 = .ok (.isub, 1) := by decide +kernel
theorem dX5_had_42 : decode cX5_had 42 = .ok (.invokevirtual 92, 3) := by decide +kernel
theorem dX5_had_45 : decode cX5_had 45 = .ok (.iload_n 1, 1) := by decide +kernel
theorem dX5_had_46 : decode cX5_had 46 = .ok (.if_icmp .gt 9, 3) := by decide +kernel
theorem dX5_had_49 : decode cX5_had 49 = .ok (.iinc 2 1, 3) := by decide +kernel
theorem dX5_had_52 : decode cX5_had 52 = .ok (.goto (-31), 3) := by decide +kernel
theorem dX5_had_55 : decode cX5_had 55 = .ok (.iload_n 2, 1) := by decide +kernel
theorem dX5_had_56 : decode cX5_had 56 = .ok (.ireturn, 1) := by decide +kernel
theorem dX5_isSoon_0 : decode cX5_isSoon 0 = .ok (.iload_n 0, 1) := by decide +kernel
theorem dX5_isSoon_1 : decode cX5_isSoon 1 = .ok (.i2l, 1) := by decide +kernel
theorem dX5_isSoon_2 : decode cX5_isSoon 2 = .ok (.lconst 0, 1) := by decide +kernel
theorem dX5_isSoon_3 : decode cX5_isSoon 3 = .ok (.ldc2_w 171, 3) := by decide +kernel
theorem dX5_isSoon_6 : decode cX5_isSoon 6 = .ok (.invokestatic 43, 3) := by decide +kernel
theorem dX5_isSoon_9 : decode cX5_isSoon 9 = .ok (.ireturn, 1) := by decide +kernel
theorem dX5_drawTo_0 : decode cX5_drawTo 0 = .ok (.aload_n 0, 1) := by decide +kernel
theorem dX5_drawTo_1 : decode cX5_drawTo 1 = .ok (.iload_n 1, 1) := by decide +kernel
theorem dX5_drawTo_2 : decode cX5_drawTo 2 = .ok (.invokevirtual 95, 3) := by decide +kernel
theorem dX5_drawTo_5 : decode cX5_drawTo 5 = .ok (.ifCond .eq 17, 3) := by decide +kernel
theorem dX5_drawTo_8 : decode cX5_drawTo 8 = .ok (.iload_n 2, 1) := by decide +kernel
theorem dX5_drawTo_9 : decode cX5_drawTo 9 = .ok (.invokestatic 53, 3) := by decide +kernel
theorem dX5_drawTo_12 : decode cX5_drawTo 12 = .ok (.ifCond .eq 10, 3) := by decide +kernel
theorem dX5_drawTo_15 : decode cX5_drawTo 15 = .ok (.iload_n 3, 1) := by decide +kernel
theorem dX5_drawTo_16 : decode cX5_drawTo 16 = .ok (.invokestatic 173, 3) := by decide +kernel
theorem dX5_drawTo_19 : decode cX5_drawTo 19 = .ok (.ifCond .ne 10, 3) := by decide +kernel
theorem dX5_drawTo_22 : decode cX5_drawTo 22 = .ok (.aload_n 0, 1) := by decide +kernel
theorem dX5_drawTo_23 : decode cX5_drawTo 23 = .ok (.ldc 40, 2) := by decide +kernel
theorem dX5_drawTo_25 : decode cX5_drawTo 25 = .ok (.invokevirtual 60, 3) := by decide +kernel
theorem dX5_drawTo_28 : decode cX5_drawTo 28 = .ok (.ireturn, 1) := by decide +kernel
theorem dX5_drawTo_29 : decode cX5_drawTo 29 = .ok (.aload_n 0, 1) := by decide +kernel
theorem dX5_drawTo_30 : decode cX5_drawTo 30 = .ok (.iload_n 1, 1) := by decide +kernel
theorem dX5_drawTo_31 : decode cX5_drawTo 31 = .ok (.iconst 1, 1) := by decide +kernel
theorem dX5_drawTo_32 : decode cX5_drawTo 32 = .ok (.invokevirtual 73, 3) := by decide +kernel
theorem dX5_drawTo_35 : decode cX5_drawTo 35 = .ok (.istore 4, 2) := by decide +kernel
theorem dX5_drawTo_37 : decode cX5_drawTo 37 = .ok (.iconst 0, 1) := by decide +kernel
theorem dX5_drawTo_38 : decode cX5_drawTo 38 = .ok (.istore 5, 2) := by decide +kernel
theorem dX5_drawTo_40 : decode cX5_drawTo 40 = .ok (.bipush 12, 2) := by decide +kernel
theorem dX5_drawTo_42 : decode cX5_drawTo 42 = .ok (.istore 6, 2) := by decide +kernel
theorem dX5_drawTo_44 : decode cX5_drawTo 44 = .ok (.iconst 0, 1) := by decide +kernel
theorem dX5_drawTo_45 : decode cX5_drawTo 45 = .ok (.istore 7, 2) := by decide +kernel
theorem dX5_drawTo_47 : decode cX5_drawTo 47 = .ok (.iload 7, 2) := by decide +kernel
theorem dX5_drawTo_49 : decode cX5_drawTo 49 = .ok (.bipush 12, 2) := by decide +kernel
theorem dX5_drawTo_51 : decode cX5_drawTo 51 = .ok (.if_icmp .ge 65, 3) := by decide +kernel
theorem dX5_drawTo_54 : decode cX5_drawTo 54 = .ok (.aload_n 0, 1) := by decide +kernel
theorem dX5_drawTo_55 : decode cX5_drawTo 55 = .ok (.getfield 7, 3) := by decide +kernel
theorem dX5_drawTo_58 : decode cX5_drawTo 58 = .ok (.iload_n 1, 1) := by decide +kernel
theorem dX5_drawTo_59 : decode cX5_drawTo 59 = .ok (.iconst 1, 1) := by decide +kernel
theorem dX5_drawTo_60 : decode cX5_drawTo 60 = .ok (.invokestatic 49, 3) := by decide +kernel
theorem dX5_drawTo_63 : decode cX5_drawTo 63 = .ok (.iload 7, 2) := by decide +kernel
theorem dX5_drawTo_65 : decode cX5_drawTo 65 = .ok (.iastore, 1) := by decide +kernel
theorem dX5_drawTo_66 : decode cX5_drawTo 66 = .ok (.aload_n 0, 1) := by decide +kernel
theorem dX5_drawTo_67 : decode cX5_drawTo 67 = .ok (.iconst 2, 1) := by decide +kernel
theorem dX5_drawTo_68 : decode cX5_drawTo 68 = .ok (.iload_n 3, 1) := by decide +kernel
theorem dX5_drawTo_69 : decode cX5_drawTo 69 = .ok (.invokevirtual 159, 3) := by decide +kernel
theorem dX5_drawTo_72 : decode cX5_drawTo 72 = .ok (.iload_n 2, 1) := by decide +kernel
theorem dX5_drawTo_73 : decode cX5_drawTo 73 = .ok (.invokestatic 79, 3) := by decide +kernel
theorem dX5_drawTo_76 : decode cX5_drawTo 76 = .ok (.istore 8, 2) := by decide +kernel
theorem dX5_drawTo_78 : decode cX5_drawTo 78 = .ok (.iload 8, 2) := by decide +kernel
theorem dX5_drawTo_80 : decode cX5_drawTo 80 = .ok (.iload 6, 2) := by decide +kernel
theorem dX5_drawTo_82 : decode cX5_drawTo 82 = .ok (.if_icmp .ge 8, 3) := by decide +kernel
theorem dX5_drawTo_85 : decode cX5_drawTo 85 = .ok (.iload 7, 2) := by decide +kernel
theorem dX5_drawTo_87 : decode cX5_drawTo 87 = .ok (.goto 5, 3) := by decide +kernel
theorem dX5_drawTo_90 : decode cX5_drawTo 90 = .ok (.iload 5, 2) := by decide +kernel
theorem dX5_drawTo_92 : decode cX5_drawTo 92 = .ok (.istore 5, 2) := by decide +kernel
theorem dX5_drawTo_94 : decode cX5_drawTo 94 = .ok (.iload 8, 2) := by decide +kernel
theorem dX5_drawTo_96 : decode cX5_drawTo 96 = .ok (.iload 6, 2) := by decide +kernel
theorem dX5_drawTo_98 : decode cX5_drawTo 98 = .ok (.if_icmp .ge 8, 3) := by decide +kernel
theorem dX5_drawTo_101 : decode cX5_drawTo 101 = .ok (.iload 8, 2) := by decide +kernel
theorem dX5_drawTo_103 : decode cX5_drawTo 103 = .ok (.goto 5, 3) := by decide +kernel
theorem dX5_drawTo_106 : decode cX5_drawTo 106 = .ok (.iload 6, 2) := by decide +kernel
theorem dX5_drawTo_108 : decode cX5_drawTo 108 = .ok (.istore 6, 2) := by decide +kernel
theorem dX5_drawTo_110 : decode cX5_drawTo 110 = .ok (.iinc 7 1, 3) := by decide +kernel
theorem dX5_drawTo_113 : decode cX5_drawTo 113 = .ok (.goto (-66), 3) := by decide +kernel
theorem dX5_drawTo_116 : decode cX5_drawTo 116 = .ok (.aload_n 0, 1) := by decide +kernel
theorem dX5_drawTo_117 : decode cX5_drawTo 117 = .ok (.getfield 7, 3) := by decide +kernel
theorem dX5_drawTo_120 : decode cX5_drawTo 120 = .ok (.iload_n 1, 1) := by decide +kernel
theorem dX5_drawTo_121 : decode cX5_drawTo 121 = .ok (.iconst 1, 1) := by decide +kernel
theorem dX5_drawTo_122 : decode cX5_drawTo 122 = .ok (.invokestatic 49, 3) := by decide +kernel
theorem dX5_drawTo_125 : decode cX5_drawTo 125 = .ok (.iload 4, 2) := by decide +kernel
theorem dX5_drawTo_127 : decode cX5_drawTo 127 = .ok (.iastore, 1) := by decide +kernel
theorem dX5_drawTo_128 : decode cX5_drawTo 128 = .ok (.iload 5, 2) := by decide +kernel
theorem dX5_drawTo_130 : decode cX5_drawTo 130 = .ok (.ireturn, 1) := by decide +kernel
theorem dX5_longFor_0 : decode cX5_longFor 0 = .ok (.aload_n 0, 1) := by decide +kernel
theorem dX5_longFor_1 : decode cX5_longFor 1 = .ok (.iload_n 1, 1) := by decide +kernel
theorem dX5_longFor_2 : decode cX5_longFor 2 = .ok (.invokevirtual 95, 3) := by decide +kernel
theorem dX5_longFor_5 : decode cX5_longFor 5 = .ok (.ifCond .eq 17, 3) := by decide +kernel
theorem dX5_longFor_8 : decode cX5_longFor 8 = .ok (.iload_n 2, 1) := by decide +kernel
theorem dX5_longFor_9 : decode cX5_longFor 9 = .ok (.invokestatic 53, 3) := by decide +kernel
theorem dX5_longFor_12 : decode cX5_longFor 12 = .ok (.ifCond .eq 10, 3) := by decide +kernel
theorem dX5_longFor_15 : decode cX5_longFor 15 = .ok (.iload_n 3, 1) := by decide +kernel
theorem dX5_longFor_16 : decode cX5_longFor 16 = .ok (.invokestatic 173, 3) := by decide +kernel
theorem dX5_longFor_19 : decode cX5_longFor 19 = .ok (.ifCond .ne 10, 3) := by decide +kernel
theorem dX5_longFor_22 : decode cX5_longFor 22 = .ok (.aload_n 0, 1) := by decide +kernel
theorem dX5_longFor_23 : decode cX5_longFor 23 = .ok (.ldc 40, 2) := by decide +kernel
theorem dX5_longFor_25 : decode cX5_longFor 25 = .ok (.invokevirtual 60, 3) := by decide +kernel
theorem dX5_longFor_28 : decode cX5_longFor 28 = .ok (.ireturn, 1) := by decide +kernel
theorem dX5_longFor_29 : decode cX5_longFor 29 = .ok (.aload_n 0, 1) := by decide +kernel
theorem dX5_longFor_30 : decode cX5_longFor 30 = .ok (.iload_n 1, 1) := by decide +kernel
theorem dX5_longFor_31 : decode cX5_longFor 31 = .ok (.iconst 2, 1) := by decide +kernel
theorem dX5_longFor_32 : decode cX5_longFor 32 = .ok (.invokevirtual 73, 3) := by decide +kernel
theorem dX5_longFor_35 : decode cX5_longFor 35 = .ok (.istore 4, 2) := by decide +kernel
theorem dX5_longFor_37 : decode cX5_longFor 37 = .ok (.iconst (-1), 1) := by decide +kernel
theorem dX5_longFor_38 : decode cX5_longFor 38 = .ok (.istore 5, 2) := by decide +kernel
theorem dX5_longFor_40 : decode cX5_longFor 40 = .ok (.iconst 1, 1) := by decide +kernel
theorem dX5_longFor_41 : decode cX5_longFor 41 = .ok (.istore 6, 2) := by decide +kernel
theorem dX5_longFor_43 : decode cX5_longFor 43 = .ok (.iload 6, 2) := by decide +kernel
theorem dX5_longFor_45 : decode cX5_longFor 45 = .ok (.bipush 99, 2) := by decide +kernel
theorem dX5_longFor_47 : decode cX5_longFor 47 = .ok (.if_icmp .gt 44, 3) := by decide +kernel
theorem dX5_longFor_50 : decode cX5_longFor 50 = .ok (.iload 5, 2) := by decide +kernel
theorem dX5_longFor_52 : decode cX5_longFor 52 = .ok (.ifCond .ge 39, 3) := by decide +kernel
theorem dX5_longFor_55 : decode cX5_longFor 55 = .ok (.aload_n 0, 1) := by decide +kernel
theorem dX5_longFor_56 : decode cX5_longFor 56 = .ok (.getfield 7, 3) := by decide +kernel
theorem dX5_longFor_59 : decode cX5_longFor 59 = .ok (.iload_n 1, 1) := by decide +kernel
theorem dX5_longFor_60 : decode cX5_longFor 60 = .ok (.iconst 2, 1) := by decide +kernel
theorem dX5_longFor_61 : decode cX5_longFor 61 = .ok (.invokestatic 49, 3) := by decide +kernel
theorem dX5_longFor_64 : decode cX5_longFor 64 = .ok (.iload 6, 2) := by decide +kernel
theorem dX5_longFor_66 : decode cX5_longFor 66 = .ok (.iastore, 1) := by decide +kernel
theorem dX5_longFor_67 : decode cX5_longFor 67 = .ok (.aload_n 0, 1) := by decide +kernel
theorem dX5_longFor_68 : decode cX5_longFor 68 = .ok (.iconst 2, 1) := by decide +kernel
theorem dX5_longFor_69 : decode cX5_longFor 69 = .ok (.iload_n 3, 1) := by decide +kernel
theorem dX5_longFor_70 : decode cX5_longFor 70 = .ok (.invokevirtual 159, 3) := by decide +kernel
theorem dX5_longFor_73 : decode cX5_longFor 73 = .ok (.iload_n 2, 1) := by decide +kernel
theorem dX5_longFor_74 : decode cX5_longFor 74 = .ok (.if_icmp .ne 8, 3) := by decide +kernel
theorem dX5_longFor_77 : decode cX5_longFor 77 = .ok (.iload 6, 2) := by decide +kernel
theorem dX5_longFor_79 : decode cX5_longFor 79 = .ok (.goto 4, 3) := by decide +kernel
theorem dX5_longFor_82 : decode cX5_longFor 82 = .ok (.iconst (-1), 1) := by decide +kernel
theorem dX5_longFor_83 : decode cX5_longFor 83 = .ok (.istore 5, 2) := by decide +kernel
theorem dX5_longFor_85 : decode cX5_longFor 85 = .ok (.iinc 6 1, 3) := by decide +kernel
theorem dX5_longFor_88 : decode cX5_longFor 88 = .ok (.goto (-45), 3) := by decide +kernel
theorem dX5_longFor_91 : decode cX5_longFor 91 = .ok (.aload_n 0, 1) := by decide +kernel
theorem dX5_longFor_92 : decode cX5_longFor 92 = .ok (.getfield 7, 3) := by decide +kernel
theorem dX5_longFor_95 : decode cX5_longFor 95 = .ok (.iload_n 1, 1) := by decide +kernel
theorem dX5_longFor_96 : decode cX5_longFor 96 = .ok (.iconst 2, 1) := by decide +kernel
theorem dX5_longFor_97 : decode cX5_longFor 97 = .ok (.invokestatic 49, 3) := by decide +kernel
theorem dX5_longFor_100 : decode cX5_longFor 100 = .ok (.iload 4, 2) := by decide +kernel
theorem dX5_longFor_102 : decode cX5_longFor 102 = .ok (.iastore, 1) := by decide +kernel
theorem dX5_longFor_103 : decode cX5_longFor 103 = .ok (.iload 5, 2) := by decide +kernel
theorem dX5_longFor_105 : decode cX5_longFor 105 = .ok (.ifCond .ge 12, 3) := by decide +kernel
theorem dX5_longFor_108 : decode cX5_longFor 108 = .ok (.aload_n 0, 1) := by decide +kernel
theorem dX5_longFor_109 : decode cX5_longFor 109 = .ok (.ldc 162, 2) := by decide +kernel
theorem dX5_longFor_111 : decode cX5_longFor 111 = .ok (.invokevirtual 60, 3) := by decide +kernel
theorem dX5_longFor_114 : decode cX5_longFor 114 = .ok (.goto 5, 3) := by decide +kernel
theorem dX5_longFor_117 : decode cX5_longFor 117 = .ok (.iload 5, 2) := by decide +kernel
theorem dX5_longFor_119 : decode cX5_longFor 119 = .ok (.ireturn, 1) := by decide +kernel
theorem dX5_kindFor_0 : decode cX5_kindFor 0 = .ok (.aload_n 0, 1) := by decide +kernel
theorem dX5_kindFor_1 : decode cX5_kindFor 1 = .ok (.iload_n 1, 1) := by decide +kernel
theorem dX5_kindFor_2 : decode cX5_kindFor 2 = .ok (.invokevirtual 95, 3) := by decide +kernel
theorem dX5_kindFor_5 : decode cX5_kindFor 5 = .ok (.ifCond .eq 10, 3) := by decide +kernel
theorem dX5_kindFor_8 : decode cX5_kindFor 8 = .ok (.iload_n 2, 1) := by decide +kernel
theorem dX5_kindFor_9 : decode cX5_kindFor 9 = .ok (.invokestatic 173, 3) := by decide +kernel
theorem dX5_kindFor_12 : decode cX5_kindFor 12 = .ok (.ifCond .ne 10, 3) := by decide +kernel
theorem dX5_kindFor_15 : decode cX5_kindFor 15 = .ok (.aload_n 0, 1) := by decide +kernel
theorem dX5_kindFor_16 : decode cX5_kindFor 16 = .ok (.ldc 40, 2) := by decide +kernel
theorem dX5_kindFor_18 : decode cX5_kindFor 18 = .ok (.invokevirtual 60, 3) := by decide +kernel
theorem dX5_kindFor_21 : decode cX5_kindFor 21 = .ok (.ireturn, 1) := by decide +kernel
theorem dX5_kindFor_22 : decode cX5_kindFor 22 = .ok (.aload_n 0, 1) := by decide +kernel
theorem dX5_kindFor_23 : decode cX5_kindFor 23 = .ok (.iload_n 1, 1) := by decide +kernel
theorem dX5_kindFor_24 : decode cX5_kindFor 24 = .ok (.iconst 0, 1) := by decide +kernel
theorem dX5_kindFor_25 : decode cX5_kindFor 25 = .ok (.invokevirtual 73, 3) := by decide +kernel
theorem dX5_kindFor_28 : decode cX5_kindFor 28 = .ok (.istore_n 3, 1) := by decide +kernel
theorem dX5_kindFor_29 : decode cX5_kindFor 29 = .ok (.iconst 0, 1) := by decide +kernel
theorem dX5_kindFor_30 : decode cX5_kindFor 30 = .ok (.istore 4, 2) := by decide +kernel
theorem dX5_kindFor_32 : decode cX5_kindFor 32 = .ok (.iconst (-1), 1) := by decide +kernel
theorem dX5_kindFor_33 : decode cX5_kindFor 33 = .ok (.istore 5, 2) := by decide +kernel
theorem dX5_kindFor_35 : decode cX5_kindFor 35 = .ok (.iconst 0, 1) := by decide +kernel
theorem dX5_kindFor_36 : decode cX5_kindFor 36 = .ok (.istore 6, 2) := by decide +kernel
theorem dX5_kindFor_38 : decode cX5_kindFor 38 = .ok (.iload 6, 2) := by decide +kernel
theorem dX5_kindFor_40 : decode cX5_kindFor 40 = .ok (.bipush 6, 2) := by decide +kernel
theorem dX5_kindFor_42 : decode cX5_kindFor 42 = .ok (.if_icmp .gt 65, 3) := by decide +kernel
theorem dX5_kindFor_45 : decode cX5_kindFor 45 = .ok (.aload_n 0, 1) := by decide +kernel
theorem dX5_kindFor_46 : decode cX5_kindFor 46 = .ok (.getfield 7, 3) := by decide +kernel
theorem dX5_kindFor_49 : decode cX5_kindFor 49 = .ok (.iload_n 1, 1) := by decide +kernel
theorem dX5_kindFor_50 : decode cX5_kindFor 50 = .ok (.iconst 0, 1) := by decide +kernel
theorem dX5_kindFor_51 : decode cX5_kindFor 51 = .ok (.invokestatic 49, 3) := by decide +kernel
theorem dX5_kindFor_54 : decode cX5_kindFor 54 = .ok (.iload 6, 2) := by decide +kernel
theorem dX5_kindFor_56 : decode cX5_kindFor 56 = .ok (.iastore, 1) := by decide +kernel
theorem dX5_kindFor_57 : decode cX5_kindFor 57 = .ok (.aload_n 0, 1) := by decide +kernel
theorem dX5_kindFor_58 : decode cX5_kindFor 58 = .ok (.iload_n 1, 1) := by decide +kernel
theorem dX5_kindFor_59 : decode cX5_kindFor 59 = .ok (.iconst 5, 1) := by decide +kernel
theorem dX5_kindFor_60 : decode cX5_kindFor 60 = .ok (.invokestatic 49, 3) := by decide +kernel
theorem dX5_kindFor_63 : decode cX5_kindFor 63 = .ok (.iload_n 2, 1) := by decide +kernel
theorem dX5_kindFor_64 : decode cX5_kindFor 64 = .ok (.invokevirtual 159, 3) := by decide +kernel
theorem dX5_kindFor_67 : decode cX5_kindFor 67 = .ok (.istore 7, 2) := by decide +kernel
theorem dX5_kindFor_69 : decode cX5_kindFor 69 = .ok (.iload 7, 2) := by decide +kernel
theorem dX5_kindFor_71 : decode cX5_kindFor 71 = .ok (.iload 5, 2) := by decide +kernel
theorem dX5_kindFor_73 : decode cX5_kindFor 73 = .ok (.if_icmp .le 8, 3) := by decide +kernel
theorem dX5_kindFor_76 : decode cX5_kindFor 76 = .ok (.iload 6, 2) := by decide +kernel
theorem dX5_kindFor_78 : decode cX5_kindFor 78 = .ok (.goto 5, 3) := by decide +kernel
theorem dX5_kindFor_81 : decode cX5_kindFor 81 = .ok (.iload 4, 2) := by decide +kernel
theorem dX5_kindFor_83 : decode cX5_kindFor 83 = .ok (.istore 4, 2) := by decide +kernel
theorem dX5_kindFor_85 : decode cX5_kindFor 85 = .ok (.iload 7, 2) := by decide +kernel
theorem dX5_kindFor_87 : decode cX5_kindFor 87 = .ok (.iload 5, 2) := by decide +kernel
theorem dX5_kindFor_89 : decode cX5_kindFor 89 = .ok (.if_icmp .le 8, 3) := by decide +kernel
theorem dX5_kindFor_92 : decode cX5_kindFor 92 = .ok (.iload 7, 2) := by decide +kernel
theorem dX5_kindFor_94 : decode cX5_kindFor 94 = .ok (.goto 5, 3) := by decide +kernel
theorem dX5_kindFor_97 : decode cX5_kindFor 97 = .ok (.iload 5, 2) := by decide +kernel
theorem dX5_kindFor_99 : decode cX5_kindFor 99 = .ok (.istore 5, 2) := by decide +kernel
theorem dX5_kindFor_101 : decode cX5_kindFor 101 = .ok (.iinc 6 1, 3) := by decide +kernel
theorem dX5_kindFor_104 : decode cX5_kindFor 104 = .ok (.goto (-66), 3) := by decide +kernel
theorem dX5_kindFor_107 : decode cX5_kindFor 107 = .ok (.aload_n 0, 1) := by decide +kernel
theorem dX5_kindFor_108 : decode cX5_kindFor 108 = .ok (.getfield 7, 3) := by decide +kernel
theorem dX5_kindFor_111 : decode cX5_kindFor 111 = .ok (.iload_n 1, 1) := by decide +kernel
theorem dX5_kindFor_112 : decode cX5_kindFor 112 = .ok (.iconst 0, 1) := by decide +kernel
theorem dX5_kindFor_113 : decode cX5_kindFor 113 = .ok (.invokestatic 49, 3) := by decide +kernel
theorem dX5_kindFor_116 : decode cX5_kindFor 116 = .ok (.iload_n 3, 1) := by decide +kernel
theorem dX5_kindFor_117 : decode cX5_kindFor 117 = .ok (.iastore, 1) := by decide +kernel
theorem dX5_kindFor_118 : decode cX5_kindFor 118 = .ok (.iload 4, 2) := by decide +kernel
theorem dX5_kindFor_120 : decode cX5_kindFor 120 = .ok (.ireturn, 1) := by decide +kernel
theorem dX5_dragFor_0 : decode cX5_dragFor 0 = .ok (.iload_n 1, 1) := by decide +kernel
theorem dX5_dragFor_1 : decode cX5_dragFor 1 = .ok (.invokestatic 53, 3) := by decide +kernel
theorem dX5_dragFor_4 : decode cX5_dragFor 4 = .ok (.ifCond .eq 10, 3) := by decide +kernel
theorem dX5_dragFor_7 : decode cX5_dragFor 7 = .ok (.iload_n 2, 1) := by decide +kernel
theorem dX5_dragFor_8 : decode cX5_dragFor 8 = .ok (.invokestatic 173, 3) := by decide +kernel
theorem dX5_dragFor_11 : decode cX5_dragFor 11 = .ok (.ifCond .ne 10, 3) := by decide +kernel
theorem dX5_dragFor_14 : decode cX5_dragFor 14 = .ok (.aload_n 0, 1) := by decide +kernel
theorem dX5_dragFor_15 : decode cX5_dragFor 15 = .ok (.ldc 40, 2) := by decide +kernel
theorem dX5_dragFor_17 : decode cX5_dragFor 17 = .ok (.invokevirtual 60, 3) := by decide +kernel
theorem dX5_dragFor_20 : decode cX5_dragFor 20 = .ok (.ireturn, 1) := by decide +kernel
theorem dX5_dragFor_21 : decode cX5_dragFor 21 = .ok (.aload_n 0, 1) := by decide +kernel
theorem dX5_dragFor_22 : decode cX5_dragFor 22 = .ok (.getfield 7, 3) := by decide +kernel
theorem dX5_dragFor_25 : decode cX5_dragFor 25 = .ok (.iconst 3, 1) := by decide +kernel
theorem dX5_dragFor_26 : decode cX5_dragFor 26 = .ok (.iaload, 1) := by decide +kernel
theorem dX5_dragFor_27 : decode cX5_dragFor 27 = .ok (.istore_n 3, 1) := by decide +kernel
theorem dX5_dragFor_28 : decode cX5_dragFor 28 = .ok (.iconst (-1), 1) := by decide +kernel
theorem dX5_dragFor_29 : decode cX5_dragFor 29 = .ok (.istore 4, 2) := by decide +kernel
theorem dX5_dragFor_31 : decode cX5_dragFor 31 = .ok (.bipush 99, 2) := by decide +kernel
theorem dX5_dragFor_33 : decode cX5_dragFor 33 = .ok (.istore 5, 2) := by decide +kernel
theorem dX5_dragFor_35 : decode cX5_dragFor 35 = .ok (.iload 5, 2) := by decide +kernel
theorem dX5_dragFor_37 : decode cX5_dragFor 37 = .ok (.ifCond .lt 40, 3) := by decide +kernel
theorem dX5_dragFor_40 : decode cX5_dragFor 40 = .ok (.iload 4, 2) := by decide +kernel
theorem dX5_dragFor_42 : decode cX5_dragFor 42 = .ok (.ifCond .ge 35, 3) := by decide +kernel
theorem dX5_dragFor_45 : decode cX5_dragFor 45 = .ok (.aload_n 0, 1) := by decide +kernel
theorem dX5_dragFor_46 : decode cX5_dragFor 46 = .ok (.getfield 7, 3) := by decide +kernel
theorem dX5_dragFor_49 : decode cX5_dragFor 49 = .ok (.iconst 3, 1) := by decide +kernel
theorem dX5_dragFor_50 : decode cX5_dragFor 50 = .ok (.iload 5, 2) := by decide +kernel
theorem dX5_dragFor_52 : decode cX5_dragFor 52 = .ok (.iastore, 1) := by decide +kernel
theorem dX5_dragFor_53 : decode cX5_dragFor 53 = .ok (.aload_n 0, 1) := by decide +kernel
theorem dX5_dragFor_54 : decode cX5_dragFor 54 = .ok (.iconst 2, 1) := by decide +kernel
theorem dX5_dragFor_55 : decode cX5_dragFor 55 = .ok (.iload_n 2, 1) := by decide +kernel
theorem dX5_dragFor_56 : decode cX5_dragFor 56 = .ok (.invokevirtual 159, 3) := by decide +kernel
theorem dX5_dragFor_59 : decode cX5_dragFor 59 = .ok (.iload_n 1, 1) := by decide +kernel
theorem dX5_dragFor_60 : decode cX5_dragFor 60 = .ok (.if_icmp .ne 8, 3) := by decide +kernel
theorem dX5_dragFor_63 : decode cX5_dragFor 63 = .ok (.iload 5, 2) := by decide +kernel
theorem dX5_dragFor_65 : decode cX5_dragFor 65 = .ok (.goto 4, 3) := by decide +kernel
theorem dX5_dragFor_68 : decode cX5_dragFor 68 = .ok (.iconst (-1), 1) := by decide +kernel
theorem dX5_dragFor_69 : decode cX5_dragFor 69 = .ok (.istore 4, 2) := by decide +kernel
theorem dX5_dragFor_71 : decode cX5_dragFor 71 = .ok (.iinc 5 (-1), 3) := by decide +kernel
theorem dX5_dragFor_74 : decode cX5_dragFor 74 = .ok (.goto (-39), 3) := by decide +kernel
theorem dX5_dragFor_77 : decode cX5_dragFor 77 = .ok (.aload_n 0, 1) := by decide +kernel
theorem dX5_dragFor_78 : decode cX5_dragFor 78 = .ok (.getfield 7, 3) := by decide +kernel
theorem dX5_dragFor_81 : decode cX5_dragFor 81 = .ok (.iconst 3, 1) := by decide +kernel
theorem dX5_dragFor_82 : decode cX5_dragFor 82 = .ok (.iload_n 3, 1) := by decide +kernel
theorem dX5_dragFor_83 : decode cX5_dragFor 83 = .ok (.iastore, 1) := by decide +kernel
theorem dX5_dragFor_84 : decode cX5_dragFor 84 = .ok (.iload 4, 2) := by decide +kernel
theorem dX5_dragFor_86 : decode cX5_dragFor 86 = .ok (.ifCond .ge 12, 3) := by decide +kernel
theorem dX5_dragFor_89 : decode cX5_dragFor 89 = .ok (.aload_n 0, 1) := by decide +kernel
theorem dX5_dragFor_90 : decode cX5_dragFor 90 = .ok (.ldc 162, 2) := by decide +kernel
theorem dX5_dragFor_92 : decode cX5_dragFor 92 = .ok (.invokevirtual 60, 3) := by decide +kernel
theorem dX5_dragFor_95 : decode cX5_dragFor 95 = .ok (.goto 5, 3) := by decide +kernel
theorem dX5_dragFor_98 : decode cX5_dragFor 98 = .ok (.iload 4, 2) := by decide +kernel
theorem dX5_dragFor_100 : decode cX5_dragFor 100 = .ok (.ireturn, 1) := by decide +kernel
theorem dX5_loosen_0 : decode cX5_loosen 0 = .ok (.iload_n 1, 1) := by decide +kernel
theorem dX5_loosen_1 : decode cX5_loosen 1 = .ok (.invokestatic 53, 3) := by decide +kernel
theorem dX5_loosen_4 : decode cX5_loosen 4 = .ok (.ifCond .eq 15, 3) := by decide +kernel
theorem dX5_loosen_7 : decode cX5_loosen 7 = .ok (.iload_n 2, 1) := by decide +kernel
theorem dX5_loosen_8 : decode cX5_loosen 8 = .ok (.i2l, 1) := by decide +kernel
theorem dX5_loosen_9 : decode cX5_loosen 9 = .ok (.lconst 0, 1) := by decide +kernel
theorem dX5_loosen_10 : decode cX5_loosen 10 = .ok (.ldc2_w 176, 3) := by decide +kernel
theorem dX5_loosen_13 : decode cX5_loosen 13 = .ok (.invokestatic 43, 3) := by decide +kernel
theorem dX5_loosen_16 : decode cX5_loosen 16 = .ok (.ifCond .ne 10, 3) := by decide +kernel
theorem dX5_loosen_19 : decode cX5_loosen 19 = .ok (.aload_n 0, 1) := by decide +kernel
theorem dX5_loosen_20 : decode cX5_loosen 20 = .ok (.ldc 40, 2) := by decide +kernel
theorem dX5_loosen_22 : decode cX5_loosen 22 = .ok (.invokevirtual 60, 3) := by decide +kernel
theorem dX5_loosen_25 : decode cX5_loosen 25 = .ok (.ireturn, 1) := by decide +kernel
theorem dX5_loosen_26 : decode cX5_loosen 26 = .ok (.iconst (-1), 1) := by decide +kernel
theorem dX5_loosen_27 : decode cX5_loosen 27 = .ok (.istore_n 3, 1) := by decide +kernel
theorem dX5_loosen_28 : decode cX5_loosen 28 = .ok (.iconst 0, 1) := by decide +kernel
theorem dX5_loosen_29 : decode cX5_loosen 29 = .ok (.istore 4, 2) := by decide +kernel
theorem dX5_loosen_31 : decode cX5_loosen 31 = .ok (.iload 4, 2) := by decide +kernel
theorem dX5_loosen_33 : decode cX5_loosen 33 = .ok (.iconst 1, 1) := by decide +kernel
theorem dX5_loosen_34 : decode cX5_loosen 34 = .ok (.aload_n 0, 1) := by decide +kernel
theorem dX5_loosen_35 : decode cX5_loosen 35 = .ok (.getfield 7, 3) := by decide +kernel
theorem dX5_loosen_38 : decode cX5_loosen 38 = .ok (.iconst 1, 1) := by decide +kernel
theorem dX5_loosen_39 : decode cX5_loosen 39 = .ok (.iaload, 1) := by decide +kernel
theorem dX5_loosen_40 : decode cX5_loosen 40 = .ok (.ishl, 1) := by decide +kernel
theorem dX5_loosen_41 : decode cX5_loosen 41 = .ok (.if_icmp .ge 48, 3) := by decide +kernel
theorem dX5_loosen_44 : decode cX5_loosen 44 = .ok (.iload_n 3, 1) := by decide +kernel
theorem dX5_loosen_45 : decode cX5_loosen 45 = .ok (.ifCond .lt 15, 3) := by decide +kernel
theorem dX5_loosen_48 : decode cX5_loosen 48 = .ok (.iload 4, 2) := by decide +kernel
theorem dX5_loosen_50 : decode cX5_loosen 50 = .ok (.invokestatic 178, 3) := by decide +kernel
theorem dX5_loosen_53 : decode cX5_loosen 53 = .ok (.iload_n 3, 1) := by decide +kernel
theorem dX5_loosen_54 : decode cX5_loosen 54 = .ok (.invokestatic 178, 3) := by decide +kernel
theorem dX5_loosen_57 : decode cX5_loosen 57 = .ok (.if_icmp .ge 26, 3) := by decide +kernel
theorem dX5_loosen_60 : decode cX5_loosen 60 = .ok (.aload_n 0, 1) := by decide +kernel
theorem dX5_loosen_61 : decode cX5_loosen 61 = .ok (.iload 4, 2) := by decide +kernel
theorem dX5_loosen_63 : decode cX5_loosen 63 = .ok (.putfield 85, 3) := by decide +kernel
theorem dX5_loosen_66 : decode cX5_loosen 66 = .ok (.aload_n 0, 1) := by decide +kernel
theorem dX5_loosen_67 : decode cX5_loosen 67 = .ok (.iconst 2, 1) := by decide +kernel
theorem dX5_loosen_68 : decode cX5_loosen 68 = .ok (.iload_n 2, 1) := by decide +kernel
theorem dX5_loosen_69 : decode cX5_loosen 69 = .ok (.invokevirtual 159, 3) := by decide +kernel
theorem dX5_loosen_72 : decode cX5_loosen 72 = .ok (.iload_n 1, 1) := by decide +kernel
theorem dX5_loosen_73 : decode cX5_loosen 73 = .ok (.if_icmp .ne 8, 3) := by decide +kernel
theorem dX5_loosen_76 : decode cX5_loosen 76 = .ok (.iload 4, 2) := by decide +kernel
theorem dX5_loosen_78 : decode cX5_loosen 78 = .ok (.goto 4, 3) := by decide +kernel
theorem dX5_loosen_81 : decode cX5_loosen 81 = .ok (.iload_n 3, 1) := by decide +kernel
theorem dX5_loosen_82 : decode cX5_loosen 82 = .ok (.istore_n 3, 1) := by decide +kernel
theorem dX5_loosen_83 : decode cX5_loosen 83 = .ok (.iinc 4 1, 3) := by decide +kernel
theorem dX5_loosen_86 : decode cX5_loosen 86 = .ok (.goto (-55), 3) := by decide +kernel
theorem dX5_loosen_89 : decode cX5_loosen 89 = .ok (.aload_n 0, 1) := by decide +kernel
theorem dX5_loosen_90 : decode cX5_loosen 90 = .ok (.iconst 0, 1) := by decide +kernel
theorem dX5_loosen_91 : decode cX5_loosen 91 = .ok (.putfield 85, 3) := by decide +kernel
theorem dX5_loosen_94 : decode cX5_loosen 94 = .ok (.iload_n 3, 1) := by decide +kernel
theorem dX5_loosen_95 : decode cX5_loosen 95 = .ok (.ifCond .ge 12, 3) := by decide +kernel
theorem dX5_loosen_98 : decode cX5_loosen 98 = .ok (.aload_n 0, 1) := by decide +kernel
theorem dX5_loosen_99 : decode cX5_loosen 99 = .ok (.ldc 162, 2) := by decide +kernel
theorem dX5_loosen_101 : decode cX5_loosen 101 = .ok (.invokevirtual 60, 3) := by decide +kernel
theorem dX5_loosen_104 : decode cX5_loosen 104 = .ok (.goto 4, 3) := by decide +kernel
theorem dX5_loosen_107 : decode cX5_loosen 107 = .ok (.iload_n 3, 1) := by decide +kernel
theorem dX5_loosen_108 : decode cX5_loosen 108 = .ok (.ireturn, 1) := by decide +kernel
theorem dX5_isTold_0 : decode cX5_isTold 0 = .ok (.iconst 1, 1) := by decide +kernel
theorem dX5_isTold_1 : decode cX5_isTold 1 = .ok (.istore_n 2, 1) := by decide +kernel
theorem dX5_isTold_2 : decode cX5_isTold 2 = .ok (.aload_n 0, 1) := by decide +kernel
theorem dX5_isTold_3 : decode cX5_isTold 3 = .ok (.invokevirtual 153, 3) := by decide +kernel
theorem dX5_isTold_6 : decode cX5_isTold 6 = .ok (.iconst 0, 1) := by decide +kernel
theorem dX5_isTold_7 : decode cX5_isTold 7 = .ok (.istore_n 3, 1) := by decide +kernel
theorem dX5_isTold_8 : decode cX5_isTold 8 = .ok (.iload_n 3, 1) := by decide +kernel
theorem dX5_isTold_9 : decode cX5_isTold 9 = .ok (.aload_n 0, 1) := by decide +kernel
theorem dX5_isTold_10 : decode cX5_isTold 10 = .ok (.getfield 31, 3) := by decide +kernel
theorem dX5_isTold_13 : decode cX5_isTold 13 = .ok (.iload_n 1, 1) := by decide +kernel
theorem dX5_isTold_14 : decode cX5_isTold 14 = .ok (.iaload, 1) := by decide +kernel
theorem dX5_isTold_15 : decode cX5_isTold 15 = .ok (.if_icmp .ge 53, 3) := by decide +kernel
theorem dX5_isTold_18 : decode cX5_isTold 18 = .ok (.iload_n 2, 1) := by decide +kernel
theorem dX5_isTold_19 : decode cX5_isTold 19 = .ok (.ifCond .eq 49, 3) := by decide +kernel
theorem dX5_isTold_22 : decode cX5_isTold 22 = .ok (.aload_n 0, 1) := by decide +kernel
theorem dX5_isTold_23 : decode cX5_isTold 23 = .ok (.getfield 34, 3) := by decide +kernel
theorem dX5_isTold_26 : decode cX5_isTold 26 = .ok (.bipush 40, 2) := by decide +kernel
theorem dX5_isTold_28 : decode cX5_isTold 28 = .ok (.iload_n 1, 1) := by decide +kernel
theorem dX5_isTold_29 : decode cX5_isTold 29 = .ok (.imul, 1) := by decide +kernel
theorem dX5_isTold_30 : decode cX5_isTold 30 = .ok (.iload_n 3, 1) := by decide +kernel
theorem dX5_isTold_31 : decode cX5_isTold 31 = .ok (.iadd, 1) := by decide +kernel
theorem dX5_isTold_32 : decode cX5_isTold 32 = .ok (.iaload, 1) := by decide +kernel
theorem dX5_isTold_33 : decode cX5_isTold 33 = .ok (.istore 4, 2) := by decide +kernel
theorem dX5_isTold_35 : decode cX5_isTold 35 = .ok (.iload 4, 2) := by decide +kernel
theorem dX5_isTold_37 : decode cX5_isTold 37 = .ok (.iconst (-1), 1) := by decide +kernel
theorem dX5_isTold_38 : decode cX5_isTold 38 = .ok (.if_icmp .eq 14, 3) := by decide +kernel
theorem dX5_isTold_41 : decode cX5_isTold 41 = .ok (.iload 4, 2) := by decide +kernel
theorem dX5_isTold_43 : decode cX5_isTold 43 = .ok (.aload_n 0, 1) := by decide +kernel
theorem dX5_isTold_44 : decode cX5_isTold 44 = .ok (.getfield 7, 3) := by decide +kernel
theorem dX5_isTold_47 : decode cX5_isTold 47 = .ok (.iconst 2, 1) := by decide +kernel
theorem dX5_isTold_48 : decode cX5_isTold 48 = .ok (.iaload, 1) := by decide +kernel
theorem dX5_isTold_49 : decode cX5_isTold 49 = .ok (.if_icmp .ne 7, 3) := by decide +kernel
theorem dX5_isTold_52 : decode cX5_isTold 52 = .ok (.iconst 1, 1) := by decide +kernel
theorem dX5_isTold_53 : decode cX5_isTold 53 = .ok (.goto 4, 3) := by decide +kernel
theorem dX5_isTold_56 : decode cX5_isTold 56 = .ok (.iconst 0, 1) := by decide +kernel
theorem dX5_isTold_57 : decode cX5_isTold 57 = .ok (.istore_n 2, 1) := by decide +kernel
theorem dX5_isTold_58 : decode cX5_isTold 58 = .ok (.aload_n 0, 1) := by decide +kernel
theorem dX5_isTold_59 : decode cX5_isTold 59 = .ok (.invokevirtual 134, 3) := by decide +kernel
theorem dX5_isTold_62 : decode cX5_isTold 62 = .ok (.iinc 3 1, 3) := by decide +kernel
theorem dX5_isTold_65 : decode cX5_isTold 65 = .ok (.goto (-57), 3) := by decide +kernel
theorem dX5_isTold_68 : decode cX5_isTold 68 = .ok (.aload_n 0, 1) := by decide +kernel
theorem dX5_isTold_69 : decode cX5_isTold 69 = .ok (.iload_n 2, 1) := by decide +kernel
theorem dX5_isTold_70 : decode cX5_isTold 70 = .ok (.ifCond .eq 7, 3) := by decide +kernel
theorem dX5_isTold_73 : decode cX5_isTold 73 = .ok (.iconst 1, 1) := by decide +kernel
theorem dX5_isTold_74 : decode cX5_isTold 74 = .ok (.goto 4, 3) := by decide +kernel
theorem dX5_isTold_77 : decode cX5_isTold 77 = .ok (.iconst 0, 1) := by decide +kernel
theorem dX5_isTold_78 : decode cX5_isTold 78 = .ok (.invokevirtual 156, 3) := by decide +kernel
theorem dX5_isTold_81 : decode cX5_isTold 81 = .ok (.iconst 1, 1) := by decide +kernel
theorem dX5_isTold_82 : decode cX5_isTold 82 = .ok (.if_icmp .ne 7, 3) := by decide +kernel
theorem dX5_isTold_85 : decode cX5_isTold 85 = .ok (.iconst 1, 1) := by decide +kernel
theorem dX5_isTold_86 : decode cX5_isTold 86 = .ok (.goto 4, 3) := by decide +kernel
theorem dX5_isTold_89 : decode cX5_isTold 89 = .ok (.iconst 0, 1) := by decide +kernel
theorem dX5_isTold_90 : decode cX5_isTold 90 = .ok (.ireturn, 1) := by decide +kernel
theorem dX5_toldBy_0 : decode cX5_toldBy 0 = .ok (.aload_n 0, 1) := by decide +kernel
theorem dX5_toldBy_1 : decode cX5_toldBy 1 = .ok (.iload_n 1, 1) := by decide +kernel
theorem dX5_toldBy_2 : decode cX5_toldBy 2 = .ok (.invokevirtual 181, 3) := by decide +kernel
theorem dX5_toldBy_5 : decode cX5_toldBy 5 = .ok (.istore 5, 2) := by decide +kernel
theorem dX5_toldBy_7 : decode cX5_toldBy 7 = .ok (.iload 5, 2) := by decide +kernel
theorem dX5_toldBy_9 : decode cX5_toldBy 9 = .ok (.ifCond .eq 8, 3) := by decide +kernel
theorem dX5_toldBy_12 : decode cX5_toldBy 12 = .ok (.iload 5, 2) := by decide +kernel
theorem dX5_toldBy_14 : decode cX5_toldBy 14 = .ok (.goto 17, 3) := by decide +kernel
theorem dX5_toldBy_17 : decode cX5_toldBy 17 = .ok (.aload_n 0, 1) := by decide +kernel
theorem dX5_toldBy_18 : decode cX5_toldBy 18 = .ok (.iload_n 2, 1) := by decide +kernel
theorem dX5_toldBy_19 : decode cX5_toldBy 19 = .ok (.invokevirtual 95, 3) := by decide +kernel
theorem dX5_toldBy_22 : decode cX5_toldBy 22 = .ok (.ifCond .eq 7, 3) := by decide +kernel
theorem dX5_toldBy_25 : decode cX5_toldBy 25 = .ok (.iconst 0, 1) := by decide +kernel
theorem dX5_toldBy_26 : decode cX5_toldBy 26 = .ok (.goto 5, 3) := by decide +kernel
theorem dX5_toldBy_29 : decode cX5_toldBy 29 = .ok (.ldc 40, 2) := by decide +kernel
theorem dX5_toldBy_31 : decode cX5_toldBy 31 = .ok (.istore 5, 2) := by decide +kernel
theorem dX5_toldBy_33 : decode cX5_toldBy 33 = .ok (.iload 5, 2) := by decide +kernel
theorem dX5_toldBy_35 : decode cX5_toldBy 35 = .ok (.ifCond .eq 10, 3) := by decide +kernel
theorem dX5_toldBy_38 : decode cX5_toldBy 38 = .ok (.aload_n 0, 1) := by decide +kernel
theorem dX5_toldBy_39 : decode cX5_toldBy 39 = .ok (.iload 5, 2) := by decide +kernel
theorem dX5_toldBy_41 : decode cX5_toldBy 41 = .ok (.invokevirtual 60, 3) := by decide +kernel
theorem dX5_toldBy_44 : decode cX5_toldBy 44 = .ok (.ireturn, 1) := by decide +kernel
theorem dX5_toldBy_45 : decode cX5_toldBy 45 = .ok (.aload_n 0, 1) := by decide +kernel
theorem dX5_toldBy_46 : decode cX5_toldBy 46 = .ok (.iload_n 2, 1) := by decide +kernel
theorem dX5_toldBy_47 : decode cX5_toldBy 47 = .ok (.iload_n 3, 1) := by decide +kernel
theorem dX5_toldBy_48 : decode cX5_toldBy 48 = .ok (.invokevirtual 73, 3) := by decide +kernel
theorem dX5_toldBy_51 : decode cX5_toldBy 51 = .ok (.istore 6, 2) := by decide +kernel
theorem dX5_toldBy_53 : decode cX5_toldBy 53 = .ok (.iconst 0, 1) := by decide +kernel
theorem dX5_toldBy_54 : decode cX5_toldBy 54 = .ok (.istore 7, 2) := by decide +kernel
theorem dX5_toldBy_56 : decode cX5_toldBy 56 = .ok (.iconst 0, 1) := by decide +kernel
theorem dX5_toldBy_57 : decode cX5_toldBy 57 = .ok (.istore 8, 2) := by decide +kernel
theorem dX5_toldBy_59 : decode cX5_toldBy 59 = .ok (.iload 8, 2) := by decide +kernel
theorem dX5_toldBy_61 : decode cX5_toldBy 61 = .ok (.iload 4, 2) := by decide +kernel
theorem dX5_toldBy_63 : decode cX5_toldBy 63 = .ok (.if_icmp .gt 42, 3) := by decide +kernel
theorem dX5_toldBy_66 : decode cX5_toldBy 66 = .ok (.aload_n 0, 1) := by decide +kernel
theorem dX5_toldBy_67 : decode cX5_toldBy 67 = .ok (.getfield 7, 3) := by decide +kernel
theorem dX5_toldBy_70 : decode cX5_toldBy 70 = .ok (.iload_n 2, 1) := by decide +kernel
theorem dX5_toldBy_71 : decode cX5_toldBy 71 = .ok (.iload_n 3, 1) := by decide +kernel
theorem dX5_toldBy_72 : decode cX5_toldBy 72 = .ok (.invokestatic 49, 3) := by decide +kernel
theorem dX5_toldBy_75 : decode cX5_toldBy 75 = .ok (.iload 8, 2) := by decide +kernel
theorem dX5_toldBy_77 : decode cX5_toldBy 77 = .ok (.iastore, 1) := by decide +kernel
theorem dX5_toldBy_78 : decode cX5_toldBy 78 = .ok (.iload 7, 2) := by decide +kernel
theorem dX5_toldBy_80 : decode cX5_toldBy 80 = .ok (.aload_n 0, 1) := by decide +kernel
theorem dX5_toldBy_81 : decode cX5_toldBy 81 = .ok (.iload_n 1, 1) := by decide +kernel
theorem dX5_toldBy_82 : decode cX5_toldBy 82 = .ok (.invokevirtual 184, 3) := by decide +kernel
theorem dX5_toldBy_85 : decode cX5_toldBy 85 = .ok (.ifCond .eq 10, 3) := by decide +kernel
theorem dX5_toldBy_88 : decode cX5_toldBy 88 = .ok (.iconst 1, 1) := by decide +kernel
theorem dX5_toldBy_89 : decode cX5_toldBy 89 = .ok (.iload 8, 2) := by decide +kernel
theorem dX5_toldBy_91 : decode cX5_toldBy 91 = .ok (.ishl, 1) := by decide +kernel
theorem dX5_toldBy_92 : decode cX5_toldBy 92 = .ok (.goto 4, 3) := by decide +kernel
theorem dX5_toldBy_95 : decode cX5_toldBy 95 = .ok (.iconst 0, 1) := by decide +kernel
theorem dX5_toldBy_96 : decode cX5_toldBy 96 = .ok (.ior, 1) := by decide +kernel
theorem dX5_toldBy_97 : decode cX5_toldBy 97 = .ok (.istore 7, 2) := by decide +kernel
theorem dX5_toldBy_99 : decode cX5_toldBy 99 = .ok (.iinc 8 1, 3) := by decide +kernel
theorem dX5_toldBy_102 : decode cX5_toldBy 102 = .ok (.goto (-43), 3) := by decide +kernel
theorem dX5_toldBy_105 : decode cX5_toldBy 105 = .ok (.aload_n 0, 1) := by decide +kernel
theorem dX5_toldBy_106 : decode cX5_toldBy 106 = .ok (.getfield 7, 3) := by decide +kernel
theorem dX5_toldBy_109 : decode cX5_toldBy 109 = .ok (.iload_n 2, 1) := by decide +kernel
theorem dX5_toldBy_110 : decode cX5_toldBy 110 = .ok (.iload_n 3, 1) := by decide +kernel
theorem dX5_toldBy_111 : decode cX5_toldBy 111 = .ok (.invokestatic 49, 3) := by decide +kernel
theorem dX5_toldBy_114 : decode cX5_toldBy 114 = .ok (.iload 6, 2) := by decide +kernel
theorem dX5_toldBy_116 : decode cX5_toldBy 116 = .ok (.iastore, 1) := by decide +kernel
theorem dX5_toldBy_117 : decode cX5_toldBy 117 = .ok (.iload 7, 2) := by decide +kernel
theorem dX5_toldBy_119 : decode cX5_toldBy 119 = .ok (.ireturn, 1) := by decide +kernel
theorem dX5_fits_0 : decode cX5_fits 0 = .ok (.aload_n 0, 1) := by decide +kernel
theorem dX5_fits_1 : decode cX5_fits 1 = .ok (.iload_n 1, 1) := by decide +kernel
theorem dX5_fits_2 : decode cX5_fits 2 = .ok (.iload_n 2, 1) := by decide +kernel
theorem dX5_fits_3 : decode cX5_fits 3 = .ok (.iconst 1, 1) := by decide +kernel
theorem dX5_fits_4 : decode cX5_fits 4 = .ok (.bipush 11, 2) := by decide +kernel
theorem dX5_fits_6 : decode cX5_fits 6 = .ok (.invokevirtual 187, 3) := by decide +kernel
theorem dX5_fits_9 : decode cX5_fits 9 = .ok (.ireturn, 1) := by decide +kernel
theorem dX5_kinds_0 : decode cX5_kinds 0 = .ok (.aload_n 0, 1) := by decide +kernel
theorem dX5_kinds_1 : decode cX5_kinds 1 = .ok (.iload_n 1, 1) := by decide +kernel
theorem dX5_kinds_2 : decode cX5_kinds 2 = .ok (.iload_n 2, 1) := by decide +kernel
theorem dX5_kinds_3 : decode cX5_kinds 3 = .ok (.iconst 0, 1) := by decide +kernel
theorem dX5_kinds_4 : decode cX5_kinds 4 = .ok (.bipush 6, 2) := by decide +kernel
theorem dX5_kinds_6 : decode cX5_kinds 6 = .ok (.invokevirtual 187, 3) := by decide +kernel
theorem dX5_kinds_9 : decode cX5_kinds 9 = .ok (.ireturn, 1) := by decide +kernel
theorem dX5_draw_0 : decode cX5_draw 0 = .ok (.aload_n 0, 1) := by decide +kernel
theorem dX5_draw_1 : decode cX5_draw 1 = .ok (.getfield 7, 3) := by decide +kernel
theorem dX5_draw_4 : decode cX5_draw 4 = .ok (.iconst 5, 1) := by decide +kernel
theorem dX5_draw_5 : decode cX5_draw 5 = .ok (.aload_n 0, 1) := by decide +kernel
theorem dX5_draw_6 : decode cX5_draw 6 = .ok (.getfield 7, 3) := by decide +kernel
theorem dX5_draw_9 : decode cX5_draw 9 = .ok (.iconst 5, 1) := by decide +kernel
theorem dX5_draw_10 : decode cX5_draw 10 = .ok (.iaload, 1) := by decide +kernel
theorem dX5_draw_11 : decode cX5_draw 11 = .ok (.ldc 191, 2) := by decide +kernel
theorem dX5_draw_13 : decode cX5_draw 13 = .ok (.imul, 1) := by decide +kernel
theorem dX5_draw_14 : decode cX5_draw 14 = .ok (.sipush 12345, 3) := by decide +kernel
theorem dX5_draw_17 : decode cX5_draw 17 = .ok (.iadd, 1) := by decide +kernel
theorem dX5_draw_18 : decode cX5_draw 18 = .ok (.iastore, 1) := by decide +kernel
theorem dX5_draw_19 : decode cX5_draw 19 = .ok (.aload_n 0, 1) := by decide +kernel
theorem dX5_draw_20 : decode cX5_draw 20 = .ok (.getfield 7, 3) := by decide +kernel
theorem dX5_draw_23 : decode cX5_draw 23 = .ok (.iconst 5, 1) := by decide +kernel
theorem dX5_draw_24 : decode cX5_draw 24 = .ok (.iaload, 1) := by decide +kernel
theorem dX5_draw_25 : decode cX5_draw 25 = .ok (.bipush 8, 2) := by decide +kernel
theorem dX5_draw_27 : decode cX5_draw 27 = .ok (.iushr, 1) := by decide +kernel
theorem dX5_draw_28 : decode cX5_draw 28 = .ok (.ireturn, 1) := by decide +kernel
theorem dX5_parcels_0 : decode cX5_parcels 0 = .ok (.iload_n 1, 1) := by decide +kernel
theorem dX5_parcels_1 : decode cX5_parcels 1 = .ok (.i2l, 1) := by decide +kernel
theorem dX5_parcels_2 : decode cX5_parcels 2 = .ok (.lconst 1, 1) := by decide +kernel
theorem dX5_parcels_3 : decode cX5_parcels 3 = .ok (.ldc2_w 176, 3) := by decide +kernel
theorem dX5_parcels_6 : decode cX5_parcels 6 = .ok (.invokestatic 43, 3) := by decide +kernel
theorem dX5_parcels_9 : decode cX5_parcels 9 = .ok (.ifCond .ne 10, 3) := by decide +kernel
theorem dX5_parcels_12 : decode cX5_parcels 12 = .ok (.aload_n 0, 1) := by decide +kernel
theorem dX5_parcels_13 : decode cX5_parcels 13 = .ok (.ldc 40, 2) := by decide +kernel
theorem dX5_parcels_15 : decode cX5_parcels 15 = .ok (.invokevirtual 60, 3) := by decide +kernel
theorem dX5_parcels_18 : decode cX5_parcels 18 = .ok (.ireturn, 1) := by decide +kernel
theorem dX5_parcels_19 : decode cX5_parcels 19 = .ok (.aload_n 0, 1) := by decide +kernel
theorem dX5_parcels_20 : decode cX5_parcels 20 = .ok (.getfield 7, 3) := by decide +kernel
theorem dX5_parcels_23 : decode cX5_parcels 23 = .ok (.iconst 0, 1) := by decide +kernel
theorem dX5_parcels_24 : decode cX5_parcels 24 = .ok (.iaload, 1) := by decide +kernel
theorem dX5_parcels_25 : decode cX5_parcels 25 = .ok (.iload_n 1, 1) := by decide +kernel
theorem dX5_parcels_26 : decode cX5_parcels 26 = .ok (.iadd, 1) := by decide +kernel
theorem dX5_parcels_27 : decode cX5_parcels 27 = .ok (.ldc 123, 2) := by decide +kernel
theorem dX5_parcels_29 : decode cX5_parcels 29 = .ok (.if_icmp .le 10, 3) := by decide +kernel
theorem dX5_parcels_32 : decode cX5_parcels 32 = .ok (.aload_n 0, 1) := by decide +kernel
theorem dX5_parcels_33 : decode cX5_parcels 33 = .ok (.ldc 116, 2) := by decide +kernel
theorem dX5_parcels_35 : decode cX5_parcels 35 = .ok (.invokevirtual 60, 3) := by decide +kernel
theorem dX5_parcels_38 : decode cX5_parcels 38 = .ok (.ireturn, 1) := by decide +kernel
theorem dX5_parcels_39 : decode cX5_parcels 39 = .ok (.iconst 0, 1) := by decide +kernel
theorem dX5_parcels_40 : decode cX5_parcels 40 = .ok (.istore_n 2, 1) := by decide +kernel
theorem dX5_parcels_41 : decode cX5_parcels 41 = .ok (.iload_n 2, 1) := by decide +kernel
theorem dX5_parcels_42 : decode cX5_parcels 42 = .ok (.iload_n 1, 1) := by decide +kernel
theorem dX5_parcels_43 : decode cX5_parcels 43 = .ok (.if_icmp .ge 50, 3) := by decide +kernel
theorem dX5_parcels_46 : decode cX5_parcels 46 = .ok (.aload_n 0, 1) := by decide +kernel
theorem dX5_parcels_47 : decode cX5_parcels 47 = .ok (.invokevirtual 192, 3) := by decide +kernel
theorem dX5_parcels_50 : decode cX5_parcels 50 = .ok (.bipush 8, 2) := by decide +kernel
theorem dX5_parcels_52 : decode cX5_parcels 52 = .ok (.irem, 1) := by decide +kernel
theorem dX5_parcels_53 : decode cX5_parcels 53 = .ok (.istore_n 3, 1) := by decide +kernel
theorem dX5_parcels_54 : decode cX5_parcels 54 = .ok (.aload_n 0, 1) := by decide +kernel
theorem dX5_parcels_55 : decode cX5_parcels 55 = .ok (.invokevirtual 192, 3) := by decide +kernel
theorem dX5_parcels_58 : decode cX5_parcels 58 = .ok (.bipush 12, 2) := by decide +kernel
theorem dX5_parcels_60 : decode cX5_parcels 60 = .ok (.irem, 1) := by decide +kernel
theorem dX5_parcels_61 : decode cX5_parcels 61 = .ok (.istore 4, 2) := by decide +kernel
theorem dX5_parcels_63 : decode cX5_parcels 63 = .ok (.aload_n 0, 1) := by decide +kernel
theorem dX5_parcels_64 : decode cX5_parcels 64 = .ok (.iload_n 3, 1) := by decide +kernel
theorem dX5_parcels_65 : decode cX5_parcels 65 = .ok (.invokevirtual 95, 3) := by decide +kernel
theorem dX5_parcels_68 : decode cX5_parcels 68 = .ok (.ifCond .eq 15, 3) := by decide +kernel
theorem dX5_parcels_71 : decode cX5_parcels 71 = .ok (.aload_n 0, 1) := by decide +kernel
theorem dX5_parcels_72 : decode cX5_parcels 72 = .ok (.getfield 7, 3) := by decide +kernel
theorem dX5_parcels_75 : decode cX5_parcels 75 = .ok (.iload_n 3, 1) := by decide +kernel
theorem dX5_parcels_76 : decode cX5_parcels 76 = .ok (.iconst 1, 1) := by decide +kernel
theorem dX5_parcels_77 : decode cX5_parcels 77 = .ok (.invokestatic 49, 3) := by decide +kernel
theorem dX5_parcels_80 : decode cX5_parcels 80 = .ok (.iload 4, 2) := by decide +kernel
theorem dX5_parcels_82 : decode cX5_parcels 82 = .ok (.iastore, 1) := by decide +kernel
theorem dX5_parcels_83 : decode cX5_parcels 83 = .ok (.aload_n 0, 1) := by decide +kernel
theorem dX5_parcels_84 : decode cX5_parcels 84 = .ok (.invokevirtual 134, 3) := by decide +kernel
theorem dX5_parcels_87 : decode cX5_parcels 87 = .ok (.iinc 2 1, 3) := by decide +kernel
theorem dX5_parcels_90 : decode cX5_parcels 90 = .ok (.goto (-49), 3) := by decide +kernel
theorem dX5_parcels_93 : decode cX5_parcels 93 = .ok (.aload_n 0, 1) := by decide +kernel
theorem dX5_parcels_94 : decode cX5_parcels 94 = .ok (.getfield 7, 3) := by decide +kernel
theorem dX5_parcels_97 : decode cX5_parcels 97 = .ok (.iconst 2, 1) := by decide +kernel
theorem dX5_parcels_98 : decode cX5_parcels 98 = .ok (.iaload, 1) := by decide +kernel
theorem dX5_parcels_99 : decode cX5_parcels 99 = .ok (.ireturn, 1) := by decide +kernel
theorem dX5_odds_0 : decode cX5_odds 0 = .ok (.iload_n 1, 1) := by decide +kernel
theorem dX5_odds_1 : decode cX5_odds 1 = .ok (.i2l, 1) := by decide +kernel
theorem dX5_odds_2 : decode cX5_odds 2 = .ok (.lconst 0, 1) := by decide +kernel
theorem dX5_odds_3 : decode cX5_odds 3 = .ok (.ldc2_w 195, 3) := by decide +kernel
theorem dX5_odds_6 : decode cX5_odds 6 = .ok (.invokestatic 43, 3) := by decide +kernel
theorem dX5_odds_9 : decode cX5_odds 9 = .ok (.ifCond .eq 13, 3) := by decide +kernel
theorem dX5_odds_12 : decode cX5_odds 12 = .ok (.iload_n 2, 1) := by decide +kernel
theorem dX5_odds_13 : decode cX5_odds 13 = .ok (.i2l, 1) := by decide +kernel
theorem dX5_odds_14 : decode cX5_odds 14 = .ok (.lconst 0, 1) := by decide +kernel
theorem dX5_odds_15 : decode cX5_odds 15 = .ok (.lconst 1, 1) := by decide +kernel
theorem dX5_odds_16 : decode cX5_odds 16 = .ok (.invokestatic 43, 3) := by decide +kernel
theorem dX5_odds_19 : decode cX5_odds 19 = .ok (.ifCond .ne 11, 3) := by decide +kernel
theorem dX5_odds_22 : decode cX5_odds 22 = .ok (.aload_n 0, 1) := by decide +kernel
theorem dX5_odds_23 : decode cX5_odds 23 = .ok (.ldc 40, 2) := by decide +kernel
theorem dX5_odds_25 : decode cX5_odds 25 = .ok (.invokevirtual 60, 3) := by decide +kernel
theorem dX5_odds_28 : decode cX5_odds 28 = .ok (.i2l, 1) := by decide +kernel
theorem dX5_odds_29 : decode cX5_odds 29 = .ok (.lreturn, 1) := by decide +kernel
theorem dX5_odds_30 : decode cX5_odds 30 = .ok (.aload_n 0, 1) := by decide +kernel
theorem dX5_odds_31 : decode cX5_odds 31 = .ok (.invokevirtual 142, 3) := by decide +kernel
theorem dX5_odds_34 : decode cX5_odds 34 = .ok (.invokestatic 178, 3) := by decide +kernel
theorem dX5_odds_37 : decode cX5_odds 37 = .ok (.istore_n 3, 1) := by decide +kernel
theorem dX5_odds_38 : decode cX5_odds 38 = .ok (.bipush 12, 2) := by decide +kernel
theorem dX5_odds_40 : decode cX5_odds 40 = .ok (.istore 4, 2) := by decide +kernel
theorem dX5_odds_42 : decode cX5_odds 42 = .ok (.iload_n 3, 1) := by decide +kernel
theorem dX5_odds_43 : decode cX5_odds 43 = .ok (.iload 4, 2) := by decide +kernel
theorem dX5_odds_45 : decode cX5_odds 45 = .ok (.irem, 1) := by decide +kernel
theorem dX5_odds_46 : decode cX5_odds 46 = .ok (.ifCond .ne 11, 3) := by decide +kernel
theorem dX5_odds_49 : decode cX5_odds 49 = .ok (.bipush 12, 2) := by decide +kernel
theorem dX5_odds_51 : decode cX5_odds 51 = .ok (.iload 4, 2) := by decide +kernel
theorem dX5_odds_53 : decode cX5_odds 53 = .ok (.irem, 1) := by decide +kernel
theorem dX5_odds_54 : decode cX5_odds 54 = .ok (.ifCond .eq 9, 3) := by decide +kernel
theorem dX5_odds_57 : decode cX5_odds 57 = .ok (.iinc 4 (-1), 3) := by decide +kernel
theorem dX5_odds_60 : decode cX5_odds 60 = .ok (.goto (-18), 3) := by decide +kernel
theorem dX5_odds_63 : decode cX5_odds 63 = .ok (.lconst 1, 1) := by decide +kernel
theorem dX5_odds_64 : decode cX5_odds 64 = .ok (.lstore 5, 2) := by decide +kernel
theorem dX5_odds_66 : decode cX5_odds 66 = .ok (.iconst 0, 1) := by decide +kernel
theorem dX5_odds_67 : decode cX5_odds 67 = .ok (.istore 7, 2) := by decide +kernel
theorem dX5_odds_69 : decode cX5_odds 69 = .ok (.iload 7, 2) := by decide +kernel
theorem dX5_odds_71 : decode cX5_odds 71 = .ok (.iload_n 1, 1) := by decide +kernel
theorem dX5_odds_72 : decode cX5_odds 72 = .ok (.if_icmp .ge 32, 3) := by decide +kernel
theorem dX5_odds_75 : decode cX5_odds 75 = .ok (.lload 5, 2) := by decide +kernel
theorem dX5_odds_77 : decode cX5_odds 77 = .ok (.iload_n 2, 1) := by decide +kernel
theorem dX5_odds_78 : decode cX5_odds 78 = .ok (.ifCond .ne 11, 3) := by decide +kernel
theorem dX5_odds_81 : decode cX5_odds 81 = .ok (.iload_n 3, 1) := by decide +kernel
theorem dX5_odds_82 : decode cX5_odds 82 = .ok (.iload 4, 2) := by decide +kernel
theorem dX5_odds_84 : decode cX5_odds 84 = .ok (.idiv, 1) := by decide +kernel
theorem dX5_odds_85 : decode cX5_odds 85 = .ok (.i2l, 1) := by decide +kernel
theorem dX5_odds_86 : decode cX5_odds 86 = .ok (.goto 9, 3) := by decide +kernel
theorem dX5_odds_89 : decode cX5_odds 89 = .ok (.bipush 12, 2) := by decide +kernel
theorem dX5_odds_91 : decode cX5_odds 91 = .ok (.iload 4, 2) := by decide +kernel
theorem dX5_odds_93 : decode cX5_odds 93 = .ok (.idiv, 1) := by decide +kernel
theorem dX5_odds_94 : decode cX5_odds 94 = .ok (.i2l, 1) := by decide +kernel
theorem dX5_odds_95 : decode cX5_odds 95 = .ok (.lmul, 1) := by decide +kernel
theorem dX5_odds_96 : decode cX5_odds 96 = .ok (.lstore 5, 2) := by decide +kernel
theorem dX5_odds_98 : decode cX5_odds 98 = .ok (.iinc 7 1, 3) := by decide +kernel
theorem dX5_odds_101 : decode cX5_odds 101 = .ok (.goto (-32), 3) := by decide +kernel
theorem dX5_odds_104 : decode cX5_odds 104 = .ok (.lload 5, 2) := by decide +kernel
theorem dX5_odds_106 : decode cX5_odds 106 = .ok (.lreturn, 1) := by decide +kernel
theorem dX5_seed_0 : decode cX5_seed 0 = .ok (.aload_n 0, 1) := by decide +kernel
theorem dX5_seed_1 : decode cX5_seed 1 = .ok (.iconst 5, 1) := by decide +kernel
theorem dX5_seed_2 : decode cX5_seed 2 = .ok (.iload_n 1, 1) := by decide +kernel
theorem dX5_seed_3 : decode cX5_seed 3 = .ok (.invokevirtual 57, 3) := by decide +kernel
theorem dX5_seed_6 : decode cX5_seed 6 = .ok (.ireturn, 1) := by decide +kernel
theorem dX5_feed_0 : decode cX5_feed 0 = .ok (.iload_n 2, 1) := by decide +kernel
theorem dX5_feed_1 : decode cX5_feed 1 = .ok (.i2l, 1) := by decide +kernel
theorem dX5_feed_2 : decode cX5_feed 2 = .ok (.lconst 1, 1) := by decide +kernel
theorem dX5_feed_3 : decode cX5_feed 3 = .ok (.ldc2_w 106, 3) := by decide +kernel
theorem dX5_feed_6 : decode cX5_feed 6 = .ok (.invokestatic 43, 3) := by decide +kernel
theorem dX5_feed_9 : decode cX5_feed 9 = .ok (.ifCond .ne 10, 3) := by decide +kernel
theorem dX5_feed_12 : decode cX5_feed 12 = .ok (.aload_n 0, 1) := by decide +kernel
theorem dX5_feed_13 : decode cX5_feed 13 = .ok (.ldc 40, 2) := by decide +kernel
theorem dX5_feed_15 : decode cX5_feed 15 = .ok (.invokevirtual 60, 3) := by decide +kernel
theorem dX5_feed_18 : decode cX5_feed 18 = .ok (.ireturn, 1) := by decide +kernel
theorem dX5_feed_19 : decode cX5_feed 19 = .ok (.aload_n 0, 1) := by decide +kernel
theorem dX5_feed_20 : decode cX5_feed 20 = .ok (.getfield 197, 3) := by decide +kernel
theorem dX5_feed_23 : decode cX5_feed 23 = .ok (.iload_n 2, 1) := by decide +kernel
theorem dX5_feed_24 : decode cX5_feed 24 = .ok (.iadd, 1) := by decide +kernel
theorem dX5_feed_25 : decode cX5_feed 25 = .ok (.bipush 120, 2) := by decide +kernel
theorem dX5_feed_27 : decode cX5_feed 27 = .ok (.if_icmp .le 10, 3) := by decide +kernel
theorem dX5_feed_30 : decode cX5_feed 30 = .ok (.aload_n 0, 1) := by decide +kernel
theorem dX5_feed_31 : decode cX5_feed 31 = .ok (.ldc 69, 2) := by decide +kernel
theorem dX5_feed_33 : decode cX5_feed 33 = .ok (.invokevirtual 60, 3) := by decide +kernel
theorem dX5_feed_36 : decode cX5_feed 36 = .ok (.ireturn, 1) := by decide +kernel
theorem dX5_feed_37 : decode cX5_feed 37 = .ok (.iload_n 2, 1) := by decide +kernel
theorem dX5_feed_38 : decode cX5_feed 38 = .ok (.iconst 1, 1) := by decide +kernel
theorem dX5_feed_39 : decode cX5_feed 39 = .ok (.isub, 1) := by decide +kernel
theorem dX5_feed_40 : decode cX5_feed 40 = .ok (.istore_n 3, 1) := by decide +kernel
theorem dX5_feed_41 : decode cX5_feed 41 = .ok (.iload_n 3, 1) := by decide +kernel
theorem dX5_feed_42 : decode cX5_feed 42 = .ok (.ifCond .lt 38, 3) := by decide +kernel
theorem dX5_feed_45 : decode cX5_feed 45 = .ok (.aload_n 0, 1) := by decide +kernel
theorem dX5_feed_46 : decode cX5_feed 46 = .ok (.getfield 25, 3) := by decide +kernel
theorem dX5_feed_49 : decode cX5_feed 49 = .ok (.aload_n 0, 1) := by decide +kernel
theorem dX5_feed_50 : decode cX5_feed 50 = .ok (.getfield 197, 3) := by decide +kernel
theorem dX5_feed_53 : decode cX5_feed 53 = .ok (.iload_n 1, 1) := by decide +kernel
theorem dX5_feed_54 : decode cX5_feed 54 = .ok (.bipush 8, 2) := by decide +kernel
theorem dX5_feed_56 : decode cX5_feed 56 = .ok (.iload_n 3, 1) := by decide +kernel
theorem dX5_feed_57 : decode cX5_feed 57 = .ok (.imul, 1) := by decide +kernel
theorem dX5_feed_58 : decode cX5_feed 58 = .ok (.ishr, 1) := by decide +kernel
theorem dX5_feed_59 : decode cX5_feed 59 = .ok (.sipush 255, 3) := by decide +kernel
theorem dX5_feed_62 : decode cX5_feed 62 = .ok (.iand, 1) := by decide +kernel
theorem dX5_feed_63 : decode cX5_feed 63 = .ok (.iastore, 1) := by decide +kernel
theorem dX5_feed_64 : decode cX5_feed 64 = .ok (.aload_n 0, 1) := by decide +kernel
theorem dX5_feed_65 : decode cX5_feed 65 = .ok (.dup, 1) := by decide +kernel
theorem dX5_feed_66 : decode cX5_feed 66 = .ok (.getfield 197, 3) := by decide +kernel
theorem dX5_feed_69 : decode cX5_feed 69 = .ok (.iconst 1, 1) := by decide +kernel
theorem dX5_feed_70 : decode cX5_feed 70 = .ok (.iadd, 1) := by decide +kernel
theorem dX5_feed_71 : decode cX5_feed 71 = .ok (.putfield 197, 3) := by decide +kernel
theorem dX5_feed_74 : decode cX5_feed 74 = .ok (.iinc 3 (-1), 3) := by decide +kernel
theorem dX5_feed_77 : decode cX5_feed 77 = .ok (.goto (-36), 3) := by decide +kernel
theorem dX5_feed_80 : decode cX5_feed 80 = .ok (.aload_n 0, 1) := by decide +kernel
theorem dX5_feed_81 : decode cX5_feed 81 = .ok (.getfield 197, 3) := by decide +kernel
theorem dX5_feed_84 : decode cX5_feed 84 = .ok (.ireturn, 1) := by decide +kernel
theorem dX5_wipe_0 : decode cX5_wipe 0 = .ok (.aload_n 0, 1) := by decide +kernel
theorem dX5_wipe_1 : decode cX5_wipe 1 = .ok (.getfield 197, 3) := by decide +kernel
theorem dX5_wipe_4 : decode cX5_wipe 4 = .ok (.istore_n 1, 1) := by decide +kernel
theorem dX5_wipe_5 : decode cX5_wipe 5 = .ok (.aload_n 0, 1) := by decide +kernel
theorem dX5_wipe_6 : decode cX5_wipe 6 = .ok (.iconst 0, 1) := by decide +kernel
theorem dX5_wipe_7 : decode cX5_wipe 7 = .ok (.putfield 197, 3) := by decide +kernel
theorem dX5_wipe_10 : decode cX5_wipe 10 = .ok (.iload_n 1, 1) := by decide +kernel
theorem dX5_wipe_11 : decode cX5_wipe 11 = .ok (.ireturn, 1) := by decide +kernel
theorem dX5_byteAt_0 : decode cX5_byteAt 0 = .ok (.iload_n 1, 1) := by decide +kernel
theorem dX5_byteAt_1 : decode cX5_byteAt 1 = .ok (.aload_n 0, 1) := by decide +kernel
theorem dX5_byteAt_2 : decode cX5_byteAt 2 = .ok (.getfield 197, 3) := by decide +kernel
theorem dX5_byteAt_5 : decode cX5_byteAt 5 = .ok (.if_icmp .ge 12, 3) := by decide +kernel
theorem dX5_byteAt_8 : decode cX5_byteAt 8 = .ok (.aload_n 0, 1) := by decide +kernel
theorem dX5_byteAt_9 : decode cX5_byteAt 9 = .ok (.getfield 25, 3) := by decide +kernel
theorem dX5_byteAt_12 : decode cX5_byteAt 12 = .ok (.iload_n 1, 1) := by decide +kernel
theorem dX5_byteAt_13 : decode cX5_byteAt 13 = .ok (.iaload, 1) := by decide +kernel
theorem dX5_byteAt_14 : decode cX5_byteAt 14 = .ok (.goto 4, 3) := by decide +kernel
theorem dX5_byteAt_17 : decode cX5_byteAt 17 = .ok (.iconst (-1), 1) := by decide +kernel
theorem dX5_byteAt_18 : decode cX5_byteAt 18 = .ok (.ireturn, 1) := by decide +kernel
theorem dX5_isLetter_0 : decode cX5_isLetter 0 = .ok (.iload_n 0, 1) := by decide +kernel
theorem dX5_isLetter_1 : decode cX5_isLetter 1 = .ok (.i2l, 1) := by decide +kernel
theorem dX5_isLetter_2 : decode cX5_isLetter 2 = .ok (.ldc2_w 200, 3) := by decide +kernel
theorem dX5_isLetter_5 : decode cX5_isLetter 5 = .ok (.ldc2_w 202, 3) := by decide +kernel
theorem dX5_isLetter_8 : decode cX5_isLetter 8 = .ok (.invokestatic 43, 3) := by decide +kernel
theorem dX5_isLetter_11 : decode cX5_isLetter 11 = .ok (.ireturn, 1) := by decide +kernel
theorem dX5_isDigit_0 : decode cX5_isDigit 0 = .ok (.iload_n 0, 1) := by decide +kernel
theorem dX5_isDigit_1 : decode cX5_isDigit 1 = .ok (.i2l, 1) := by decide +kernel
theorem dX5_isDigit_2 : decode cX5_isDigit 2 = .ok (.ldc2_w 204, 3) := by decide +kernel
theorem dX5_isDigit_5 : decode cX5_isDigit 5 = .ok (.ldc2_w 206, 3) := by decide +kernel
theorem dX5_isDigit_8 : decode cX5_isDigit 8 = .ok (.invokestatic 43, 3) := by decide +kernel
theorem dX5_isDigit_11 : decode cX5_isDigit 11 = .ok (.ireturn, 1) := by decide +kernel
theorem dX5_token_0 : decode cX5_token 0 = .ok (.aload_n 0, 1) := by decide +kernel
theorem dX5_token_1 : decode cX5_token 1 = .ok (.aload_n 0, 1) := by decide +kernel
theorem dX5_token_2 : decode cX5_token 2 = .ok (.getfield 208, 3) := by decide +kernel
theorem dX5_token_5 : decode cX5_token 5 = .ok (.putfield 211, 3) := by decide +kernel
theorem dX5_token_8 : decode cX5_token 8 = .ok (.aload_n 0, 1) := by decide +kernel
theorem dX5_token_9 : decode cX5_token 9 = .ok (.aload_n 0, 1) := by decide +kernel
theorem dX5_token_10 : decode cX5_token 10 = .ok (.getfield 211, 3) := by decide +kernel
theorem dX5_token_13 : decode cX5_token 13 = .ok (.invokevirtual 214, 3) := by decide +kernel
theorem dX5_token_16 : decode cX5_token 16 = .ok (.bipush 32, 2) := by decide +kernel
theorem dX5_token_18 : decode cX5_token 18 = .ok (.if_icmp .ne 16, 3) := by decide +kernel
theorem dX5_token_21 : decode cX5_token 21 = .ok (.aload_n 0, 1) := by decide +kernel
theorem dX5_token_22 : decode cX5_token 22 = .ok (.dup, 1) := by decide +kernel
theorem dX5_token_23 : decode cX5_token 23 = .ok (.getfield 211, 3) := by decide +kernel
theorem dX5_token_26 : decode cX5_token 26 = .ok (.iconst 1, 1) := by decide +kernel
theorem dX5_token_27 : decode cX5_token 27 = .ok (.iadd, 1) := by decide +kernel
theorem dX5_token_28 : decode cX5_token 28 = .ok (.putfield 211, 3) := by decide +kernel
theorem dX5_token_31 : decode cX5_token 31 = .ok (.goto (-23), 3) := by decide +kernel
theorem dX5_token_34 : decode cX5_token 34 = .ok (.aload_n 0, 1) := by decide +kernel
theorem dX5_token_35 : decode cX5_token 35 = .ok (.aload_n 0, 1) := by decide +kernel
theorem dX5_token_36 : decode cX5_token 36 = .ok (.getfield 211, 3) := by decide +kernel
theorem dX5_token_39 : decode cX5_token 39 = .ok (.invokevirtual 214, 3) := by decide +kernel
theorem dX5_token_42 : decode cX5_token 42 = .ok (.invokestatic 217, 3) := by decide +kernel
theorem dX5_token_45 : decode cX5_token 45 = .ok (.istore_n 1, 1) := by decide +kernel
theorem dX5_token_46 : decode cX5_token 46 = .ok (.aload_n 0, 1) := by decide +kernel
theorem dX5_token_47 : decode cX5_token 47 = .ok (.aload_n 0, 1) := by decide +kernel
theorem dX5_token_48 : decode cX5_token 48 = .ok (.getfield 211, 3) := by decide +kernel
theorem dX5_token_51 : decode cX5_token 51 = .ok (.invokevirtual 214, 3) := by decide +kernel
theorem dX5_token_54 : decode cX5_token 54 = .ok (.invokestatic 220, 3) := by decide +kernel
theorem dX5_token_57 : decode cX5_token 57 = .ok (.istore_n 2, 1) := by decide +kernel
theorem dX5_token_58 : decode cX5_token 58 = .ok (.aload_n 0, 1) := by decide +kernel
theorem dX5_token_59 : decode cX5_token 59 = .ok (.aload_n 0, 1) := by decide +kernel
theorem dX5_token_60 : decode cX5_token 60 = .ok (.getfield 211, 3) := by decide +kernel
theorem dX5_token_63 : decode cX5_token 63 = .ok (.aload_n 0, 1) := by decide +kernel
theorem dX5_token_64 : decode cX5_token 64 = .ok (.getfield 197, 3) := by decide +kernel
theorem dX5_token_67 : decode cX5_token 67 = .ok (.if_icmp .ge 12, 3) := by decide +kernel
theorem dX5_token_70 : decode cX5_token 70 = .ok (.aload_n 0, 1) := by decide +kernel
theorem dX5_token_71 : decode cX5_token 71 = .ok (.getfield 211, 3) := by decide +kernel
theorem dX5_token_74 : decode cX5_token 74 = .ok (.iconst 1, 1) := by decide +kernel
theorem dX5_token_75 : decode cX5_token 75 = .ok (.iadd, 1) := by decide +kernel
theorem dX5_token_76 : decode cX5_token 76 = .ok (.goto 7, 3) := by decide +kernel
theorem dX5_token_79 : decode cX5_token 79 = .ok (.aload_n 0, 1) := by decide +kernel
theorem dX5_token_80 : decode cX5_token 80 = .ok (.getfield 211, 3) := by decide +kernel
theorem dX5_token_83 : decode cX5_token 83 = .ok (.putfield 208, 3) := by decide +kernel
theorem dX5_token_86 : decode cX5_token 86 = .ok (.iload_n 1, 1) := by decide +kernel
theorem dX5_token_87 : decode cX5_token 87 = .ok (.ifCond .eq 17, 3) := by decide +kernel
theorem dX5_token_90 : decode cX5_token 90 = .ok (.aload_n 0, 1) := by decide +kernel
theorem dX5_token_91 : decode cX5_token 91 = .ok (.aload_n 0, 1) := by decide +kernel
theorem dX5_token_92 : decode cX5_token 92 = .ok (.getfield 208, 3) := by decide +kernel
theorem dX5_token_95 : decode cX5_token 95 = .ok (.invokevirtual 214, 3) := by decide +kernel
theorem dX5_token_98 : decode cX5_token 98 = .ok (.invokestatic 217, 3) := by decide +kernel
theorem dX5_token_101 : decode cX5_token 101 = .ok (.ifCond .ne 21, 3) := by decide +kernel
theorem dX5_token_104 : decode cX5_token 104 = .ok (.iload_n 2, 1) := by decide +kernel
theorem dX5_token_105 : decode cX5_token 105 = .ok (.ifCond .eq 30, 3) := by decide +kernel
theorem dX5_token_108 : decode cX5_token 108 = .ok (.aload_n 0, 1) := by decide +kernel
theorem dX5_token_109 : decode cX5_token 109 = .ok (.aload_n 0, 1) := by decide +kernel
theorem dX5_token_110 : decode cX5_token 110 = .ok (.getfield 208, 3) := by decide +kernel
theorem dX5_token_113 : decode cX5_token 113 = .ok (.invokevirtual 214, 3) := by decide +kernel
theorem dX5_token_116 : decode cX5_token 116 = .ok (.invokestatic 220, 3) := by decide +kernel
theorem dX5_token_119 : decode cX5_token 119 = .ok (.ifCond .eq 16, 3) := by decide +kernel
theorem dX5_token_122 : decode cX5_token 122 = .ok (.aload_n 0, 1) := by decide +kernel
theorem dX5_token_123 : decode cX5_token 123 = .ok (.dup, 1) := by decide +kernel
theorem dX5_token_124 : decode cX5_token 124 = .ok (.getfield 208, 3) := by decide +kernel
theorem dX5_token_127 : decode cX5_token 127 = .ok (.iconst 1, 1) := by decide +kernel
theorem dX5_token_128 : decode cX5_token 128 = .ok (.iadd, 1) := by decide +kernel
theorem dX5_token_129 : decode cX5_token 129 = .ok (.putfield 208, 3) := by decide +kernel
theorem dX5_token_132 : decode cX5_token 132 = .ok (.goto (-46), 3) := by decide +kernel
theorem dX5_token_135 : decode cX5_token 135 = .ok (.return_, 1) := by decide +kernel
theorem dX5_must_0 : decode cX5_must 0 = .ok (.aload_n 0, 1) := by decide +kernel
theorem dX5_must_1 : decode cX5_must 1 = .ok (.aload_n 0, 1) := by decide +kernel
theorem dX5_must_2 : decode cX5_must 2 = .ok (.getfield 223, 3) := by decide +kernel
theorem dX5_must_5 : decode cX5_must 5 = .ok (.ifCond .ne 7, 3) := by decide +kernel
theorem dX5_must_8 : decode cX5_must 8 = .ok (.iload_n 1, 1) := by decide +kernel
theorem dX5_must_9 : decode cX5_must 9 = .ok (.ifCond .ne 7, 3) := by decide +kernel
theorem dX5_must_12 : decode cX5_must 12 = .ok (.iconst 1, 1) := by decide +kernel
theorem dX5_must_13 : decode cX5_must 13 = .ok (.goto 4, 3) := by decide +kernel
theorem dX5_must_16 : decode cX5_must 16 = .ok (.iconst 0, 1) := by decide +kernel
theorem dX5_must_17 : decode cX5_must 17 = .ok (.putfield 223, 3) := by decide +kernel
theorem dX5_must_20 : decode cX5_must 20 = .ok (.aload_n 0, 1) := by decide +kernel
theorem dX5_must_21 : decode cX5_must 21 = .ok (.getfield 223, 3) := by decide +kernel
theorem dX5_must_24 : decode cX5_must 24 = .ok (.ifCond .ne 7, 3) := by decide +kernel
theorem dX5_must_27 : decode cX5_must 27 = .ok (.aload_n 0, 1) := by decide +kernel
theorem dX5_must_28 : decode cX5_must 28 = .ok (.invokevirtual 227, 3) := by decide +kernel
theorem dX5_must_31 : decode cX5_must 31 = .ok (.return_, 1) := by decide +kernel
theorem dX5_word_0 : decode cX5_word 0 = .ok (.lconst 0, 1) := by decide +kernel
theorem dX5_word_1 : decode cX5_word 1 = .ok (.lstore_n 1, 1) := by decide +kernel
theorem dX5_word_2 : decode cX5_word 2 = .ok (.aload_n 0, 1) := by decide +kernel
theorem dX5_word_3 : decode cX5_word 3 = .ok (.getfield 211, 3) := by decide +kernel
theorem dX5_word_6 : decode cX5_word 6 = .ok (.istore_n 3, 1) := by decide +kernel
theorem dX5_word_7 : decode cX5_word 7 = .ok (.iload_n 3, 1) := by decide +kernel
theorem dX5_word_8 : decode cX5_word 8 = .ok (.aload_n 0, 1) := by decide +kernel
theorem dX5_word_9 : decode cX5_word 9 = .ok (.getfield 208, 3) := by decide +kernel
theorem dX5_word_12 : decode cX5_word 12 = .ok (.if_icmp .ge 38, 3) := by decide +kernel
theorem dX5_word_15 : decode cX5_word 15 = .ok (.lload_n 1, 1) := by decide +kernel
theorem dX5_word_16 : decode cX5_word 16 = .ok (.ldc2_w 230, 3) := by decide +kernel
theorem dX5_word_19 : decode cX5_word 19 = .ok (.lcmp, 1) := by decide +kernel
theorem dX5_word_20 : decode cX5_word 20 = .ok (.ifCond .le 7, 3) := by decide +kernel
theorem dX5_word_23 : decode cX5_word 23 = .ok (.lload_n 1, 1) := by decide +kernel
theorem dX5_word_24 : decode cX5_word 24 = .ok (.goto 19, 3) := by decide +kernel
theorem dX5_word_27 : decode cX5_word 27 = .ok (.ldc2_w 232, 3) := by decide +kernel
theorem dX5_word_30 : decode cX5_word 30 = .ok (.lload_n 1, 1) := by decide +kernel
theorem dX5_word_31 : decode cX5_word 31 = .ok (.lmul, 1) := by decide +kernel
theorem dX5_word_32 : decode cX5_word 32 = .ok (.aload_n 0, 1) := by decide +kernel
theorem dX5_word_33 : decode cX5_word 33 = .ok (.getfield 25, 3) := by decide +kernel
theorem dX5_word_36 : decode cX5_word 36 = .ok (.iload_n 3, 1) := by decide +kernel
theorem dX5_word_37 : decode cX5_word 37 = .ok (.iaload, 1) := by decide +kernel
theorem dX5_word_38 : decode cX5_word 38 = .ok (.bipush 96, 2) := by decide +kernel
theorem dX5_word_40 : decode cX5_word 40 = .ok (.isub, 1) := by decide +kernel
theorem dX5_word_41 : decode cX5_word 41 = .ok (.i2l, 1) := by decide +kernel
theorem dX5_word_42 : decode cX5_word 42 = .ok (.ladd, 1) := by decide +kernel
theorem dX5_word_43 : decode cX5_word 43 = .ok (.lstore_n 1, 1) := by decide +kernel
theorem dX5_word_44 : decode cX5_word 44 = .ok (.iinc 3 1, 3) := by decide +kernel
theorem dX5_word_47 : decode cX5_word 47 = .ok (.goto (-40), 3) := by decide +kernel
theorem dX5_word_50 : decode cX5_word 50 = .ok (.aload_n 0, 1) := by decide +kernel
theorem dX5_word_51 : decode cX5_word 51 = .ok (.getfield 223, 3) := by decide +kernel
theorem dX5_word_54 : decode cX5_word 54 = .ok (.ifCond .ne 17, 3) := by decide +kernel
theorem dX5_word_57 : decode cX5_word 57 = .ok (.aload_n 0, 1) := by decide +kernel
theorem dX5_word_58 : decode cX5_word 58 = .ok (.aload_n 0, 1) := by decide +kernel
theorem dX5_word_59 : decode cX5_word 59 = .ok (.getfield 211, 3) := by decide +kernel
theorem dX5_word_62 : decode cX5_word 62 = .ok (.invokevirtual 214, 3) := by decide +kernel
theorem dX5_word_65 : decode cX5_word 65 = .ok (.invokestatic 217, 3) := by decide +kernel
theorem dX5_word_68 : decode cX5_word 68 = .ok (.ifCond .ne 7, 3) := by decide +kernel
theorem dX5_word_71 : decode cX5_word 71 = .ok (.lconst 0, 1) := by decide +kernel
theorem dX5_word_72 : decode cX5_word 72 = .ok (.goto 4, 3) := by decide +kernel
theorem dX5_word_75 : decode cX5_word 75 = .ok (.lload_n 1, 1) := by decide +kernel
theorem dX5_word_76 : decode cX5_word 76 = .ok (.lreturn, 1) := by decide +kernel
theorem dX5_number_0 : decode cX5_number 0 = .ok (.aload_n 0, 1) := by decide +kernel
theorem dX5_number_1 : decode cX5_number 1 = .ok (.getfield 223, 3) := by decide +kernel
theorem dX5_number_4 : decode cX5_number 4 = .ok (.ifCond .eq 4, 3) := by decide +kernel
theorem dX5_number_7 : decode cX5_number 7 = .ok (.return_, 1) := by decide +kernel
theorem dX5_number_8 : decode cX5_number 8 = .ok (.aload_n 0, 1) := by decide +kernel
theorem dX5_number_9 : decode cX5_number 9 = .ok (.aload_n 0, 1) := by decide +kernel
theorem dX5_number_10 : decode cX5_number 10 = .ok (.getfield 211, 3) := by decide +kernel
theorem dX5_number_13 : decode cX5_number 13 = .ok (.invokevirtual 214, 3) := by decide +kernel
theorem dX5_number_16 : decode cX5_number 16 = .ok (.invokestatic 220, 3) := by decide +kernel
theorem dX5_number_19 : decode cX5_number 19 = .ok (.istore_n 3, 1) := by decide +kernel
theorem dX5_number_20 : decode cX5_number 20 = .ok (.iconst 0, 1) := by decide +kernel
theorem dX5_number_21 : decode cX5_number 21 = .ok (.istore 4, 2) := by decide +kernel
theorem dX5_number_23 : decode cX5_number 23 = .ok (.aload_n 0, 1) := by decide +kernel
theorem dX5_number_24 : decode cX5_number 24 = .ok (.getfield 211, 3) := by decide +kernel
theorem dX5_number_27 : decode cX5_number 27 = .ok (.istore 5, 2) := by decide +kernel
theorem dX5_number_29 : decode cX5_number 29 = .ok (.iload 5, 2) := by decide +kernel
theorem dX5_number_31 : decode cX5_number 31 = .ok (.aload_n 0, 1) := by decide +kernel
theorem dX5_number_32 : decode cX5_number 32 = .ok (.getfield 208, 3) := by decide +kernel
theorem dX5_number_35 : decode cX5_number 35 = .ok (.if_icmp .ge 44, 3) := by decide +kernel
theorem dX5_number_38 : decode cX5_number 38 = .ok (.iload_n 3, 1) := by decide +kernel
theorem dX5_number_39 : decode cX5_number 39 = .ok (.ifCond .eq 40, 3) := by decide +kernel
theorem dX5_number_42 : decode cX5_number 42 = .ok (.iload 4, 2) := by decide +kernel
theorem dX5_number_44 : decode cX5_number 44 = .ok (.sipush 999, 3) := by decide +kernel
theorem dX5_number_47 : decode cX5_number 47 = .ok (.if_icmp .le 8, 3) := by decide +kernel
theorem dX5_number_50 : decode cX5_number 50 = .ok (.iload 4, 2) := by decide +kernel
theorem dX5_number_52 : decode cX5_number 52 = .ok (.goto 19, 3) := by decide +kernel
theorem dX5_number_55 : decode cX5_number 55 = .ok (.bipush 10, 2) := by decide +kernel
theorem dX5_number_57 : decode cX5_number 57 = .ok (.iload 4, 2) := by decide +kernel
theorem dX5_number_59 : decode cX5_number 59 = .ok (.imul, 1) := by decide +kernel
theorem dX5_number_60 : decode cX5_number 60 = .ok (.aload_n 0, 1) := by decide +kernel
theorem dX5_number_61 : decode cX5_number 61 = .ok (.getfield 25, 3) := by decide +kernel
theorem dX5_number_64 : decode cX5_number 64 = .ok (.iload 5, 2) := by decide +kernel
theorem dX5_number_66 : decode cX5_number 66 = .ok (.iaload, 1) := by decide +kernel
theorem dX5_number_67 : decode cX5_number 67 = .ok (.iadd, 1) := by decide +kernel
theorem dX5_number_68 : decode cX5_number 68 = .ok (.bipush 48, 2) := by decide +kernel
theorem dX5_number_70 : decode cX5_number 70 = .ok (.isub, 1) := by decide +kernel
theorem dX5_number_71 : decode cX5_number 71 = .ok (.istore 4, 2) := by decide +kernel
theorem dX5_number_73 : decode cX5_number 73 = .ok (.iinc 5 1, 3) := by decide +kernel
theorem dX5_number_76 : decode cX5_number 76 = .ok (.goto (-47), 3) := by decide +kernel
theorem dX5_number_79 : decode cX5_number 79 = .ok (.aload_n 0, 1) := by decide +kernel
theorem dX5_number_80 : decode cX5_number 80 = .ok (.iload 4, 2) := by decide +kernel
theorem dX5_number_82 : decode cX5_number 82 = .ok (.putfield 234, 3) := by decide +kernel
theorem dX5_number_85 : decode cX5_number 85 = .ok (.aload_n 0, 1) := by decide +kernel
theorem dX5_number_86 : decode cX5_number 86 = .ok (.iload_n 3, 1) := by decide +kernel
theorem dX5_number_87 : decode cX5_number 87 = .ok (.ifCond .eq 20, 3) := by decide +kernel
theorem dX5_number_90 : decode cX5_number 90 = .ok (.iload 4, 2) := by decide +kernel
theorem dX5_number_92 : decode cX5_number 92 = .ok (.i2l, 1) := by decide +kernel
theorem dX5_number_93 : decode cX5_number 93 = .ok (.iload_n 1, 1) := by decide +kernel
theorem dX5_number_94 : decode cX5_number 94 = .ok (.i2l, 1) := by decide +kernel
theorem dX5_number_95 : decode cX5_number 95 = .ok (.iload_n 2, 1) := by decide +kernel
theorem dX5_number_96 : decode cX5_number 96 = .ok (.i2l, 1) := by decide +kernel
theorem dX5_number_97 : decode cX5_number 97 = .ok (.invokestatic 43, 3) := by decide +kernel
theorem dX5_number_100 : decode cX5_number 100 = .ok (.ifCond .eq 7, 3) := by decide +kernel
theorem dX5_number_103 : decode cX5_number 103 = .ok (.iconst 1, 1) := by decide +kernel
theorem dX5_number_104 : decode cX5_number 104 = .ok (.goto 4, 3) := by decide +kernel
theorem dX5_number_107 : decode cX5_number 107 = .ok (.iconst 0, 1) := by decide +kernel
theorem dX5_number_108 : decode cX5_number 108 = .ok (.invokevirtual 237, 3) := by decide +kernel
theorem dX5_number_111 : decode cX5_number 111 = .ok (.return_, 1) := by decide +kernel
theorem dX5_kindHere_0 : decode cX5_kindHere 0 = .ok (.aload_n 0, 1) := by decide +kernel
theorem dX5_kindHere_1 : decode cX5_kindHere 1 = .ok (.invokevirtual 241, 3) := by decide +kernel
theorem dX5_kindHere_4 : decode cX5_kindHere 4 = .ok (.lstore_n 1, 1) := by decide +kernel
theorem dX5_kindHere_5 : decode cX5_kindHere 5 = .ok (.lload_n 1, 1) := by decide +kernel
theorem dX5_kindHere_6 : decode cX5_kindHere 6 = .ok (.ldc2_w 245, 3) := by decide +kernel
theorem dX5_kindHere_9 : decode cX5_kindHere 9 = .ok (.lcmp, 1) := by decide +kernel
theorem dX5_kindHere_10 : decode cX5_kindHere 10 = .ok (.ifCond .ne 7, 3) := by decide +kernel
theorem dX5_kindHere_13 : decode cX5_kindHere 13 = .ok (.iconst 0, 1) := by decide +kernel
theorem dX5_kindHere_14 : decode cX5_kindHere 14 = .ok (.goto 77, 3) := by decide +kernel
theorem dX5_kindHere_17 : decode cX5_kindHere 17 = .ok (.lload_n 1, 1) := by decide +kernel
theorem dX5_kindHere_18 : decode cX5_kindHere 18 = .ok (.ldc2_w 247, 3) := by decide +kernel
theorem dX5_kindHere_21 : decode cX5_kindHere 21 = .ok (.lcmp, 1) := by decide +kernel
theorem dX5_kindHere_22 : decode cX5_kindHere 22 = .ok (.ifCond .ne 7, 3) := by decide +kernel
theorem dX5_kindHere_25 : decode cX5_kindHere 25 = .ok (.iconst 1, 1) := by decide +kernel
theorem dX5_kindHere_26 : decode cX5_kindHere 26 = .ok (.goto 65, 3) := by decide +kernel
theorem dX5_kindHere_29 : decode cX5_kindHere 29 = .ok (.lload_n 1, 1) := by decide +kernel
theorem dX5_kindHere_30 : decode cX5_kindHere 30 = .ok (.ldc2_w 249, 3) := by decide +kernel
theorem dX5_kindHere_33 : decode cX5_kindHere 33 = .ok (.lcmp, 1) := by decide +kernel
theorem dX5_kindHere_34 : decode cX5_kindHere 34 = .ok (.ifCond .ne 7, 3) := by decide +kernel
theorem dX5_kindHere_37 : decode cX5_kindHere 37 = .ok (.iconst 2, 1) := by decide +kernel
theorem dX5_kindHere_38 : decode cX5_kindHere 38 = .ok (.goto 53, 3) := by decide +kernel
theorem dX5_kindHere_41 : decode cX5_kindHere 41 = .ok (.lload_n 1, 1) := by decide +kernel
theorem dX5_kindHere_42 : decode cX5_kindHere 42 = .ok (.ldc2_w 251, 3) := by decide +kernel
theorem dX5_kindHere_45 : decode cX5_kindHere 45 = .ok (.lcmp, 1) := by decide +kernel
theorem dX5_kindHere_46 : decode cX5_kindHere 46 = .ok (.ifCond .ne 7, 3) := by decide +kernel
theorem dX5_kindHere_49 : decode cX5_kindHere 49 = .ok (.iconst 3, 1) := by decide +kernel
theorem dX5_kindHere_50 : decode cX5_kindHere 50 = .ok (.goto 41, 3) := by decide +kernel
theorem dX5_kindHere_53 : decode cX5_kindHere 53 = .ok (.lload_n 1, 1) := by decide +kernel
theorem dX5_kindHere_54 : decode cX5_kindHere 54 = .ok (.ldc2_w 253, 3) := by decide +kernel
theorem dX5_kindHere_57 : decode cX5_kindHere 57 = .ok (.lcmp, 1) := by decide +kernel
theorem dX5_kindHere_58 : decode cX5_kindHere 58 = .ok (.ifCond .ne 7, 3) := by decide +kernel
theorem dX5_kindHere_61 : decode cX5_kindHere 61 = .ok (.iconst 4, 1) := by decide +kernel
theorem dX5_kindHere_62 : decode cX5_kindHere 62 = .ok (.goto 29, 3) := by decide +kernel
theorem dX5_kindHere_65 : decode cX5_kindHere 65 = .ok (.lload_n 1, 1) := by decide +kernel
theorem dX5_kindHere_66 : decode cX5_kindHere 66 = .ok (.ldc2_w 255, 3) := by decide +kernel
theorem dX5_kindHere_69 : decode cX5_kindHere 69 = .ok (.lcmp, 1) := by decide +kernel
theorem dX5_kindHere_70 : decode cX5_kindHere 70 = .ok (.ifCond .ne 7, 3) := by decide +kernel
theorem dX5_kindHere_73 : decode cX5_kindHere 73 = .ok (.iconst 5, 1) := by decide +kernel
theorem dX5_kindHere_74 : decode cX5_kindHere 74 = .ok (.goto 17, 3) := by decide +kernel
theorem dX5_kindHere_77 : decode cX5_kindHere 77 = .ok (.lload_n 1, 1) := by decide +kernel
theorem dX5_kindHere_78 : decode cX5_kindHere 78 = .ok (.ldc2_w 257, 3) := by decide +kernel
theorem dX5_kindHere_81 : decode cX5_kindHere 81 = .ok (.lcmp, 1) := by decide +kernel
theorem dX5_kindHere_82 : decode cX5_kindHere 82 = .ok (.ifCond .ne 8, 3) := by decide +kernel
theorem dX5_kindHere_85 : decode cX5_kindHere 85 = .ok (.bipush 6, 2) := by decide +kernel
theorem dX5_kindHere_87 : decode cX5_kindHere 87 = .ok (.goto 4, 3) := by decide +kernel
theorem dX5_kindHere_90 : decode cX5_kindHere 90 = .ok (.iconst (-1), 1) := by decide +kernel
theorem dX5_kindHere_91 : decode cX5_kindHere 91 = .ok (.ireturn, 1) := by decide +kernel
theorem dX5_partItem_0 : decode cX5_partItem 0 = .ok (.aload_n 0, 1) := by decide +kernel
theorem dX5_partItem_1 : decode cX5_partItem 1 = .ok (.getfield 223, 3) := by decide +kernel
theorem dX5_partItem_4 : decode cX5_partItem 4 = .ok (.ifCond .ne 51, 3) := by decide +kernel
theorem dX5_partItem_7 : decode cX5_partItem 7 = .ok (.aload_n 0, 1) := by decide +kernel
theorem dX5_partItem_8 : decode cX5_partItem 8 = .ok (.invokevirtual 241, 3) := by decide +kernel
theorem dX5_partItem_11 : decode cX5_partItem 11 = .ok (.lload_n 1, 1) := by decide +kernel
theorem dX5_partItem_12 : decode cX5_partItem 12 = .ok (.lcmp, 1) := by decide +kernel
theorem dX5_partItem_13 : decode cX5_partItem 13 = .ok (.ifCond .ne 42, 3) := by decide +kernel
theorem dX5_partItem_16 : decode cX5_partItem 16 = .ok (.aload_n 0, 1) := by decide +kernel
theorem dX5_partItem_17 : decode cX5_partItem 17 = .ok (.iconst 1, 1) := by decide +kernel
theorem dX5_partItem_18 : decode cX5_partItem 18 = .ok (.invokevirtual 237, 3) := by decide +kernel
theorem dX5_partItem_21 : decode cX5_partItem 21 = .ok (.aload_n 0, 1) := by decide +kernel
theorem dX5_partItem_22 : decode cX5_partItem 22 = .ok (.iload 4, 2) := by decide +kernel
theorem dX5_partItem_24 : decode cX5_partItem 24 = .ok (.iload 5, 2) := by decide +kernel
theorem dX5_partItem_26 : decode cX5_partItem 26 = .ok (.invokevirtual 259, 3) := by decide +kernel
theorem dX5_partItem_29 : decode cX5_partItem 29 = .ok (.aload_n 0, 1) := by decide +kernel
theorem dX5_partItem_30 : decode cX5_partItem 30 = .ok (.getfield 7, 3) := by decide +kernel
theorem dX5_partItem_33 : decode cX5_partItem 33 = .ok (.iload_n 3, 1) := by decide +kernel
theorem dX5_partItem_34 : decode cX5_partItem 34 = .ok (.aload_n 0, 1) := by decide +kernel
theorem dX5_partItem_35 : decode cX5_partItem 35 = .ok (.getfield 223, 3) := by decide +kernel
theorem dX5_partItem_38 : decode cX5_partItem 38 = .ok (.ifCond .eq 12, 3) := by decide +kernel
theorem dX5_partItem_41 : decode cX5_partItem 41 = .ok (.aload_n 0, 1) := by decide +kernel
theorem dX5_partItem_42 : decode cX5_partItem 42 = .ok (.getfield 7, 3) := by decide +kernel
theorem dX5_partItem_45 : decode cX5_partItem 45 = .ok (.iload_n 3, 1) := by decide +kernel
theorem dX5_partItem_46 : decode cX5_partItem 46 = .ok (.iaload, 1) := by decide +kernel
theorem dX5_partItem_47 : decode cX5_partItem 47 = .ok (.goto 7, 3) := by decide +kernel
theorem dX5_partItem_50 : decode cX5_partItem 50 = .ok (.aload_n 0, 1) := by decide +kernel
theorem dX5_partItem_51 : decode cX5_partItem 51 = .ok (.getfield 234, 3) := by decide +kernel
theorem dX5_partItem_54 : decode cX5_partItem 54 = .ok (.iastore, 1) := by decide +kernel
theorem dX5_partItem_55 : decode cX5_partItem 55 = .ok (.return_, 1) := by decide +kernel
theorem dX5_pieceItem_0 : decode cX5_pieceItem 0 = .ok (.aload_n 0, 1) := by decide +kernel
theorem dX5_pieceItem_1 : decode cX5_pieceItem 1 = .ok (.aload_n 0, 1) := by decide +kernel
theorem dX5_pieceItem_2 : decode cX5_pieceItem 2 = .ok (.getfield 7, 3) := by decide +kernel
theorem dX5_pieceItem_5 : decode cX5_pieceItem 5 = .ok (.iconst 1, 1) := by decide +kernel
theorem dX5_pieceItem_6 : decode cX5_pieceItem 6 = .ok (.iaload, 1) := by decide +kernel
theorem dX5_pieceItem_7 : decode cX5_pieceItem 7 = .ok (.bipush 8, 2) := by decide +kernel
theorem dX5_pieceItem_9 : decode cX5_pieceItem 9 = .ok (.if_icmp .ge 7, 3) := by decide +kernel
theorem dX5_pieceItem_12 : decode cX5_pieceItem 12 = .ok (.iconst 1, 1) := by decide +kernel
theorem dX5_pieceItem_13 : decode cX5_pieceItem 13 = .ok (.goto 4, 3) := by decide +kernel
theorem dX5_pieceItem_16 : decode cX5_pieceItem 16 = .ok (.iconst 0, 1) := by decide +kernel
theorem dX5_pieceItem_17 : decode cX5_pieceItem 17 = .ok (.invokevirtual 237, 3) := by decide +kernel
theorem dX5_pieceItem_20 : decode cX5_pieceItem 20 = .ok (.aload_n 0, 1) := by decide +kernel
theorem dX5_pieceItem_21 : decode cX5_pieceItem 21 = .ok (.getfield 223, 3) := by decide +kernel
theorem dX5_pieceItem_24 : decode cX5_pieceItem 24 = .ok (.ifCond .eq 4, 3) := by decide +kernel
theorem dX5_pieceItem_27 : decode cX5_pieceItem 27 = .ok (.return_, 1) := by decide +kernel
theorem dX5_pieceItem_28 : decode cX5_pieceItem 28 = .ok (.aload_n 0, 1) := by decide +kernel
theorem dX5_pieceItem_29 : decode cX5_pieceItem 29 = .ok (.iload_n 1, 1) := by decide +kernel
theorem dX5_pieceItem_30 : decode cX5_pieceItem 30 = .ok (.iconst 0, 1) := by decide +kernel
theorem dX5_pieceItem_31 : decode cX5_pieceItem 31 = .ok (.invokevirtual 70, 3) := by decide +kernel
theorem dX5_pieceItem_34 : decode cX5_pieceItem 34 = .ok (.istore_n 2, 1) := by decide +kernel
theorem dX5_pieceItem_35 : decode cX5_pieceItem 35 = .ok (.aload_n 0, 1) := by decide +kernel
theorem dX5_pieceItem_36 : decode cX5_pieceItem 36 = .ok (.ldc2_w 263, 3) := by decide +kernel
theorem dX5_pieceItem_39 : decode cX5_pieceItem 39 = .ok (.iload_n 2, 1) := by decide +kernel
theorem dX5_pieceItem_40 : decode cX5_pieceItem 40 = .ok (.iconst 1, 1) := by decide +kernel
theorem dX5_pieceItem_41 : decode cX5_pieceItem 41 = .ok (.invokestatic 49, 3) := by decide +kernel
theorem dX5_pieceItem_44 : decode cX5_pieceItem 44 = .ok (.iconst 0, 1) := by decide +kernel
theorem dX5_pieceItem_45 : decode cX5_pieceItem 45 = .ok (.bipush 11, 2) := by decide +kernel
theorem dX5_pieceItem_47 : decode cX5_pieceItem 47 = .ok (.invokevirtual 265, 3) := by decide +kernel
theorem dX5_pieceItem_50 : decode cX5_pieceItem 50 = .ok (.aload_n 0, 1) := by decide +kernel
theorem dX5_pieceItem_51 : decode cX5_pieceItem 51 = .ok (.ldc2_w 269, 3) := by decide +kernel
theorem dX5_pieceItem_54 : decode cX5_pieceItem 54 = .ok (.iload_n 2, 1) := by decide +kernel
theorem dX5_pieceItem_55 : decode cX5_pieceItem 55 = .ok (.iconst 2, 1) := by decide +kernel
theorem dX5_pieceItem_56 : decode cX5_pieceItem 56 = .ok (.invokestatic 49, 3) := by decide +kernel
theorem dX5_pieceItem_59 : decode cX5_pieceItem 59 = .ok (.iconst 1, 1) := by decide +kernel
theorem dX5_pieceItem_60 : decode cX5_pieceItem 60 = .ok (.bipush 99, 2) := by decide +kernel
theorem dX5_pieceItem_62 : decode cX5_pieceItem 62 = .ok (.invokevirtual 265, 3) := by decide +kernel
theorem dX5_pieceItem_65 : decode cX5_pieceItem 65 = .ok (.aload_n 0, 1) := by decide +kernel
theorem dX5_pieceItem_66 : decode cX5_pieceItem 66 = .ok (.ldc2_w 271, 3) := by decide +kernel
theorem dX5_pieceItem_69 : decode cX5_pieceItem 69 = .ok (.iload_n 2, 1) := by decide +kernel
theorem dX5_pieceItem_70 : decode cX5_pieceItem 70 = .ok (.iconst 3, 1) := by decide +kernel
theorem dX5_pieceItem_71 : decode cX5_pieceItem 71 = .ok (.invokestatic 49, 3) := by decide +kernel
theorem dX5_pieceItem_74 : decode cX5_pieceItem 74 = .ok (.iconst 0, 1) := by decide +kernel
theorem dX5_pieceItem_75 : decode cX5_pieceItem 75 = .ok (.bipush 9, 2) := by decide +kernel
theorem dX5_pieceItem_77 : decode cX5_pieceItem 77 = .ok (.invokevirtual 265, 3) := by decide +kernel
theorem dX5_pieceItem_80 : decode cX5_pieceItem 80 = .ok (.return_, 1) := by decide +kernel
theorem dX5_item_0 : decode cX5_item 0 = .ok (.aload_n 0, 1) := by decide +kernel
theorem dX5_item_1 : decode cX5_item 1 = .ok (.invokevirtual 273, 3) := by decide +kernel
theorem dX5_item_4 : decode cX5_item 4 = .ok (.istore_n 1, 1) := by decide +kernel
theorem dX5_item_5 : decode cX5_item 5 = .ok (.aload_n 0, 1) := by decide +kernel
theorem dX5_item_6 : decode cX5_item 6 = .ok (.invokevirtual 241, 3) := by decide +kernel
theorem dX5_item_9 : decode cX5_item 9 = .ok (.ldc2_w 276, 3) := by decide +kernel
theorem dX5_item_12 : decode cX5_item 12 = .ok (.lcmp, 1) := by decide +kernel
theorem dX5_item_13 : decode cX5_item 13 = .ok (.ifCond .ne 7, 3) := by decide +kernel
theorem dX5_item_16 : decode cX5_item 16 = .ok (.iconst 1, 1) := by decide +kernel
theorem dX5_item_17 : decode cX5_item 17 = .ok (.goto 4, 3) := by decide +kernel
theorem dX5_item_20 : decode cX5_item 20 = .ok (.iconst 0, 1) := by decide +kernel
theorem dX5_item_21 : decode cX5_item 21 = .ok (.istore_n 2, 1) := by decide +kernel
theorem dX5_item_22 : decode cX5_item 22 = .ok (.iload_n 1, 1) := by decide +kernel
theorem dX5_item_23 : decode cX5_item 23 = .ok (.ifCond .lt 11, 3) := by decide +kernel
theorem dX5_item_26 : decode cX5_item 26 = .ok (.aload_n 0, 1) := by decide +kernel
theorem dX5_item_27 : decode cX5_item 27 = .ok (.iload_n 1, 1) := by decide +kernel
theorem dX5_item_28 : decode cX5_item 28 = .ok (.invokevirtual 278, 3) := by decide +kernel
theorem dX5_item_31 : decode cX5_item 31 = .ok (.goto 79, 3) := by decide +kernel
theorem dX5_item_34 : decode cX5_item 34 = .ok (.aload_n 0, 1) := by decide +kernel
theorem dX5_item_35 : decode cX5_item 35 = .ok (.iload_n 2, 1) := by decide +kernel
theorem dX5_item_36 : decode cX5_item 36 = .ok (.ifCond .ne 14, 3) := by decide +kernel
theorem dX5_item_39 : decode cX5_item 39 = .ok (.aload_n 0, 1) := by decide +kernel
theorem dX5_item_40 : decode cX5_item 40 = .ok (.invokevirtual 241, 3) := by decide +kernel
theorem dX5_item_43 : decode cX5_item 43 = .ok (.ldc2_w 281, 3) := by decide +kernel
theorem dX5_item_46 : decode cX5_item 46 = .ok (.lcmp, 1) := by decide +kernel
theorem dX5_item_47 : decode cX5_item 47 = .ok (.ifCond .ne 7, 3) := by decide +kernel
theorem dX5_item_50 : decode cX5_item 50 = .ok (.iconst 1, 1) := by decide +kernel
theorem dX5_item_51 : decode cX5_item 51 = .ok (.goto 4, 3) := by decide +kernel
theorem dX5_item_54 : decode cX5_item 54 = .ok (.iconst 0, 1) := by decide +kernel
theorem dX5_item_55 : decode cX5_item 55 = .ok (.invokevirtual 237, 3) := by decide +kernel
theorem dX5_item_58 : decode cX5_item 58 = .ok (.aload_n 0, 1) := by decide +kernel
theorem dX5_item_59 : decode cX5_item 59 = .ok (.iconst 0, 1) := by decide +kernel
theorem dX5_item_60 : decode cX5_item 60 = .ok (.iload_n 2, 1) := by decide +kernel
theorem dX5_item_61 : decode cX5_item 61 = .ok (.ifCond .eq 8, 3) := by decide +kernel
theorem dX5_item_64 : decode cX5_item 64 = .ok (.bipush 11, 2) := by decide +kernel
theorem dX5_item_66 : decode cX5_item 66 = .ok (.goto 5, 3) := by decide +kernel
theorem dX5_item_69 : decode cX5_item 69 = .ok (.bipush 99, 2) := by decide +kernel
theorem dX5_item_71 : decode cX5_item 71 = .ok (.invokevirtual 259, 3) := by decide +kernel
theorem dX5_item_74 : decode cX5_item 74 = .ok (.iload_n 2, 1) := by decide +kernel
theorem dX5_item_75 : decode cX5_item 75 = .ok (.ifCond .eq 7, 3) := by decide +kernel
theorem dX5_item_78 : decode cX5_item 78 = .ok (.iconst 2, 1) := by decide +kernel
theorem dX5_item_79 : decode cX5_item 79 = .ok (.goto 4, 3) := by decide +kernel
theorem dX5_item_82 : decode cX5_item 82 = .ok (.iconst 3, 1) := by decide +kernel
theorem dX5_item_83 : decode cX5_item 83 = .ok (.istore_n 3, 1) := by decide +kernel
theorem dX5_item_84 : decode cX5_item 84 = .ok (.aload_n 0, 1) := by decide +kernel
theorem dX5_item_85 : decode cX5_item 85 = .ok (.getfield 7, 3) := by decide +kernel
theorem dX5_item_88 : decode cX5_item 88 = .ok (.iload_n 3, 1) := by decide +kernel
theorem dX5_item_89 : decode cX5_item 89 = .ok (.aload_n 0, 1) := by decide +kernel
theorem dX5_item_90 : decode cX5_item 90 = .ok (.getfield 223, 3) := by decide +kernel
theorem dX5_item_93 : decode cX5_item 93 = .ok (.ifCond .eq 12, 3) := by decide +kernel
theorem dX5_item_96 : decode cX5_item 96 = .ok (.aload_n 0, 1) := by decide +kernel
theorem dX5_item_97 : decode cX5_item 97 = .ok (.getfield 7, 3) := by decide +kernel
theorem dX5_item_100 : decode cX5_item 100 = .ok (.iload_n 3, 1) := by decide +kernel
theorem dX5_item_101 : decode cX5_item 101 = .ok (.iaload, 1) := by decide +kernel
theorem dX5_item_102 : decode cX5_item 102 = .ok (.goto 7, 3) := by decide +kernel
theorem dX5_item_105 : decode cX5_item 105 = .ok (.aload_n 0, 1) := by decide +kernel
theorem dX5_item_106 : decode cX5_item 106 = .ok (.getfield 234, 3) := by decide +kernel
theorem dX5_item_109 : decode cX5_item 109 = .ok (.iastore, 1) := by decide +kernel
theorem dX5_item_110 : decode cX5_item 110 = .ok (.return_, 1) := by decide +kernel
theorem dX5_text_0 : decode cX5_text 0 = .ok (.aload_n 0, 1) := by decide +kernel
theorem dX5_text_1 : decode cX5_text 1 = .ok (.invokevirtual 283, 3) := by decide +kernel
theorem dX5_text_4 : decode cX5_text 4 = .ok (.aload_n 0, 1) := by decide +kernel
theorem dX5_text_5 : decode cX5_text 5 = .ok (.iconst 0, 1) := by decide +kernel
theorem dX5_text_6 : decode cX5_text 6 = .ok (.putfield 223, 3) := by decide +kernel
theorem dX5_text_9 : decode cX5_text 9 = .ok (.aload_n 0, 1) := by decide +kernel
theorem dX5_text_10 : decode cX5_text 10 = .ok (.iconst 0, 1) := by decide +kernel
theorem dX5_text_11 : decode cX5_text 11 = .ok (.putfield 208, 3) := by decide +kernel
theorem dX5_text_14 : decode cX5_text 14 = .ok (.aload_n 0, 1) := by decide +kernel
theorem dX5_text_15 : decode cX5_text 15 = .ok (.invokevirtual 227, 3) := by decide +kernel
theorem dX5_text_18 : decode cX5_text 18 = .ok (.iconst 1, 1) := by decide +kernel
theorem dX5_text_19 : decode cX5_text 19 = .ok (.istore_n 1, 1) := by decide +kernel
theorem dX5_text_20 : decode cX5_text 20 = .ok (.aload_n 0, 1) := by decide +kernel
theorem dX5_text_21 : decode cX5_text 21 = .ok (.invokevirtual 286, 3) := by decide +kernel
theorem dX5_text_24 : decode cX5_text 24 = .ok (.aload_n 0, 1) := by decide +kernel
theorem dX5_text_25 : decode cX5_text 25 = .ok (.getfield 223, 3) := by decide +kernel
theorem dX5_text_28 : decode cX5_text 28 = .ok (.ifCond .ne 31, 3) := by decide +kernel
theorem dX5_text_31 : decode cX5_text 31 = .ok (.aload_n 0, 1) := by decide +kernel
theorem dX5_text_32 : decode cX5_text 32 = .ok (.aload_n 0, 1) := by decide +kernel
theorem dX5_text_33 : decode cX5_text 33 = .ok (.getfield 211, 3) := by decide +kernel
theorem dX5_text_36 : decode cX5_text 36 = .ok (.invokevirtual 214, 3) := by decide +kernel
theorem dX5_text_39 : decode cX5_text 39 = .ok (.bipush 59, 2) := by decide +kernel
theorem dX5_text_41 : decode cX5_text 41 = .ok (.if_icmp .ne 18, 3) := by decide +kernel
theorem dX5_text_44 : decode cX5_text 44 = .ok (.aload_n 0, 1) := by decide +kernel
theorem dX5_text_45 : decode cX5_text 45 = .ok (.iconst 1, 1) := by decide +kernel
theorem dX5_text_46 : decode cX5_text 46 = .ok (.invokevirtual 237, 3) := by decide +kernel
theorem dX5_text_49 : decode cX5_text 49 = .ok (.aload_n 0, 1) := by decide +kernel
theorem dX5_text_50 : decode cX5_text 50 = .ok (.invokevirtual 286, 3) := by decide +kernel
theorem dX5_text_53 : decode cX5_text 53 = .ok (.iinc 1 1, 3) := by decide +kernel
theorem dX5_text_56 : decode cX5_text 56 = .ok (.goto (-32), 3) := by decide +kernel
theorem dX5_text_59 : decode cX5_text 59 = .ok (.aload_n 0, 1) := by decide +kernel
theorem dX5_text_60 : decode cX5_text 60 = .ok (.aload_n 0, 1) := by decide +kernel
theorem dX5_text_61 : decode cX5_text 61 = .ok (.getfield 223, 3) := by decide +kernel
theorem dX5_text_64 : decode cX5_text 64 = .ok (.ifCond .ne 14, 3) := by decide +kernel
theorem dX5_text_67 : decode cX5_text 67 = .ok (.aload_n 0, 1) := by decide +kernel
theorem dX5_text_68 : decode cX5_text 68 = .ok (.getfield 211, 3) := by decide +kernel
theorem dX5_text_71 : decode cX5_text 71 = .ok (.aload_n 0, 1) := by decide +kernel
theorem dX5_text_72 : decode cX5_text 72 = .ok (.getfield 197, 3) := by decide +kernel
theorem dX5_text_75 : decode cX5_text 75 = .ok (.if_icmp .ge 7, 3) := by decide +kernel
theorem dX5_text_78 : decode cX5_text 78 = .ok (.iconst 1, 1) := by decide +kernel
theorem dX5_text_79 : decode cX5_text 79 = .ok (.goto 4, 3) := by decide +kernel
theorem dX5_text_82 : decode cX5_text 82 = .ok (.iconst 0, 1) := by decide +kernel
theorem dX5_text_83 : decode cX5_text 83 = .ok (.putfield 223, 3) := by decide +kernel
theorem dX5_text_86 : decode cX5_text 86 = .ok (.aload_n 0, 1) := by decide +kernel
theorem dX5_text_87 : decode cX5_text 87 = .ok (.getfield 223, 3) := by decide +kernel
theorem dX5_text_90 : decode cX5_text 90 = .ok (.ifCond .eq 7, 3) := by decide +kernel
theorem dX5_text_93 : decode cX5_text 93 = .ok (.aload_n 0, 1) := by decide +kernel
theorem dX5_text_94 : decode cX5_text 94 = .ok (.invokevirtual 289, 3) := by decide +kernel
theorem dX5_text_97 : decode cX5_text 97 = .ok (.aload_n 0, 1) := by decide +kernel
theorem dX5_text_98 : decode cX5_text 98 = .ok (.iconst 0, 1) := by decide +kernel
theorem dX5_text_99 : decode cX5_text 99 = .ok (.putfield 197, 3) := by decide +kernel
theorem dX5_text_102 : decode cX5_text 102 = .ok (.aload_n 0, 1) := by decide +kernel
theorem dX5_text_103 : decode cX5_text 103 = .ok (.getfield 223, 3) := by decide +kernel
theorem dX5_text_106 : decode cX5_text 106 = .ok (.ifCond .eq 12, 3) := by decide +kernel
theorem dX5_text_109 : decode cX5_text 109 = .ok (.iconst (-1), 1) := by decide +kernel
theorem dX5_text_110 : decode cX5_text 110 = .ok (.aload_n 0, 1) := by decide +kernel
theorem dX5_text_111 : decode cX5_text 111 = .ok (.getfield 211, 3) := by decide +kernel
theorem dX5_text_114 : decode cX5_text 114 = .ok (.isub, 1) := by decide +kernel
theorem dX5_text_115 : decode cX5_text 115 = .ok (.goto 4, 3) := by decide +kernel
theorem dX5_text_118 : decode cX5_text 118 = .ok (.iload_n 1, 1) := by decide +kernel
theorem dX5_text_119 : decode cX5_text 119 = .ok (.ireturn, 1) := by decide +kernel
theorem dX5_isSpot_0 : decode cX5_isSpot 0 = .ok (.iload_n 0, 1) := by decide +kernel
theorem dX5_isSpot_1 : decode cX5_isSpot 1 = .ok (.i2l, 1) := by decide +kernel
theorem dX5_isSpot_2 : decode cX5_isSpot 2 = .ok (.lconst 0, 1) := by decide +kernel
theorem dX5_isSpot_3 : decode cX5_isSpot 3 = .ok (.ldc2_w 98, 3) := by decide +kernel
theorem dX5_isSpot_6 : decode cX5_isSpot 6 = .ok (.invokestatic 43, 3) := by decide +kernel
theorem dX5_isSpot_9 : decode cX5_isSpot 9 = .ok (.ireturn, 1) := by decide +kernel
theorem dX5_hold_0 : decode cX5_hold 0 = .ok (.iload_n 1, 1) := by decide +kernel
theorem dX5_hold_1 : decode cX5_hold 1 = .ok (.invokestatic 292, 3) := by decide +kernel
theorem dX5_hold_4 : decode cX5_hold 4 = .ok (.ifCond .eq 16, 3) := by decide +kernel
theorem dX5_hold_7 : decode cX5_hold 7 = .ok (.iload_n 2, 1) := by decide +kernel
theorem dX5_hold_8 : decode cX5_hold 8 = .ok (.iconst (-1), 1) := by decide +kernel
theorem dX5_hold_9 : decode cX5_hold 9 = .ok (.if_icmp .eq 18, 3) := by decide +kernel
theorem dX5_hold_12 : decode cX5_hold 12 = .ok (.aload_n 0, 1) := by decide +kernel
theorem dX5_hold_13 : decode cX5_hold 13 = .ok (.iload_n 2, 1) := by decide +kernel
theorem dX5_hold_14 : decode cX5_hold 14 = .ok (.invokevirtual 95, 3) := by decide +kernel
theorem dX5_hold_17 : decode cX5_hold 17 = .ok (.ifCond .ne 10, 3) := by decide +kernel
theorem dX5_hold_20 : decode cX5_hold 20 = .ok (.aload_n 0, 1) := by decide +kernel
theorem dX5_hold_21 : decode cX5_hold 21 = .ok (.ldc 40, 2) := by decide +kernel
theorem dX5_hold_23 : decode cX5_hold 23 = .ok (.invokevirtual 60, 3) := by decide +kernel
theorem dX5_hold_26 : decode cX5_hold 26 = .ok (.ireturn, 1) := by decide +kernel
theorem dX5_hold_27 : decode cX5_hold 27 = .ok (.aload_n 0, 1) := by decide +kernel
theorem dX5_hold_28 : decode cX5_hold 28 = .ok (.getfield 7, 3) := by decide +kernel
theorem dX5_hold_31 : decode cX5_hold 31 = .ok (.bipush 54, 2) := by decide +kernel
theorem dX5_hold_33 : decode cX5_hold 33 = .ok (.iload_n 1, 1) := by decide +kernel
theorem dX5_hold_34 : decode cX5_hold 34 = .ok (.iadd, 1) := by decide +kernel
theorem dX5_hold_35 : decode cX5_hold 35 = .ok (.iload_n 2, 1) := by decide +kernel
theorem dX5_hold_36 : decode cX5_hold 36 = .ok (.iastore, 1) := by decide +kernel
theorem dX5_hold_37 : decode cX5_hold 37 = .ok (.iconst 1, 1) := by decide +kernel
theorem dX5_hold_38 : decode cX5_hold 38 = .ok (.ireturn, 1) := by decide +kernel
theorem dX5_above_0 : decode cX5_above 0 = .ok (.iload_n 0, 1) := by decide +kernel
theorem dX5_above_1 : decode cX5_above 1 = .ok (.iconst 3, 1) := by decide +kernel
theorem dX5_above_2 : decode cX5_above 2 = .ok (.if_icmp .ne 7, 3) := by decide +kernel
theorem dX5_above_5 : decode cX5_above 5 = .ok (.iconst 2, 1) := by decide +kernel
theorem dX5_above_6 : decode cX5_above 6 = .ok (.goto 23, 3) := by decide +kernel
theorem dX5_above_9 : decode cX5_above 9 = .ok (.iload_n 0, 1) := by decide +kernel
theorem dX5_above_10 : decode cX5_above 10 = .ok (.iconst 4, 1) := by decide +kernel
theorem dX5_above_11 : decode cX5_above 11 = .ok (.if_icmp .ne 7, 3) := by decide +kernel
theorem dX5_above_14 : decode cX5_above 14 = .ok (.iconst 3, 1) := by decide +kernel
theorem dX5_above_15 : decode cX5_above 15 = .ok (.goto 14, 3) := by decide +kernel
theorem dX5_above_18 : decode cX5_above 18 = .ok (.iload_n 0, 1) := by decide +kernel
theorem dX5_above_19 : decode cX5_above 19 = .ok (.bipush 6, 2) := by decide +kernel
theorem dX5_above_21 : decode cX5_above 21 = .ok (.if_icmp .ne 7, 3) := by decide +kernel
theorem dX5_above_24 : decode cX5_above 24 = .ok (.iconst 1, 1) := by decide +kernel
theorem dX5_above_25 : decode cX5_above 25 = .ok (.goto 4, 3) := by decide +kernel
theorem dX5_above_28 : decode cX5_above 28 = .ok (.iconst 0, 1) := by decide +kernel
theorem dX5_above_29 : decode cX5_above 29 = .ok (.ireturn, 1) := by decide +kernel
theorem dX5_as_0 : decode cX5_as 0 = .ok (.iload_n 1, 1) := by decide +kernel
theorem dX5_as_1 : decode cX5_as 1 = .ok (.invokestatic 292, 3) := by decide +kernel
theorem dX5_as_4 : decode cX5_as 4 = .ok (.ifCond .eq 10, 3) := by decide +kernel
theorem dX5_as_7 : decode cX5_as 7 = .ok (.iload_n 2, 1) := by decide +kernel
theorem dX5_as_8 : decode cX5_as 8 = .ok (.invokestatic 66, 3) := by decide +kernel
theorem dX5_as_11 : decode cX5_as 11 = .ok (.ifCond .ne 10, 3) := by decide +kernel
theorem dX5_as_14 : decode cX5_as 14 = .ok (.aload_n 0, 1) := by decide +kernel
theorem dX5_as_15 : decode cX5_as 15 = .ok (.ldc 40, 2) := by decide +kernel
theorem dX5_as_17 : decode cX5_as 17 = .ok (.invokevirtual 60, 3) := by decide +kernel
theorem dX5_as_20 : decode cX5_as 20 = .ok (.ireturn, 1) := by decide +kernel
theorem dX5_as_21 : decode cX5_as 21 = .ok (.aload_n 0, 1) := by decide +kernel
theorem dX5_as_22 : decode cX5_as 22 = .ok (.getfield 7, 3) := by decide +kernel
theorem dX5_as_25 : decode cX5_as 25 = .ok (.bipush 54, 2) := by decide +kernel
theorem dX5_as_27 : decode cX5_as 27 = .ok (.iload_n 1, 1) := by decide +kernel
theorem dX5_as_28 : decode cX5_as 28 = .ok (.iadd, 1) := by decide +kernel
theorem dX5_as_29 : decode cX5_as 29 = .ok (.iaload, 1) := by decide +kernel
theorem dX5_as_30 : decode cX5_as 30 = .ok (.istore_n 3, 1) := by decide +kernel
theorem dX5_as_31 : decode cX5_as 31 = .ok (.iload_n 3, 1) := by decide +kernel
theorem dX5_as_32 : decode cX5_as 32 = .ok (.ifCond .ge 11, 3) := by decide +kernel
theorem dX5_as_35 : decode cX5_as 35 = .ok (.aload_n 0, 1) := by decide +kernel
theorem dX5_as_36 : decode cX5_as 36 = .ok (.ldc_w 295, 3) := by decide +kernel
theorem dX5_as_39 : decode cX5_as 39 = .ok (.invokevirtual 60, 3) := by decide +kernel
theorem dX5_as_42 : decode cX5_as 42 = .ok (.ireturn, 1) := by decide +kernel
theorem dX5_as_43 : decode cX5_as 43 = .ok (.aload_n 0, 1) := by decide +kernel
theorem dX5_as_44 : decode cX5_as 44 = .ok (.iload_n 3, 1) := by decide +kernel
theorem dX5_as_45 : decode cX5_as 45 = .ok (.iconst 0, 1) := by decide +kernel
theorem dX5_as_46 : decode cX5_as 46 = .ok (.invokevirtual 73, 3) := by decide +kernel
theorem dX5_as_49 : decode cX5_as 49 = .ok (.istore 4, 2) := by decide +kernel
theorem dX5_as_51 : decode cX5_as 51 = .ok (.iload 4, 2) := by decide +kernel
theorem dX5_as_53 : decode cX5_as 53 = .ok (.iload_n 2, 1) := by decide +kernel
theorem dX5_as_54 : decode cX5_as 54 = .ok (.if_icmp .eq 18, 3) := by decide +kernel
theorem dX5_as_57 : decode cX5_as 57 = .ok (.iload 4, 2) := by decide +kernel
theorem dX5_as_59 : decode cX5_as 59 = .ok (.ifCond .eq 13, 3) := by decide +kernel
theorem dX5_as_62 : decode cX5_as 62 = .ok (.iload 4, 2) := by decide +kernel
theorem dX5_as_64 : decode cX5_as 64 = .ok (.invokestatic 296, 3) := by decide +kernel
theorem dX5_as_67 : decode cX5_as 67 = .ok (.istore 4, 2) := by decide +kernel
theorem dX5_as_69 : decode cX5_as 69 = .ok (.goto (-18), 3) := by decide +kernel
theorem dX5_as_72 : decode cX5_as 72 = .ok (.iload 4, 2) := by decide +kernel
theorem dX5_as_74 : decode cX5_as 74 = .ok (.iload_n 2, 1) := by decide +kernel
theorem dX5_as_75 : decode cX5_as 75 = .ok (.if_icmp .ne 7, 3) := by decide +kernel
theorem dX5_as_78 : decode cX5_as 78 = .ok (.iload_n 3, 1) := by decide +kernel
theorem dX5_as_79 : decode cX5_as 79 = .ok (.goto 10, 3) := by decide +kernel
theorem dX5_as_82 : decode cX5_as 82 = .ok (.aload_n 0, 1) := by decide +kernel
theorem dX5_as_83 : decode cX5_as 83 = .ok (.ldc_w 299, 3) := by decide +kernel
theorem dX5_as_86 : decode cX5_as 86 = .ok (.invokevirtual 60, 3) := by decide +kernel
theorem dX5_as_89 : decode cX5_as 89 = .ok (.ireturn, 1) := by decide +kernel
theorem dX5_isOne_0 : decode cX5_isOne 0 = .ok (.iload_n 0, 1) := by decide +kernel
theorem dX5_isOne_1 : decode cX5_isOne 1 = .ok (.i2l, 1) := by decide +kernel
theorem dX5_isOne_2 : decode cX5_isOne 2 = .ok (.lconst 0, 1) := by decide +kernel
theorem dX5_isOne_3 : decode cX5_isOne 3 = .ok (.ldc2_w 300, 3) := by decide +kernel
theorem dX5_isOne_6 : decode cX5_isOne 6 = .ok (.invokestatic 43, 3) := by decide +kernel
theorem dX5_isOne_9 : decode cX5_isOne 9 = .ok (.ireturn, 1) := by decide +kernel
theorem dX5_sheet_0 : decode cX5_sheet 0 = .ok (.iload_n 1, 1) := by decide +kernel
theorem dX5_sheet_1 : decode cX5_sheet 1 = .ok (.invokestatic 302, 3) := by decide +kernel
theorem dX5_sheet_4 : decode cX5_sheet 4 = .ok (.ifCond .eq 25, 3) := by decide +kernel
theorem dX5_sheet_7 : decode cX5_sheet 7 = .ok (.iload_n 2, 1) := by decide +kernel
theorem dX5_sheet_8 : decode cX5_sheet 8 = .ok (.ifCond .eq 28, 3) := by decide +kernel
theorem dX5_sheet_11 : decode cX5_sheet 11 = .ok (.iload_n 2, 1) := by decide +kernel
theorem dX5_sheet_12 : decode cX5_sheet 12 = .ok (.bipush 8, 2) := by decide +kernel
theorem dX5_sheet_14 : decode cX5_sheet 14 = .ok (.if_icmp .eq 22, 3) := by decide +kernel
theorem dX5_sheet_17 : decode cX5_sheet 17 = .ok (.iload_n 2, 1) := by decide +kernel
theorem dX5_sheet_18 : decode cX5_sheet 18 = .ok (.bipush 16, 2) := by decide +kernel
theorem dX5_sheet_20 : decode cX5_sheet 20 = .ok (.if_icmp .eq 16, 3) := by decide +kernel
theorem dX5_sheet_23 : decode cX5_sheet 23 = .ok (.iload_n 2, 1) := by decide +kernel
theorem dX5_sheet_24 : decode cX5_sheet 24 = .ok (.bipush 32, 2) := by decide +kernel
theorem dX5_sheet_26 : decode cX5_sheet 26 = .ok (.if_icmp .eq 10, 3) := by decide +kernel
theorem dX5_sheet_29 : decode cX5_sheet 29 = .ok (.aload_n 0, 1) := by decide +kernel
theorem dX5_sheet_30 : decode cX5_sheet 30 = .ok (.ldc 40, 2) := by decide +kernel
theorem dX5_sheet_32 : decode cX5_sheet 32 = .ok (.invokevirtual 60, 3) := by decide +kernel
theorem dX5_sheet_35 : decode cX5_sheet 35 = .ok (.ireturn, 1) := by decide +kernel
theorem dX5_sheet_36 : decode cX5_sheet 36 = .ok (.iload_n 3, 1) := by decide +kernel
theorem dX5_sheet_37 : decode cX5_sheet 37 = .ok (.ifCond .ge 11, 3) := by decide +kernel
theorem dX5_sheet_40 : decode cX5_sheet 40 = .ok (.aload_n 0, 1) := by decide +kernel
theorem dX5_sheet_41 : decode cX5_sheet 41 = .ok (.ldc_w 305, 3) := by decide +kernel
theorem dX5_sheet_44 : decode cX5_sheet 44 = .ok (.invokevirtual 60, 3) := by decide +kernel
theorem dX5_sheet_47 : decode cX5_sheet 47 = .ok (.ireturn, 1) := by decide +kernel
theorem dX5_sheet_48 : decode cX5_sheet 48 = .ok (.iload_n 3, 1) := by decide +kernel
theorem dX5_sheet_49 : decode cX5_sheet 49 = .ok (.bipush 40, 2) := by decide +kernel
theorem dX5_sheet_51 : decode cX5_sheet 51 = .ok (.if_icmp .le 10, 3) := by decide +kernel
theorem dX5_sheet_54 : decode cX5_sheet 54 = .ok (.aload_n 0, 1) := by decide +kernel
theorem dX5_sheet_55 : decode cX5_sheet 55 = .ok (.ldc 40, 2) := by decide +kernel
theorem dX5_sheet_57 : decode cX5_sheet 57 = .ok (.invokevirtual 60, 3) := by decide +kernel
theorem dX5_sheet_60 : decode cX5_sheet 60 = .ok (.ireturn, 1) := by decide +kernel
theorem dX5_sheet_61 : decode cX5_sheet 61 = .ok (.aload_n 0, 1) := by decide +kernel
theorem dX5_sheet_62 : decode cX5_sheet 62 = .ok (.getfield 28, 3) := by decide +kernel
theorem dX5_sheet_65 : decode cX5_sheet 65 = .ok (.iload_n 1, 1) := by decide +kernel
theorem dX5_sheet_66 : decode cX5_sheet 66 = .ok (.iload_n 2, 1) := by decide +kernel
theorem dX5_sheet_67 : decode cX5_sheet 67 = .ok (.iastore, 1) := by decide +kernel
theorem dX5_sheet_68 : decode cX5_sheet 68 = .ok (.aload_n 0, 1) := by decide +kernel
theorem dX5_sheet_69 : decode cX5_sheet 69 = .ok (.getfield 31, 3) := by decide +kernel
theorem dX5_sheet_72 : decode cX5_sheet 72 = .ok (.iload_n 1, 1) := by decide +kernel
theorem dX5_sheet_73 : decode cX5_sheet 73 = .ok (.iload_n 2, 1) := by decide +kernel
theorem dX5_sheet_74 : decode cX5_sheet 74 = .ok (.ifCond .ne 7, 3) := by decide +kernel
theorem dX5_sheet_77 : decode cX5_sheet 77 = .ok (.iconst 0, 1) := by decide +kernel
theorem dX5_sheet_78 : decode cX5_sheet 78 = .ok (.goto 4, 3) := by decide +kernel
theorem dX5_sheet_81 : decode cX5_sheet 81 = .ok (.iload_n 3, 1) := by decide +kernel
theorem dX5_sheet_82 : decode cX5_sheet 82 = .ok (.iastore, 1) := by decide +kernel
theorem dX5_sheet_83 : decode cX5_sheet 83 = .ok (.iconst 0, 1) := by decide +kernel
theorem dX5_sheet_84 : decode cX5_sheet 84 = .ok (.istore 4, 2) := by decide +kernel
theorem dX5_sheet_86 : decode cX5_sheet 86 = .ok (.iload 4, 2) := by decide +kernel
theorem dX5_sheet_88 : decode cX5_sheet 88 = .ok (.bipush 40, 2) := by decide +kernel
theorem dX5_sheet_90 : decode cX5_sheet 90 = .ok (.if_icmp .ge 22, 3) := by decide +kernel
theorem dX5_sheet_93 : decode cX5_sheet 93 = .ok (.aload_n 0, 1) := by decide +kernel
theorem dX5_sheet_94 : decode cX5_sheet 94 = .ok (.getfield 34, 3) := by decide +kernel
theorem dX5_sheet_97 : decode cX5_sheet 97 = .ok (.bipush 40, 2) := by decide +kernel
theorem dX5_sheet_99 : decode cX5_sheet 99 = .ok (.iload_n 1, 1) := by decide +kernel
theorem dX5_sheet_100 : decode cX5_sheet 100 = .ok (.imul, 1) := by decide +kernel
theorem dX5_sheet_101 : decode cX5_sheet 101 = .ok (.iload 4, 2) := by decide +kernel
theorem dX5_sheet_103 : decode cX5_sheet 103 = .ok (.iadd, 1) := by decide +kernel
theorem dX5_sheet_104 : decode cX5_sheet 104 = .ok (.iconst 0, 1) := by decide +kernel
theorem dX5_sheet_105 : decode cX5_sheet 105 = .ok (.iastore, 1) := by decide +kernel
theorem dX5_sheet_106 : decode cX5_sheet 106 = .ok (.iinc 4 1, 3) := by decide +kernel
theorem dX5_sheet_109 : decode cX5_sheet 109 = .ok (.goto (-23), 3) := by decide +kernel
theorem dX5_sheet_112 : decode cX5_sheet 112 = .ok (.aload_n 0, 1) := by decide +kernel
theorem dX5_sheet_113 : decode cX5_sheet 113 = .ok (.getfield 31, 3) := by decide +kernel
theorem dX5_sheet_116 : decode cX5_sheet 116 = .ok (.iload_n 1, 1) := by decide +kernel
theorem dX5_sheet_117 : decode cX5_sheet 117 = .ok (.iaload, 1) := by decide +kernel
theorem dX5_sheet_118 : decode cX5_sheet 118 = .ok (.ireturn, 1) := by decide +kernel
theorem dX5_narrowed_0 : decode cX5_narrowed 0 = .ok (.iload_n 0, 1) := by decide +kernel
theorem dX5_narrowed_1 : decode cX5_narrowed 1 = .ok (.bipush 8, 2) := by decide +kernel
theorem dX5_narrowed_3 : decode cX5_narrowed 3 = .ok (.if_icmp .ne 8, 3) := by decide +kernel
theorem dX5_narrowed_6 : decode cX5_narrowed 6 = .ok (.iload_n 1, 1) := by decide +kernel
theorem dX5_narrowed_7 : decode cX5_narrowed 7 = .ok (.i2b, 1) := by decide +kernel
theorem dX5_narrowed_8 : decode cX5_narrowed 8 = .ok (.goto 15, 3) := by decide +kernel
theorem dX5_narrowed_11 : decode cX5_narrowed 11 = .ok (.iload_n 0, 1) := by decide +kernel
theorem dX5_narrowed_12 : decode cX5_narrowed 12 = .ok (.bipush 16, 2) := by decide +kernel
theorem dX5_narrowed_14 : decode cX5_narrowed 14 = .ok (.if_icmp .ne 8, 3) := by decide +kernel
theorem dX5_narrowed_17 : decode cX5_narrowed 17 = .ok (.iload_n 1, 1) := by decide +kernel
theorem dX5_narrowed_18 : decode cX5_narrowed 18 = .ok (.i2s, 1) := by decide +kernel
theorem dX5_narrowed_19 : decode cX5_narrowed 19 = .ok (.goto 4, 3) := by decide +kernel
theorem dX5_narrowed_22 : decode cX5_narrowed 22 = .ok (.iload_n 1, 1) := by decide +kernel
theorem dX5_narrowed_23 : decode cX5_narrowed 23 = .ok (.ireturn, 1) := by decide +kernel
theorem dX5_wrong_0 : decode cX5_wrong 0 = .ok (.iload_n 1, 1) := by decide +kernel
theorem dX5_wrong_1 : decode cX5_wrong 1 = .ok (.invokestatic 302, 3) := by decide +kernel
theorem dX5_wrong_4 : decode cX5_wrong 4 = .ok (.ifCond .ne 8, 3) := by decide +kernel
theorem dX5_wrong_7 : decode cX5_wrong 7 = .ok (.ldc 40, 2) := by decide +kernel
theorem dX5_wrong_9 : decode cX5_wrong 9 = .ok (.goto 19, 3) := by decide +kernel
theorem dX5_wrong_12 : decode cX5_wrong 12 = .ok (.aload_n 0, 1) := by decide +kernel
theorem dX5_wrong_13 : decode cX5_wrong 13 = .ok (.getfield 28, 3) := by decide +kernel
theorem dX5_wrong_16 : decode cX5_wrong 16 = .ok (.iload_n 1, 1) := by decide +kernel
theorem dX5_wrong_17 : decode cX5_wrong 17 = .ok (.iaload, 1) := by decide +kernel
theorem dX5_wrong_18 : decode cX5_wrong 18 = .ok (.ifCond .ne 9, 3) := by decide +kernel
theorem dX5_wrong_21 : decode cX5_wrong 21 = .ok (.ldc_w 295, 3) := by decide +kernel
