theorem dX4_count_105 : decode cX4_count 105 = .ok (.aload_n 0, 1) := by decide +kernel
theorem dX4_count_106 : decode cX4_count 106 = .ok (.getfield 12, 3) := by decide +kernel
theorem dX4_count_109 : decode cX4_count 109 = .ok (.invokevirtual 241, 3) := by decide +kernel
theorem dX4_count_112 : decode cX4_count 112 = .ok (.ireturn, 1) := by decide +kernel
theorem dX4_count_113 : decode cX4_count 113 = .ok (.aload_n 0, 1) := by decide +kernel
theorem dX4_count_114 : decode cX4_count 114 = .ok (.ldc 57, 2) := by decide +kernel
theorem dX4_count_116 : decode cX4_count 116 = .ok (.invokevirtual 58, 3) := by decide +kernel
theorem dX4_count_119 : decode cX4_count 119 = .ok (.ireturn, 1) := by decide +kernel
theorem dX4_status_0 : decode cX4_status 0 = .ok (.iload_n 1, 1) := by decide +kernel
theorem dX4_status_1 : decode cX4_status 1 = .ok (.iconst (-1), 1) := by decide +kernel
theorem dX4_status_2 : decode cX4_status 2 = .ok (.bipush 6, 2) := by decide +kernel
theorem dX4_status_4 : decode cX4_status 4 = .ok (.invokestatic 66, 3) := by decide +kernel
theorem dX4_status_7 : decode cX4_status 7 = .ok (.ifCond .ne 10, 3) := by decide +kernel
theorem dX4_status_10 : decode cX4_status 10 = .ok (.aload_n 0, 1) := by decide +kernel
theorem dX4_status_11 : decode cX4_status 11 = .ok (.ldc 57, 2) := by decide +kernel
theorem dX4_status_13 : decode cX4_status 13 = .ok (.invokevirtual 58, 3) := by decide +kernel
theorem dX4_status_16 : decode cX4_status 16 = .ok (.ireturn, 1) := by decide +kernel
theorem dX4_status_17 : decode cX4_status 17 = .ok (.iload_n 1, 1) := by decide +kernel
theorem dX4_status_18 : decode cX4_status 18 = .ok (.ifCond .lt 10, 3) := by decide +kernel
theorem dX4_status_21 : decode cX4_status 21 = .ok (.aload_n 0, 1) := by decide +kernel
theorem dX4_status_22 : decode cX4_status 22 = .ok (.getfield 49, 3) := by decide +kernel
theorem dX4_status_25 : decode cX4_status 25 = .ok (.iload_n 1, 1) := by decide +kernel
theorem dX4_status_26 : decode cX4_status 26 = .ok (.iaload, 1) := by decide +kernel
theorem dX4_status_27 : decode cX4_status 27 = .ok (.ireturn, 1) := by decide +kernel
theorem dX4_status_28 : decode cX4_status 28 = .ok (.iconst 0, 1) := by decide +kernel
theorem dX4_status_29 : decode cX4_status 29 = .ok (.istore_n 2, 1) := by decide +kernel
theorem dX4_status_30 : decode cX4_status 30 = .ok (.iconst 0, 1) := by decide +kernel
theorem dX4_status_31 : decode cX4_status 31 = .ok (.istore_n 3, 1) := by decide +kernel
theorem dX4_status_32 : decode cX4_status 32 = .ok (.iload_n 3, 1) := by decide +kernel
theorem dX4_status_33 : decode cX4_status 33 = .ok (.bipush 7, 2) := by decide +kernel
theorem dX4_status_35 : decode cX4_status 35 = .ok (.if_icmp .ge 18, 3) := by decide +kernel
theorem dX4_status_38 : decode cX4_status 38 = .ok (.iload_n 2, 1) := by decide +kernel
theorem dX4_status_39 : decode cX4_status 39 = .ok (.aload_n 0, 1) := by decide +kernel
theorem dX4_status_40 : decode cX4_status 40 = .ok (.getfield 49, 3) := by decide +kernel
theorem dX4_status_43 : decode cX4_status 43 = .ok (.iload_n 3, 1) := by decide +kernel
theorem dX4_status_44 : decode cX4_status 44 = .ok (.iaload, 1) := by decide +kernel
theorem dX4_status_45 : decode cX4_status 45 = .ok (.iadd, 1) := by decide +kernel
theorem dX4_status_46 : decode cX4_status 46 = .ok (.istore_n 2, 1) := by decide +kernel
theorem dX4_status_47 : decode cX4_status 47 = .ok (.iinc 3 1, 3) := by decide +kernel
theorem dX4_status_50 : decode cX4_status 50 = .ok (.goto (-18), 3) := by decide +kernel
theorem dX4_status_53 : decode cX4_status 53 = .ok (.iload_n 2, 1) := by decide +kernel
theorem dX4_status_54 : decode cX4_status 54 = .ok (.ireturn, 1) := by decide +kernel
theorem dX4_finding_0 : decode cX4_finding 0 = .ok (.ldc 57, 2) := by decide +kernel
theorem dX4_finding_2 : decode cX4_finding 2 = .ok (.iload_n 1, 1) := by decide +kernel
theorem dX4_finding_3 : decode cX4_finding 3 = .ok (.isub, 1) := by decide +kernel
theorem dX4_finding_4 : decode cX4_finding 4 = .ok (.istore_n 2, 1) := by decide +kernel
theorem dX4_finding_5 : decode cX4_finding 5 = .ok (.iload_n 2, 1) := by decide +kernel
theorem dX4_finding_6 : decode cX4_finding 6 = .ok (.ifCond .lt 19, 3) := by decide +kernel
theorem dX4_finding_9 : decode cX4_finding 9 = .ok (.iload_n 2, 1) := by decide +kernel
theorem dX4_finding_10 : decode cX4_finding 10 = .ok (.bipush 7, 2) := by decide +kernel
theorem dX4_finding_12 : decode cX4_finding 12 = .ok (.if_icmp .ge 13, 3) := by decide +kernel
theorem dX4_finding_15 : decode cX4_finding 15 = .ok (.aload_n 0, 1) := by decide +kernel
theorem dX4_finding_16 : decode cX4_finding 16 = .ok (.getfield 49, 3) := by decide +kernel
theorem dX4_finding_19 : decode cX4_finding 19 = .ok (.iload_n 2, 1) := by decide +kernel
theorem dX4_finding_20 : decode cX4_finding 20 = .ok (.dup2, 1) := by decide +kernel
theorem dX4_finding_21 : decode cX4_finding 21 = .ok (.iaload, 1) := by decide +kernel
theorem dX4_finding_22 : decode cX4_finding 22 = .ok (.iconst 1, 1) := by decide +kernel
theorem dX4_finding_23 : decode cX4_finding 23 = .ok (.iadd, 1) := by decide +kernel
theorem dX4_finding_24 : decode cX4_finding 24 = .ok (.iastore, 1) := by decide +kernel
theorem dX4_finding_25 : decode cX4_finding 25 = .ok (.iload_n 1, 1) := by decide +kernel
theorem dX4_finding_26 : decode cX4_finding 26 = .ok (.ireturn, 1) := by decide +kernel
theorem dX4_sheetFinding_0 : decode cX4_sheetFinding 0 = .ok (.iload_n 1, 1) := by decide +kernel
theorem dX4_sheetFinding_1 : decode cX4_sheetFinding 1 = .ok (.invokestatic 206, 3) := by decide +kernel
theorem dX4_sheetFinding_4 : decode cX4_sheetFinding 4 = .ok (.ifCond .ne 6, 3) := by decide +kernel
theorem dX4_sheetFinding_7 : decode cX4_sheetFinding 7 = .ok (.ldc 57, 2) := by decide +kernel
theorem dX4_sheetFinding_9 : decode cX4_sheetFinding 9 = .ok (.ireturn, 1) := by decide +kernel
theorem dX4_sheetFinding_10 : decode cX4_sheetFinding 10 = .ok (.aload_n 0, 1) := by decide +kernel
theorem dX4_sheetFinding_11 : decode cX4_sheetFinding 11 = .ok (.getfield 45, 3) := by decide +kernel
theorem dX4_sheetFinding_14 : decode cX4_sheetFinding 14 = .ok (.iload_n 1, 1) := by decide +kernel
theorem dX4_sheetFinding_15 : decode cX4_sheetFinding 15 = .ok (.invokevirtual 222, 3) := by decide +kernel
theorem dX4_sheetFinding_18 : decode cX4_sheetFinding 18 = .ok (.ifCond .eq 8, 3) := by decide +kernel
theorem dX4_sheetFinding_21 : decode cX4_sheetFinding 21 = .ok (.ldc 201, 2) := by decide +kernel
theorem dX4_sheetFinding_23 : decode cX4_sheetFinding 23 = .ok (.goto 4, 3) := by decide +kernel
theorem dX4_sheetFinding_26 : decode cX4_sheetFinding 26 = .ok (.iconst 0, 1) := by decide +kernel
theorem dX4_sheetFinding_27 : decode cX4_sheetFinding 27 = .ok (.ireturn, 1) := by decide +kernel
theorem dX4_tryFact_0 : decode cX4_tryFact 0 = .ok (.aload_n 0, 1) := by decide +kernel
theorem dX4_tryFact_1 : decode cX4_tryFact 1 = .ok (.getfield 16, 3) := by decide +kernel
theorem dX4_tryFact_4 : decode cX4_tryFact 4 = .ok (.aload_n 0, 1) := by decide +kernel
theorem dX4_tryFact_5 : decode cX4_tryFact 5 = .ok (.getfield 12, 3) := by decide +kernel
theorem dX4_tryFact_8 : decode cX4_tryFact 8 = .ok (.invokevirtual 142, 3) := by decide +kernel
theorem dX4_tryFact_11 : decode cX4_tryFact 11 = .ok (.aload_n 0, 1) := by decide +kernel
theorem dX4_tryFact_12 : decode cX4_tryFact 12 = .ok (.getfield 16, 3) := by decide +kernel
theorem dX4_tryFact_15 : decode cX4_tryFact 15 = .ok (.iload_n 1, 1) := by decide +kernel
theorem dX4_tryFact_16 : decode cX4_tryFact 16 = .ok (.iload_n 2, 1) := by decide +kernel
theorem dX4_tryFact_17 : decode cX4_tryFact 17 = .ok (.iload_n 3, 1) := by decide +kernel
theorem dX4_tryFact_18 : decode cX4_tryFact 18 = .ok (.invokevirtual 98, 3) := by decide +kernel
theorem dX4_tryFact_21 : decode cX4_tryFact 21 = .ok (.return_, 1) := by decide +kernel
theorem dX4_waysOf_0 : decode cX4_waysOf 0 = .ok (.aload_n 0, 1) := by decide +kernel
theorem dX4_waysOf_1 : decode cX4_waysOf 1 = .ok (.iload_n 1, 1) := by decide +kernel
theorem dX4_waysOf_2 : decode cX4_waysOf 2 = .ok (.invokevirtual 213, 3) := by decide +kernel
theorem dX4_waysOf_5 : decode cX4_waysOf 5 = .ok (.istore 5, 2) := by decide +kernel
theorem dX4_waysOf_7 : decode cX4_waysOf 7 = .ok (.iload 5, 2) := by decide +kernel
theorem dX4_waysOf_9 : decode cX4_waysOf 9 = .ok (.ifCond .eq 10, 3) := by decide +kernel
theorem dX4_waysOf_12 : decode cX4_waysOf 12 = .ok (.aload_n 0, 1) := by decide +kernel
theorem dX4_waysOf_13 : decode cX4_waysOf 13 = .ok (.iload 5, 2) := by decide +kernel
theorem dX4_waysOf_15 : decode cX4_waysOf 15 = .ok (.invokevirtual 58, 3) := by decide +kernel
theorem dX4_waysOf_18 : decode cX4_waysOf 18 = .ok (.ireturn, 1) := by decide +kernel
theorem dX4_waysOf_19 : decode cX4_waysOf 19 = .ok (.aload_n 0, 1) := by decide +kernel
theorem dX4_waysOf_20 : decode cX4_waysOf 20 = .ok (.getfield 12, 3) := by decide +kernel
theorem dX4_waysOf_23 : decode cX4_waysOf 23 = .ok (.iload_n 2, 1) := by decide +kernel
theorem dX4_waysOf_24 : decode cX4_waysOf 24 = .ok (.invokevirtual 85, 3) := by decide +kernel
theorem dX4_waysOf_27 : decode cX4_waysOf 27 = .ok (.ifCond .ne 10, 3) := by decide +kernel
theorem dX4_waysOf_30 : decode cX4_waysOf 30 = .ok (.aload_n 0, 1) := by decide +kernel
theorem dX4_waysOf_31 : decode cX4_waysOf 31 = .ok (.ldc 57, 2) := by decide +kernel
theorem dX4_waysOf_33 : decode cX4_waysOf 33 = .ok (.invokevirtual 58, 3) := by decide +kernel
theorem dX4_waysOf_36 : decode cX4_waysOf 36 = .ok (.ireturn, 1) := by decide +kernel
theorem dX4_waysOf_37 : decode cX4_waysOf 37 = .ok (.iconst 0, 1) := by decide +kernel
theorem dX4_waysOf_38 : decode cX4_waysOf 38 = .ok (.istore 6, 2) := by decide +kernel
theorem dX4_waysOf_40 : decode cX4_waysOf 40 = .ok (.iconst 0, 1) := by decide +kernel
theorem dX4_waysOf_41 : decode cX4_waysOf 41 = .ok (.istore 7, 2) := by decide +kernel
theorem dX4_waysOf_43 : decode cX4_waysOf 43 = .ok (.iload 7, 2) := by decide +kernel
theorem dX4_waysOf_45 : decode cX4_waysOf 45 = .ok (.iload 4, 2) := by decide +kernel
theorem dX4_waysOf_47 : decode cX4_waysOf 47 = .ok (.if_icmp .ge 34, 3) := by decide +kernel
theorem dX4_waysOf_50 : decode cX4_waysOf 50 = .ok (.aload_n 0, 1) := by decide +kernel
theorem dX4_waysOf_51 : decode cX4_waysOf 51 = .ok (.iload_n 2, 1) := by decide +kernel
theorem dX4_waysOf_52 : decode cX4_waysOf 52 = .ok (.iload_n 3, 1) := by decide +kernel
theorem dX4_waysOf_53 : decode cX4_waysOf 53 = .ok (.iload 7, 2) := by decide +kernel
theorem dX4_waysOf_55 : decode cX4_waysOf 55 = .ok (.invokevirtual 150, 3) := by decide +kernel
theorem dX4_waysOf_58 : decode cX4_waysOf 58 = .ok (.aload_n 0, 1) := by decide +kernel
theorem dX4_waysOf_59 : decode cX4_waysOf 59 = .ok (.iload_n 1, 1) := by decide +kernel
theorem dX4_waysOf_60 : decode cX4_waysOf 60 = .ok (.invokevirtual 244, 3) := by decide +kernel
theorem dX4_waysOf_63 : decode cX4_waysOf 63 = .ok (.ifCond .eq 12, 3) := by decide +kernel
theorem dX4_waysOf_66 : decode cX4_waysOf 66 = .ok (.iload 6, 2) := by decide +kernel
theorem dX4_waysOf_68 : decode cX4_waysOf 68 = .ok (.iconst 1, 1) := by decide +kernel
theorem dX4_waysOf_69 : decode cX4_waysOf 69 = .ok (.iload 7, 2) := by decide +kernel
theorem dX4_waysOf_71 : decode cX4_waysOf 71 = .ok (.ishl, 1) := by decide +kernel
theorem dX4_waysOf_72 : decode cX4_waysOf 72 = .ok (.ior, 1) := by decide +kernel
theorem dX4_waysOf_73 : decode cX4_waysOf 73 = .ok (.istore 6, 2) := by decide +kernel
theorem dX4_waysOf_75 : decode cX4_waysOf 75 = .ok (.iinc 7 1, 3) := by decide +kernel
theorem dX4_waysOf_78 : decode cX4_waysOf 78 = .ok (.goto (-35), 3) := by decide +kernel
theorem dX4_waysOf_81 : decode cX4_waysOf 81 = .ok (.iload 6, 2) := by decide +kernel
theorem dX4_waysOf_83 : decode cX4_waysOf 83 = .ok (.ireturn, 1) := by decide +kernel
theorem dX4_trialFollows_0 : decode cX4_trialFollows 0 = .ok (.iconst 0, 1) := by decide +kernel
theorem dX4_trialFollows_1 : decode cX4_trialFollows 1 = .ok (.istore_n 2, 1) := by decide +kernel
theorem dX4_trialFollows_2 : decode cX4_trialFollows 2 = .ok (.iload_n 2, 1) := by decide +kernel
theorem dX4_trialFollows_3 : decode cX4_trialFollows 3 = .ok (.aload_n 0, 1) := by decide +kernel
theorem dX4_trialFollows_4 : decode cX4_trialFollows 4 = .ok (.getfield 45, 3) := by decide +kernel
theorem dX4_trialFollows_7 : decode cX4_trialFollows 7 = .ok (.iload_n 1, 1) := by decide +kernel
theorem dX4_trialFollows_8 : decode cX4_trialFollows 8 = .ok (.invokevirtual 216, 3) := by decide +kernel
theorem dX4_trialFollows_11 : decode cX4_trialFollows 11 = .ok (.if_icmp .ge 48, 3) := by decide +kernel
theorem dX4_trialFollows_14 : decode cX4_trialFollows 14 = .ok (.iload_n 2, 1) := by decide +kernel
theorem dX4_trialFollows_15 : decode cX4_trialFollows 15 = .ok (.ifCond .le 10, 3) := by decide +kernel
theorem dX4_trialFollows_18 : decode cX4_trialFollows 18 = .ok (.aload_n 0, 1) := by decide +kernel
theorem dX4_trialFollows_19 : decode cX4_trialFollows 19 = .ok (.getfield 16, 3) := by decide +kernel
theorem dX4_trialFollows_22 : decode cX4_trialFollows 22 = .ok (.invokevirtual 146, 3) := by decide +kernel
theorem dX4_trialFollows_25 : decode cX4_trialFollows 25 = .ok (.aload_n 0, 1) := by decide +kernel
theorem dX4_trialFollows_26 : decode cX4_trialFollows 26 = .ok (.getfield 45, 3) := by decide +kernel
theorem dX4_trialFollows_29 : decode cX4_trialFollows 29 = .ok (.iload_n 1, 1) := by decide +kernel
theorem dX4_trialFollows_30 : decode cX4_trialFollows 30 = .ok (.iload_n 2, 1) := by decide +kernel
theorem dX4_trialFollows_31 : decode cX4_trialFollows 31 = .ok (.invokevirtual 238, 3) := by decide +kernel
theorem dX4_trialFollows_34 : decode cX4_trialFollows 34 = .ok (.istore_n 3, 1) := by decide +kernel
theorem dX4_trialFollows_35 : decode cX4_trialFollows 35 = .ok (.iload_n 3, 1) := by decide +kernel
theorem dX4_trialFollows_36 : decode cX4_trialFollows 36 = .ok (.iconst (-1), 1) := by decide +kernel
theorem dX4_trialFollows_37 : decode cX4_trialFollows 37 = .ok (.if_icmp .eq 16, 3) := by decide +kernel
theorem dX4_trialFollows_40 : decode cX4_trialFollows 40 = .ok (.iload_n 3, 1) := by decide +kernel
theorem dX4_trialFollows_41 : decode cX4_trialFollows 41 = .ok (.aload_n 0, 1) := by decide +kernel
theorem dX4_trialFollows_42 : decode cX4_trialFollows 42 = .ok (.getfield 16, 3) := by decide +kernel
theorem dX4_trialFollows_45 : decode cX4_trialFollows 45 = .ok (.getfield 62, 3) := by decide +kernel
theorem dX4_trialFollows_48 : decode cX4_trialFollows 48 = .ok (.if_icmp .eq 5, 3) := by decide +kernel
theorem dX4_trialFollows_51 : decode cX4_trialFollows 51 = .ok (.iconst 0, 1) := by decide +kernel
theorem dX4_trialFollows_52 : decode cX4_trialFollows 52 = .ok (.ireturn, 1) := by decide +kernel
theorem dX4_trialFollows_53 : decode cX4_trialFollows 53 = .ok (.iinc 2 1, 3) := by decide +kernel
theorem dX4_trialFollows_56 : decode cX4_trialFollows 56 = .ok (.goto (-54), 3) := by decide +kernel
theorem dX4_trialFollows_59 : decode cX4_trialFollows 59 = .ok (.iconst 1, 1) := by decide +kernel
theorem dX4_trialFollows_60 : decode cX4_trialFollows 60 = .ok (.ireturn, 1) := by decide +kernel
theorem dX4_isWithin_0 : decode cX4_isWithin 0 = .ok (.iload_n 0, 1) := by decide +kernel
theorem dX4_isWithin_1 : decode cX4_isWithin 1 = .ok (.iload_n 1, 1) := by decide +kernel
theorem dX4_isWithin_2 : decode cX4_isWithin 2 = .ok (.if_icmp .lt 12, 3) := by decide +kernel
theorem dX4_isWithin_5 : decode cX4_isWithin 5 = .ok (.iload_n 0, 1) := by decide +kernel
theorem dX4_isWithin_6 : decode cX4_isWithin 6 = .ok (.iload_n 2, 1) := by decide +kernel
theorem dX4_isWithin_7 : decode cX4_isWithin 7 = .ok (.if_icmp .gt 7, 3) := by decide +kernel
theorem dX4_isWithin_10 : decode cX4_isWithin 10 = .ok (.iconst 1, 1) := by decide +kernel
theorem dX4_isWithin_11 : decode cX4_isWithin 11 = .ok (.goto 4, 3) := by decide +kernel
theorem dX4_isWithin_14 : decode cX4_isWithin 14 = .ok (.iconst 0, 1) := by decide +kernel
theorem dX4_isWithin_15 : decode cX4_isWithin 15 = .ok (.ireturn, 1) := by decide +kernel
theorem dX4_isPlace_0 : decode cX4_isPlace 0 = .ok (.iload_n 0, 1) := by decide +kernel
theorem dX4_isPlace_1 : decode cX4_isPlace 1 = .ok (.iconst 0, 1) := by decide +kernel
theorem dX4_isPlace_2 : decode cX4_isPlace 2 = .ok (.bipush 11, 2) := by decide +kernel
theorem dX4_isPlace_4 : decode cX4_isPlace 4 = .ok (.invokestatic 66, 3) := by decide +kernel
theorem dX4_isPlace_7 : decode cX4_isPlace 7 = .ok (.ireturn, 1) := by decide +kernel
theorem dX4_isKind_0 : decode cX4_isKind 0 = .ok (.iload_n 0, 1) := by decide +kernel
theorem dX4_isKind_1 : decode cX4_isKind 1 = .ok (.iconst 0, 1) := by decide +kernel
theorem dX4_isKind_2 : decode cX4_isKind 2 = .ok (.bipush 6, 2) := by decide +kernel
theorem dX4_isKind_4 : decode cX4_isKind 4 = .ok (.invokestatic 66, 3) := by decide +kernel
theorem dX4_isKind_7 : decode cX4_isKind 7 = .ok (.ireturn, 1) := by decide +kernel
theorem dX4_isSpot_0 : decode cX4_isSpot 0 = .ok (.iload_n 0, 1) := by decide +kernel
theorem dX4_isSpot_1 : decode cX4_isSpot 1 = .ok (.iconst 0, 1) := by decide +kernel
theorem dX4_isSpot_2 : decode cX4_isSpot 2 = .ok (.bipush 9, 2) := by decide +kernel
theorem dX4_isSpot_4 : decode cX4_isSpot 4 = .ok (.invokestatic 66, 3) := by decide +kernel
theorem dX4_isSpot_7 : decode cX4_isSpot 7 = .ok (.ireturn, 1) := by decide +kernel
theorem dX4_isSheet_0 : decode cX4_isSheet 0 = .ok (.iload_n 0, 1) := by decide +kernel
theorem dX4_isSheet_1 : decode cX4_isSheet 1 = .ok (.iconst 0, 1) := by decide +kernel
theorem dX4_isSheet_2 : decode cX4_isSheet 2 = .ok (.iconst 3, 1) := by decide +kernel
theorem dX4_isSheet_3 : decode cX4_isSheet 3 = .ok (.invokestatic 66, 3) := by decide +kernel
theorem dX4_isSheet_6 : decode cX4_isSheet 6 = .ok (.ireturn, 1) := by decide +kernel
theorem dX4_isFactValue_0 : decode cX4_isFactValue 0 = .ok (.iload_n 0, 1) := by decide +kernel
theorem dX4_isFactValue_1 : decode cX4_isFactValue 1 = .ok (.iconst 0, 1) := by decide +kernel
theorem dX4_isFactValue_2 : decode cX4_isFactValue 2 = .ok (.iconst 5, 1) := by decide +kernel
theorem dX4_isFactValue_3 : decode cX4_isFactValue 3 = .ok (.invokestatic 66, 3) := by decide +kernel
theorem dX4_isFactValue_6 : decode cX4_isFactValue 6 = .ok (.ifCond .eq 24, 3) := by decide +kernel
theorem dX4_isFactValue_9 : decode cX4_isFactValue 9 = .ok (.iload_n 1, 1) := by decide +kernel
theorem dX4_isFactValue_10 : decode cX4_isFactValue 10 = .ok (.getstatic 247, 3) := by decide +kernel
theorem dX4_isFactValue_13 : decode cX4_isFactValue 13 = .ok (.iload_n 0, 1) := by decide +kernel
theorem dX4_isFactValue_14 : decode cX4_isFactValue 14 = .ok (.iaload, 1) := by decide +kernel
theorem dX4_isFactValue_15 : decode cX4_isFactValue 15 = .ok (.getstatic 250, 3) := by decide +kernel
theorem dX4_isFactValue_18 : decode cX4_isFactValue 18 = .ok (.iload_n 0, 1) := by decide +kernel
theorem dX4_isFactValue_19 : decode cX4_isFactValue 19 = .ok (.iaload, 1) := by decide +kernel
theorem dX4_isFactValue_20 : decode cX4_isFactValue 20 = .ok (.invokestatic 66, 3) := by decide +kernel
theorem dX4_isFactValue_23 : decode cX4_isFactValue 23 = .ok (.ifCond .eq 7, 3) := by decide +kernel
theorem dX4_isFactValue_26 : decode cX4_isFactValue 26 = .ok (.iconst 1, 1) := by decide +kernel
theorem dX4_isFactValue_27 : decode cX4_isFactValue 27 = .ok (.goto 4, 3) := by decide +kernel
theorem dX4_isFactValue_30 : decode cX4_isFactValue 30 = .ok (.iconst 0, 1) := by decide +kernel
theorem dX4_isFactValue_31 : decode cX4_isFactValue 31 = .ok (.ireturn, 1) := by decide +kernel
theorem dX4_isKindUnder_0 : decode cX4_isKindUnder 0 = .ok (.iload_n 0, 1) := by decide +kernel
theorem dX4_isKindUnder_1 : decode cX4_isKindUnder 1 = .ok (.istore_n 2, 1) := by decide +kernel
theorem dX4_isKindUnder_2 : decode cX4_isKindUnder 2 = .ok (.iconst 0, 1) := by decide +kernel
theorem dX4_isKindUnder_3 : decode cX4_isKindUnder 3 = .ok (.istore_n 3, 1) := by decide +kernel
theorem dX4_isKindUnder_4 : decode cX4_isKindUnder 4 = .ok (.iload_n 3, 1) := by decide +kernel
theorem dX4_isKindUnder_5 : decode cX4_isKindUnder 5 = .ok (.bipush 7, 2) := by decide +kernel
theorem dX4_isKindUnder_7 : decode cX4_isKindUnder 7 = .ok (.if_icmp .ge 29, 3) := by decide +kernel
theorem dX4_isKindUnder_10 : decode cX4_isKindUnder 10 = .ok (.iload_n 2, 1) := by decide +kernel
theorem dX4_isKindUnder_11 : decode cX4_isKindUnder 11 = .ok (.invokestatic 73, 3) := by decide +kernel
theorem dX4_isKindUnder_14 : decode cX4_isKindUnder 14 = .ok (.ifCond .eq 22, 3) := by decide +kernel
theorem dX4_isKindUnder_17 : decode cX4_isKindUnder 17 = .ok (.iload_n 2, 1) := by decide +kernel
theorem dX4_isKindUnder_18 : decode cX4_isKindUnder 18 = .ok (.iload_n 1, 1) := by decide +kernel
theorem dX4_isKindUnder_19 : decode cX4_isKindUnder 19 = .ok (.if_icmp .ne 5, 3) := by decide +kernel
theorem dX4_isKindUnder_22 : decode cX4_isKindUnder 22 = .ok (.iconst 1, 1) := by decide +kernel
theorem dX4_isKindUnder_23 : decode cX4_isKindUnder 23 = .ok (.ireturn, 1) := by decide +kernel
theorem dX4_isKindUnder_24 : decode cX4_isKindUnder 24 = .ok (.getstatic 253, 3) := by decide +kernel
theorem dX4_isKindUnder_27 : decode cX4_isKindUnder 27 = .ok (.iload_n 2, 1) := by decide +kernel
theorem dX4_isKindUnder_28 : decode cX4_isKindUnder 28 = .ok (.iaload, 1) := by decide +kernel
theorem dX4_isKindUnder_29 : decode cX4_isKindUnder 29 = .ok (.istore_n 2, 1) := by decide +kernel
theorem dX4_isKindUnder_30 : decode cX4_isKindUnder 30 = .ok (.iinc 3 1, 3) := by decide +kernel
theorem dX4_isKindUnder_33 : decode cX4_isKindUnder 33 = .ok (.goto (-29), 3) := by decide +kernel
theorem dX4_isKindUnder_36 : decode cX4_isKindUnder 36 = .ok (.iconst 0, 1) := by decide +kernel
theorem dX4_isKindUnder_37 : decode cX4_isKindUnder 37 = .ok (.ireturn, 1) := by decide +kernel
theorem dX4_inLowestTerms_0 : decode cX4_inLowestTerms 0 = .ok (.bipush 12, 2) := by decide +kernel
theorem dX4_inLowestTerms_2 : decode cX4_inLowestTerms 2 = .ok (.istore_n 2, 1) := by decide +kernel
theorem dX4_inLowestTerms_3 : decode cX4_inLowestTerms 3 = .ok (.iload_n 2, 1) := by decide +kernel
theorem dX4_inLowestTerms_4 : decode cX4_inLowestTerms 4 = .ok (.iconst 1, 1) := by decide +kernel
theorem dX4_inLowestTerms_5 : decode cX4_inLowestTerms 5 = .ok (.if_icmp .le 26, 3) := by decide +kernel
theorem dX4_inLowestTerms_8 : decode cX4_inLowestTerms 8 = .ok (.iload_n 1, 1) := by decide +kernel
theorem dX4_inLowestTerms_9 : decode cX4_inLowestTerms 9 = .ok (.iload_n 2, 1) := by decide +kernel
theorem dX4_inLowestTerms_10 : decode cX4_inLowestTerms 10 = .ok (.irem, 1) := by decide +kernel
theorem dX4_inLowestTerms_11 : decode cX4_inLowestTerms 11 = .ok (.ifCond .ne 14, 3) := by decide +kernel
theorem dX4_inLowestTerms_14 : decode cX4_inLowestTerms 14 = .ok (.bipush 12, 2) := by decide +kernel
theorem dX4_inLowestTerms_16 : decode cX4_inLowestTerms 16 = .ok (.iload_n 2, 1) := by decide +kernel
theorem dX4_inLowestTerms_17 : decode cX4_inLowestTerms 17 = .ok (.irem, 1) := by decide +kernel
theorem dX4_inLowestTerms_18 : decode cX4_inLowestTerms 18 = .ok (.ifCond .ne 7, 3) := by decide +kernel
theorem dX4_inLowestTerms_21 : decode cX4_inLowestTerms 21 = .ok (.iload_n 0, 1) := by decide +kernel
theorem dX4_inLowestTerms_22 : decode cX4_inLowestTerms 22 = .ok (.iload_n 2, 1) := by decide +kernel
theorem dX4_inLowestTerms_23 : decode cX4_inLowestTerms 23 = .ok (.idiv, 1) := by decide +kernel
theorem dX4_inLowestTerms_24 : decode cX4_inLowestTerms 24 = .ok (.ireturn, 1) := by decide +kernel
theorem dX4_inLowestTerms_25 : decode cX4_inLowestTerms 25 = .ok (.iinc 2 (-1), 3) := by decide +kernel
theorem dX4_inLowestTerms_28 : decode cX4_inLowestTerms 28 = .ok (.goto (-25), 3) := by decide +kernel
theorem dX4_inLowestTerms_31 : decode cX4_inLowestTerms 31 = .ok (.iload_n 0, 1) := by decide +kernel
theorem dX4_inLowestTerms_32 : decode cX4_inLowestTerms 32 = .ok (.ireturn, 1) := by decide +kernel
