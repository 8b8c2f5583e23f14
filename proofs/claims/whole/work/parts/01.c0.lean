theorem dX3_init_0 : decode cX3_init 0 = .ok (.aload_n 0, 1) := by decide +kernel
theorem dX3_init_1 : decode cX3_init 1 = .ok (.invokespecial 3, 3) := by decide +kernel
theorem dX3_init_4 : decode cX3_init 4 = .ok (.aload_n 0, 1) := by decide +kernel
theorem dX3_init_5 : decode cX3_init 5 = .ok (.iconst 5, 1) := by decide +kernel
theorem dX3_init_6 : decode cX3_init 6 = .ok (.putfield 9, 3) := by decide +kernel
theorem dX3_init_9 : decode cX3_init 9 = .ok (.aload_n 0, 1) := by decide +kernel
theorem dX3_init_10 : decode cX3_init 10 = .ok (.bipush 10, 2) := by decide +kernel
theorem dX3_init_12 : decode cX3_init 12 = .ok (.putfield 15, 3) := by decide +kernel
theorem dX3_init_15 : decode cX3_init 15 = .ok (.aload_n 0, 1) := by decide +kernel
theorem dX3_init_16 : decode cX3_init 16 = .ok (.iconst 0, 1) := by decide +kernel
theorem dX3_init_17 : decode cX3_init 17 = .ok (.putfield 18, 3) := by decide +kernel
theorem dX3_init_20 : decode cX3_init 20 = .ok (.aload_n 0, 1) := by decide +kernel
theorem dX3_init_21 : decode cX3_init 21 = .ok (.iconst 0, 1) := by decide +kernel
theorem dX3_init_22 : decode cX3_init 22 = .ok (.putfield 21, 3) := by decide +kernel
theorem dX3_init_25 : decode cX3_init 25 = .ok (.aload_n 0, 1) := by decide +kernel
theorem dX3_init_26 : decode cX3_init 26 = .ok (.iconst 1, 1) := by decide +kernel
theorem dX3_init_27 : decode cX3_init 27 = .ok (.putfield 24, 3) := by decide +kernel
theorem dX3_init_30 : decode cX3_init 30 = .ok (.aload_n 0, 1) := by decide +kernel
theorem dX3_init_31 : decode cX3_init 31 = .ok (.iconst 0, 1) := by decide +kernel
theorem dX3_init_32 : decode cX3_init 32 = .ok (.putfield 27, 3) := by decide +kernel
theorem dX3_init_35 : decode cX3_init 35 = .ok (.aload_n 0, 1) := by decide +kernel
theorem dX3_init_36 : decode cX3_init 36 = .ok (.iconst 0, 1) := by decide +kernel
theorem dX3_init_37 : decode cX3_init 37 = .ok (.putfield 30, 3) := by decide +kernel
theorem dX3_init_40 : decode cX3_init 40 = .ok (.aload_n 0, 1) := by decide +kernel
theorem dX3_init_41 : decode cX3_init 41 = .ok (.iconst 0, 1) := by decide +kernel
theorem dX3_init_42 : decode cX3_init 42 = .ok (.putfield 33, 3) := by decide +kernel
theorem dX3_init_45 : decode cX3_init 45 = .ok (.aload_n 0, 1) := by decide +kernel
theorem dX3_init_46 : decode cX3_init 46 = .ok (.iconst 0, 1) := by decide +kernel
theorem dX3_init_47 : decode cX3_init 47 = .ok (.putfield 36, 3) := by decide +kernel
theorem dX3_init_50 : decode cX3_init 50 = .ok (.aload_n 0, 1) := by decide +kernel
theorem dX3_init_51 : decode cX3_init 51 = .ok (.bipush 48, 2) := by decide +kernel
theorem dX3_init_53 : decode cX3_init 53 = .ok (.newarray .int, 2) := by decide +kernel
theorem dX3_init_55 : decode cX3_init 55 = .ok (.putfield 39, 3) := by decide +kernel
theorem dX3_init_58 : decode cX3_init 58 = .ok (.aload_n 0, 1) := by decide +kernel
theorem dX3_init_59 : decode cX3_init 59 = .ok (.bipush 10, 2) := by decide +kernel
theorem dX3_init_61 : decode cX3_init 61 = .ok (.newarray .int, 2) := by decide +kernel
theorem dX3_init_63 : decode cX3_init 63 = .ok (.putfield 43, 3) := by decide +kernel
theorem dX3_init_66 : decode cX3_init 66 = .ok (.iconst 0, 1) := by decide +kernel
theorem dX3_init_67 : decode cX3_init 67 = .ok (.istore_n 1, 1) := by decide +kernel
theorem dX3_init_68 : decode cX3_init 68 = .ok (.iload_n 1, 1) := by decide +kernel
theorem dX3_init_69 : decode cX3_init 69 = .ok (.bipush 10, 2) := by decide +kernel
theorem dX3_init_71 : decode cX3_init 71 = .ok (.if_icmp .ge 16, 3) := by decide +kernel
theorem dX3_init_74 : decode cX3_init 74 = .ok (.aload_n 0, 1) := by decide +kernel
theorem dX3_init_75 : decode cX3_init 75 = .ok (.getfield 43, 3) := by decide +kernel
theorem dX3_init_78 : decode cX3_init 78 = .ok (.iload_n 1, 1) := by decide +kernel
theorem dX3_init_79 : decode cX3_init 79 = .ok (.iconst (-1), 1) := by decide +kernel
theorem dX3_init_80 : decode cX3_init 80 = .ok (.iastore, 1) := by decide +kernel
theorem dX3_init_81 : decode cX3_init 81 = .ok (.iinc 1 1, 3) := by decide +kernel
theorem dX3_init_84 : decode cX3_init 84 = .ok (.goto (-16), 3) := by decide +kernel
theorem dX3_init_87 : decode cX3_init 87 = .ok (.return_, 1) := by decide +kernel
theorem dX3_becomeBall_0 : decode cX3_becomeBall 0 = .ok (.aload_n 0, 1) := by decide +kernel
theorem dX3_becomeBall_1 : decode cX3_becomeBall 1 = .ok (.aload_n 1, 1) := by decide +kernel
theorem dX3_becomeBall_2 : decode cX3_becomeBall 2 = .ok (.getfield 9, 3) := by decide +kernel
theorem dX3_becomeBall_5 : decode cX3_becomeBall 5 = .ok (.putfield 9, 3) := by decide +kernel
theorem dX3_becomeBall_8 : decode cX3_becomeBall 8 = .ok (.aload_n 0, 1) := by decide +kernel
theorem dX3_becomeBall_9 : decode cX3_becomeBall 9 = .ok (.aload_n 1, 1) := by decide +kernel
theorem dX3_becomeBall_10 : decode cX3_becomeBall 10 = .ok (.getfield 15, 3) := by decide +kernel
theorem dX3_becomeBall_13 : decode cX3_becomeBall 13 = .ok (.putfield 15, 3) := by decide +kernel
theorem dX3_becomeBall_16 : decode cX3_becomeBall 16 = .ok (.aload_n 0, 1) := by decide +kernel
theorem dX3_becomeBall_17 : decode cX3_becomeBall 17 = .ok (.aload_n 1, 1) := by decide +kernel
theorem dX3_becomeBall_18 : decode cX3_becomeBall 18 = .ok (.getfield 18, 3) := by decide +kernel
theorem dX3_becomeBall_21 : decode cX3_becomeBall 21 = .ok (.putfield 18, 3) := by decide +kernel
theorem dX3_becomeBall_24 : decode cX3_becomeBall 24 = .ok (.aload_n 0, 1) := by decide +kernel
theorem dX3_becomeBall_25 : decode cX3_becomeBall 25 = .ok (.aload_n 1, 1) := by decide +kernel
theorem dX3_becomeBall_26 : decode cX3_becomeBall 26 = .ok (.getfield 21, 3) := by decide +kernel
theorem dX3_becomeBall_29 : decode cX3_becomeBall 29 = .ok (.putfield 21, 3) := by decide +kernel
theorem dX3_becomeBall_32 : decode cX3_becomeBall 32 = .ok (.aload_n 0, 1) := by decide +kernel
theorem dX3_becomeBall_33 : decode cX3_becomeBall 33 = .ok (.aload_n 1, 1) := by decide +kernel
theorem dX3_becomeBall_34 : decode cX3_becomeBall 34 = .ok (.getfield 27, 3) := by decide +kernel
theorem dX3_becomeBall_37 : decode cX3_becomeBall 37 = .ok (.putfield 27, 3) := by decide +kernel
theorem dX3_becomeBall_40 : decode cX3_becomeBall 40 = .ok (.aload_n 0, 1) := by decide +kernel
theorem dX3_becomeBall_41 : decode cX3_becomeBall 41 = .ok (.iconst 0, 1) := by decide +kernel
theorem dX3_becomeBall_42 : decode cX3_becomeBall 42 = .ok (.putfield 30, 3) := by decide +kernel
theorem dX3_becomeBall_45 : decode cX3_becomeBall 45 = .ok (.aload_n 1, 1) := by decide +kernel
theorem dX3_becomeBall_46 : decode cX3_becomeBall 46 = .ok (.getfield 39, 3) := by decide +kernel
theorem dX3_becomeBall_49 : decode cX3_becomeBall 49 = .ok (.iconst 0, 1) := by decide +kernel
theorem dX3_becomeBall_50 : decode cX3_becomeBall 50 = .ok (.aload_n 0, 1) := by decide +kernel
theorem dX3_becomeBall_51 : decode cX3_becomeBall 51 = .ok (.getfield 39, 3) := by decide +kernel
theorem dX3_becomeBall_54 : decode cX3_becomeBall 54 = .ok (.iconst 0, 1) := by decide +kernel
theorem dX3_becomeBall_55 : decode cX3_becomeBall 55 = .ok (.aload_n 0, 1) := by decide +kernel
theorem dX3_becomeBall_56 : decode cX3_becomeBall 56 = .ok (.getfield 39, 3) := by decide +kernel
theorem dX3_becomeBall_59 : decode cX3_becomeBall 59 = .ok (.arraylength, 1) := by decide +kernel
theorem dX3_becomeBall_60 : decode cX3_becomeBall 60 = .ok (.invokestatic 46, 3) := by decide +kernel
theorem dX3_becomeBall_63 : decode cX3_becomeBall 63 = .ok (.return_, 1) := by decide +kernel
theorem dX3_becomeWhole_0 : decode cX3_becomeWhole 0 = .ok (.aload_n 0, 1) := by decide +kernel
theorem dX3_becomeWhole_1 : decode cX3_becomeWhole 1 = .ok (.aload_n 1, 1) := by decide +kernel
theorem dX3_becomeWhole_2 : decode cX3_becomeWhole 2 = .ok (.invokevirtual 52, 3) := by decide +kernel
theorem dX3_becomeWhole_5 : decode cX3_becomeWhole 5 = .ok (.aload_n 0, 1) := by decide +kernel
theorem dX3_becomeWhole_6 : decode cX3_becomeWhole 6 = .ok (.aload_n 1, 1) := by decide +kernel
theorem dX3_becomeWhole_7 : decode cX3_becomeWhole 7 = .ok (.getfield 24, 3) := by decide +kernel
theorem dX3_becomeWhole_10 : decode cX3_becomeWhole 10 = .ok (.putfield 24, 3) := by decide +kernel
theorem dX3_becomeWhole_13 : decode cX3_becomeWhole 13 = .ok (.aload_n 1, 1) := by decide +kernel
theorem dX3_becomeWhole_14 : decode cX3_becomeWhole 14 = .ok (.getfield 43, 3) := by decide +kernel
theorem dX3_becomeWhole_17 : decode cX3_becomeWhole 17 = .ok (.iconst 0, 1) := by decide +kernel
theorem dX3_becomeWhole_18 : decode cX3_becomeWhole 18 = .ok (.aload_n 0, 1) := by decide +kernel
theorem dX3_becomeWhole_19 : decode cX3_becomeWhole 19 = .ok (.getfield 43, 3) := by decide +kernel
theorem dX3_becomeWhole_22 : decode cX3_becomeWhole 22 = .ok (.iconst 0, 1) := by decide +kernel
theorem dX3_becomeWhole_23 : decode cX3_becomeWhole 23 = .ok (.bipush 10, 2) := by decide +kernel
theorem dX3_becomeWhole_25 : decode cX3_becomeWhole 25 = .ok (.invokestatic 46, 3) := by decide +kernel
theorem dX3_becomeWhole_28 : decode cX3_becomeWhole 28 = .ok (.return_, 1) := by decide +kernel
theorem dX3_hasPiece_0 : decode cX3_hasPiece 0 = .ok (.iload_n 1, 1) := by decide +kernel
theorem dX3_hasPiece_1 : decode cX3_hasPiece 1 = .ok (.ifCond .lt 15, 3) := by decide +kernel
theorem dX3_hasPiece_4 : decode cX3_hasPiece 4 = .ok (.iload_n 1, 1) := by decide +kernel
theorem dX3_hasPiece_5 : decode cX3_hasPiece 5 = .ok (.aload_n 0, 1) := by decide +kernel
theorem dX3_hasPiece_6 : decode cX3_hasPiece 6 = .ok (.getfield 27, 3) := by decide +kernel
theorem dX3_hasPiece_9 : decode cX3_hasPiece 9 = .ok (.if_icmp .ge 7, 3) := by decide +kernel
theorem dX3_hasPiece_12 : decode cX3_hasPiece 12 = .ok (.iconst 1, 1) := by decide +kernel
theorem dX3_hasPiece_13 : decode cX3_hasPiece 13 = .ok (.goto 4, 3) := by decide +kernel
theorem dX3_hasPiece_16 : decode cX3_hasPiece 16 = .ok (.iconst 0, 1) := by decide +kernel
theorem dX3_hasPiece_17 : decode cX3_hasPiece 17 = .ok (.ireturn, 1) := by decide +kernel
theorem dX3_isFull_0 : decode cX3_isFull 0 = .ok (.aload_n 0, 1) := by decide +kernel
theorem dX3_isFull_1 : decode cX3_isFull 1 = .ok (.getfield 27, 3) := by decide +kernel
theorem dX3_isFull_4 : decode cX3_isFull 4 = .ok (.bipush 8, 2) := by decide +kernel
theorem dX3_isFull_6 : decode cX3_isFull 6 = .ok (.if_icmp .lt 7, 3) := by decide +kernel
theorem dX3_isFull_9 : decode cX3_isFull 9 = .ok (.iconst 1, 1) := by decide +kernel
theorem dX3_isFull_10 : decode cX3_isFull 10 = .ok (.goto 4, 3) := by decide +kernel
theorem dX3_isFull_13 : decode cX3_isFull 13 = .ok (.iconst 0, 1) := by decide +kernel
theorem dX3_isFull_14 : decode cX3_isFull 14 = .ok (.ireturn, 1) := by decide +kernel
theorem dX3_fact_0 : decode cX3_fact 0 = .ok (.iload_n 1, 1) := by decide +kernel
theorem dX3_fact_1 : decode cX3_fact 1 = .ok (.ifCond .lt 19, 3) := by decide +kernel
theorem dX3_fact_4 : decode cX3_fact 4 = .ok (.iload_n 1, 1) := by decide +kernel
theorem dX3_fact_5 : decode cX3_fact 5 = .ok (.bipush 8, 2) := by decide +kernel
theorem dX3_fact_7 : decode cX3_fact 7 = .ok (.if_icmp .ge 13, 3) := by decide +kernel
theorem dX3_fact_10 : decode cX3_fact 10 = .ok (.iload_n 2, 1) := by decide +kernel
theorem dX3_fact_11 : decode cX3_fact 11 = .ok (.ifCond .lt 9, 3) := by decide +kernel
theorem dX3_fact_14 : decode cX3_fact 14 = .ok (.iload_n 2, 1) := by decide +kernel
theorem dX3_fact_15 : decode cX3_fact 15 = .ok (.bipush 6, 2) := by decide +kernel
theorem dX3_fact_17 : decode cX3_fact 17 = .ok (.if_icmp .lt 5, 3) := by decide +kernel
theorem dX3_fact_20 : decode cX3_fact 20 = .ok (.iconst 0, 1) := by decide +kernel
theorem dX3_fact_21 : decode cX3_fact 21 = .ok (.ireturn, 1) := by decide +kernel
theorem dX3_fact_22 : decode cX3_fact 22 = .ok (.aload_n 0, 1) := by decide +kernel
theorem dX3_fact_23 : decode cX3_fact 23 = .ok (.getfield 39, 3) := by decide +kernel
theorem dX3_fact_26 : decode cX3_fact 26 = .ok (.iload_n 1, 1) := by decide +kernel
theorem dX3_fact_27 : decode cX3_fact 27 = .ok (.bipush 6, 2) := by decide +kernel
theorem dX3_fact_29 : decode cX3_fact 29 = .ok (.imul, 1) := by decide +kernel
theorem dX3_fact_30 : decode cX3_fact 30 = .ok (.iload_n 2, 1) := by decide +kernel
theorem dX3_fact_31 : decode cX3_fact 31 = .ok (.iadd, 1) := by decide +kernel
theorem dX3_fact_32 : decode cX3_fact 32 = .ok (.iaload, 1) := by decide +kernel
theorem dX3_fact_33 : decode cX3_fact 33 = .ok (.ireturn, 1) := by decide +kernel
theorem dX3_setFact_0 : decode cX3_setFact 0 = .ok (.iload_n 1, 1) := by decide +kernel
theorem dX3_setFact_1 : decode cX3_setFact 1 = .ok (.ifCond .lt 31, 3) := by decide +kernel
theorem dX3_setFact_4 : decode cX3_setFact 4 = .ok (.iload_n 1, 1) := by decide +kernel
theorem dX3_setFact_5 : decode cX3_setFact 5 = .ok (.bipush 8, 2) := by decide +kernel
theorem dX3_setFact_7 : decode cX3_setFact 7 = .ok (.if_icmp .ge 25, 3) := by decide +kernel
theorem dX3_setFact_10 : decode cX3_setFact 10 = .ok (.iload_n 2, 1) := by decide +kernel
theorem dX3_setFact_11 : decode cX3_setFact 11 = .ok (.ifCond .lt 21, 3) := by decide +kernel
theorem dX3_setFact_14 : decode cX3_setFact 14 = .ok (.iload_n 2, 1) := by decide +kernel
theorem dX3_setFact_15 : decode cX3_setFact 15 = .ok (.bipush 6, 2) := by decide +kernel
theorem dX3_setFact_17 : decode cX3_setFact 17 = .ok (.if_icmp .ge 15, 3) := by decide +kernel
theorem dX3_setFact_20 : decode cX3_setFact 20 = .ok (.aload_n 0, 1) := by decide +kernel
theorem dX3_setFact_21 : decode cX3_setFact 21 = .ok (.getfield 39, 3) := by decide +kernel
theorem dX3_setFact_24 : decode cX3_setFact 24 = .ok (.iload_n 1, 1) := by decide +kernel
theorem dX3_setFact_25 : decode cX3_setFact 25 = .ok (.bipush 6, 2) := by decide +kernel
theorem dX3_setFact_27 : decode cX3_setFact 27 = .ok (.imul, 1) := by decide +kernel
theorem dX3_setFact_28 : decode cX3_setFact 28 = .ok (.iload_n 2, 1) := by decide +kernel
theorem dX3_setFact_29 : decode cX3_setFact 29 = .ok (.iadd, 1) := by decide +kernel
theorem dX3_setFact_30 : decode cX3_setFact 30 = .ok (.iload_n 3, 1) := by decide +kernel
theorem dX3_setFact_31 : decode cX3_setFact 31 = .ok (.iastore, 1) := by decide +kernel
theorem dX3_setFact_32 : decode cX3_setFact 32 = .ok (.return_, 1) := by decide +kernel
theorem dX3_raiseFact_0 : decode cX3_raiseFact 0 = .ok (.iload_n 2, 1) := by decide +kernel
theorem dX3_raiseFact_1 : decode cX3_raiseFact 1 = .ok (.aload_n 0, 1) := by decide +kernel
theorem dX3_raiseFact_2 : decode cX3_raiseFact 2 = .ok (.iload_n 1, 1) := by decide +kernel
theorem dX3_raiseFact_3 : decode cX3_raiseFact 3 = .ok (.iload_n 2, 1) := by decide +kernel
theorem dX3_raiseFact_4 : decode cX3_raiseFact 4 = .ok (.invokevirtual 56, 3) := by decide +kernel
theorem dX3_raiseFact_7 : decode cX3_raiseFact 7 = .ok (.iconst 1, 1) := by decide +kernel
theorem dX3_raiseFact_8 : decode cX3_raiseFact 8 = .ok (.iadd, 1) := by decide +kernel
theorem dX3_raiseFact_9 : decode cX3_raiseFact 9 = .ok (.invokestatic 60, 3) := by decide +kernel
theorem dX3_raiseFact_12 : decode cX3_raiseFact 12 = .ok (.ifCond .eq 17, 3) := by decide +kernel
theorem dX3_raiseFact_15 : decode cX3_raiseFact 15 = .ok (.aload_n 0, 1) := by decide +kernel
theorem dX3_raiseFact_16 : decode cX3_raiseFact 16 = .ok (.iload_n 1, 1) := by decide +kernel
theorem dX3_raiseFact_17 : decode cX3_raiseFact 17 = .ok (.iload_n 2, 1) := by decide +kernel
theorem dX3_raiseFact_18 : decode cX3_raiseFact 18 = .ok (.aload_n 0, 1) := by decide +kernel
theorem dX3_raiseFact_19 : decode cX3_raiseFact 19 = .ok (.iload_n 1, 1) := by decide +kernel
theorem dX3_raiseFact_20 : decode cX3_raiseFact 20 = .ok (.iload_n 2, 1) := by decide +kernel
theorem dX3_raiseFact_21 : decode cX3_raiseFact 21 = .ok (.invokevirtual 56, 3) := by decide +kernel
theorem dX3_raiseFact_24 : decode cX3_raiseFact 24 = .ok (.iconst 1, 1) := by decide +kernel
theorem dX3_raiseFact_25 : decode cX3_raiseFact 25 = .ok (.iadd, 1) := by decide +kernel
theorem dX3_raiseFact_26 : decode cX3_raiseFact 26 = .ok (.invokevirtual 64, 3) := by decide +kernel
theorem dX3_raiseFact_29 : decode cX3_raiseFact 29 = .ok (.return_, 1) := by decide +kernel
theorem dX3_spot_0 : decode cX3_spot 0 = .ok (.iload_n 1, 1) := by decide +kernel
theorem dX3_spot_1 : decode cX3_spot 1 = .ok (.invokestatic 68, 3) := by decide +kernel
theorem dX3_spot_4 : decode cX3_spot 4 = .ok (.ifCond .eq 12, 3) := by decide +kernel
theorem dX3_spot_7 : decode cX3_spot 7 = .ok (.aload_n 0, 1) := by decide +kernel
theorem dX3_spot_8 : decode cX3_spot 8 = .ok (.getfield 43, 3) := by decide +kernel
theorem dX3_spot_11 : decode cX3_spot 11 = .ok (.iload_n 1, 1) := by decide +kernel
theorem dX3_spot_12 : decode cX3_spot 12 = .ok (.iaload, 1) := by decide +kernel
theorem dX3_spot_13 : decode cX3_spot 13 = .ok (.goto 4, 3) := by decide +kernel
theorem dX3_spot_16 : decode cX3_spot 16 = .ok (.iconst (-1), 1) := by decide +kernel
theorem dX3_spot_17 : decode cX3_spot 17 = .ok (.ireturn, 1) := by decide +kernel
theorem dX3_setSpot_0 : decode cX3_setSpot 0 = .ok (.iload_n 1, 1) := by decide +kernel
theorem dX3_setSpot_1 : decode cX3_setSpot 1 = .ok (.invokestatic 68, 3) := by decide +kernel
theorem dX3_setSpot_4 : decode cX3_setSpot 4 = .ok (.ifCond .eq 10, 3) := by decide +kernel
theorem dX3_setSpot_7 : decode cX3_setSpot 7 = .ok (.aload_n 0, 1) := by decide +kernel
theorem dX3_setSpot_8 : decode cX3_setSpot 8 = .ok (.getfield 43, 3) := by decide +kernel
theorem dX3_setSpot_11 : decode cX3_setSpot 11 = .ok (.iload_n 1, 1) := by decide +kernel
theorem dX3_setSpot_12 : decode cX3_setSpot 12 = .ok (.iload_n 2, 1) := by decide +kernel
theorem dX3_setSpot_13 : decode cX3_setSpot 13 = .ok (.iastore, 1) := by decide +kernel
theorem dX3_setSpot_14 : decode cX3_setSpot 14 = .ok (.return_, 1) := by decide +kernel
theorem dX3_spotsHolding_0 : decode cX3_spotsHolding 0 = .ok (.iconst 0, 1) := by decide +kernel
theorem dX3_spotsHolding_1 : decode cX3_spotsHolding 1 = .ok (.istore_n 1, 1) := by decide +kernel
theorem dX3_spotsHolding_2 : decode cX3_spotsHolding 2 = .ok (.iconst 0, 1) := by decide +kernel
theorem dX3_spotsHolding_3 : decode cX3_spotsHolding 3 = .ok (.istore_n 2, 1) := by decide +kernel
theorem dX3_spotsHolding_4 : decode cX3_spotsHolding 4 = .ok (.iload_n 2, 1) := by decide +kernel
theorem dX3_spotsHolding_5 : decode cX3_spotsHolding 5 = .ok (.bipush 10, 2) := by decide +kernel
theorem dX3_spotsHolding_7 : decode cX3_spotsHolding 7 = .ok (.if_icmp .ge 22, 3) := by decide +kernel
theorem dX3_spotsHolding_10 : decode cX3_spotsHolding 10 = .ok (.aload_n 0, 1) := by decide +kernel
theorem dX3_spotsHolding_11 : decode cX3_spotsHolding 11 = .ok (.getfield 43, 3) := by decide +kernel
theorem dX3_spotsHolding_14 : decode cX3_spotsHolding 14 = .ok (.iload_n 2, 1) := by decide +kernel
theorem dX3_spotsHolding_15 : decode cX3_spotsHolding 15 = .ok (.iaload, 1) := by decide +kernel
theorem dX3_spotsHolding_16 : decode cX3_spotsHolding 16 = .ok (.iconst (-1), 1) := by decide +kernel
theorem dX3_spotsHolding_17 : decode cX3_spotsHolding 17 = .ok (.if_icmp .eq 6, 3) := by decide +kernel
theorem dX3_spotsHolding_20 : decode cX3_spotsHolding 20 = .ok (.iinc 1 1, 3) := by decide +kernel
theorem dX3_spotsHolding_23 : decode cX3_spotsHolding 23 = .ok (.iinc 2 1, 3) := by decide +kernel
theorem dX3_spotsHolding_26 : decode cX3_spotsHolding 26 = .ok (.goto (-22), 3) := by decide +kernel
theorem dX3_spotsHolding_29 : decode cX3_spotsHolding 29 = .ok (.iload_n 1, 1) := by decide +kernel
theorem dX3_spotsHolding_30 : decode cX3_spotsHolding 30 = .ok (.ireturn, 1) := by decide +kernel
theorem dX3_addPiece_0 : decode cX3_addPiece 0 = .ok (.aload_n 0, 1) := by decide +kernel
theorem dX3_addPiece_1 : decode cX3_addPiece 1 = .ok (.getfield 27, 3) := by decide +kernel
theorem dX3_addPiece_4 : decode cX3_addPiece 4 = .ok (.istore_n 3, 1) := by decide +kernel
theorem dX3_addPiece_5 : decode cX3_addPiece 5 = .ok (.aload_n 0, 1) := by decide +kernel
theorem dX3_addPiece_6 : decode cX3_addPiece 6 = .ok (.dup, 1) := by decide +kernel
theorem dX3_addPiece_7 : decode cX3_addPiece 7 = .ok (.getfield 27, 3) := by decide +kernel
theorem dX3_addPiece_10 : decode cX3_addPiece 10 = .ok (.iconst 1, 1) := by decide +kernel
theorem dX3_addPiece_11 : decode cX3_addPiece 11 = .ok (.iadd, 1) := by decide +kernel
theorem dX3_addPiece_12 : decode cX3_addPiece 12 = .ok (.putfield 27, 3) := by decide +kernel
theorem dX3_addPiece_15 : decode cX3_addPiece 15 = .ok (.aload_n 0, 1) := by decide +kernel
theorem dX3_addPiece_16 : decode cX3_addPiece 16 = .ok (.iload_n 3, 1) := by decide +kernel
theorem dX3_addPiece_17 : decode cX3_addPiece 17 = .ok (.iconst 0, 1) := by decide +kernel
theorem dX3_addPiece_18 : decode cX3_addPiece 18 = .ok (.iload_n 1, 1) := by decide +kernel
theorem dX3_addPiece_19 : decode cX3_addPiece 19 = .ok (.invokevirtual 64, 3) := by decide +kernel
theorem dX3_addPiece_22 : decode cX3_addPiece 22 = .ok (.aload_n 0, 1) := by decide +kernel
theorem dX3_addPiece_23 : decode cX3_addPiece 23 = .ok (.iload_n 3, 1) := by decide +kernel
theorem dX3_addPiece_24 : decode cX3_addPiece 24 = .ok (.iconst 1, 1) := by decide +kernel
theorem dX3_addPiece_25 : decode cX3_addPiece 25 = .ok (.iload_n 2, 1) := by decide +kernel
theorem dX3_addPiece_26 : decode cX3_addPiece 26 = .ok (.invokevirtual 64, 3) := by decide +kernel
theorem dX3_addPiece_29 : decode cX3_addPiece 29 = .ok (.aload_n 0, 1) := by decide +kernel
theorem dX3_addPiece_30 : decode cX3_addPiece 30 = .ok (.iload_n 3, 1) := by decide +kernel
theorem dX3_addPiece_31 : decode cX3_addPiece 31 = .ok (.iconst 2, 1) := by decide +kernel
theorem dX3_addPiece_32 : decode cX3_addPiece 32 = .ok (.bipush 10, 2) := by decide +kernel
theorem dX3_addPiece_34 : decode cX3_addPiece 34 = .ok (.invokevirtual 64, 3) := by decide +kernel
theorem dX3_addPiece_37 : decode cX3_addPiece 37 = .ok (.aload_n 0, 1) := by decide +kernel
theorem dX3_addPiece_38 : decode cX3_addPiece 38 = .ok (.iload_n 3, 1) := by decide +kernel
theorem dX3_addPiece_39 : decode cX3_addPiece 39 = .ok (.iconst 3, 1) := by decide +kernel
theorem dX3_addPiece_40 : decode cX3_addPiece 40 = .ok (.iconst 0, 1) := by decide +kernel
theorem dX3_addPiece_41 : decode cX3_addPiece 41 = .ok (.invokevirtual 64, 3) := by decide +kernel
theorem dX3_addPiece_44 : decode cX3_addPiece 44 = .ok (.aload_n 0, 1) := by decide +kernel
theorem dX3_addPiece_45 : decode cX3_addPiece 45 = .ok (.iload_n 3, 1) := by decide +kernel
theorem dX3_addPiece_46 : decode cX3_addPiece 46 = .ok (.iconst 4, 1) := by decide +kernel
theorem dX3_addPiece_47 : decode cX3_addPiece 47 = .ok (.iconst 0, 1) := by decide +kernel
theorem dX3_addPiece_48 : decode cX3_addPiece 48 = .ok (.invokevirtual 64, 3) := by decide +kernel
theorem dX3_addPiece_51 : decode cX3_addPiece 51 = .ok (.aload_n 0, 1) := by decide +kernel
theorem dX3_addPiece_52 : decode cX3_addPiece 52 = .ok (.iload_n 3, 1) := by decide +kernel
theorem dX3_addPiece_53 : decode cX3_addPiece 53 = .ok (.iconst 5, 1) := by decide +kernel
theorem dX3_addPiece_54 : decode cX3_addPiece 54 = .ok (.iconst 0, 1) := by decide +kernel
theorem dX3_addPiece_55 : decode cX3_addPiece 55 = .ok (.invokevirtual 64, 3) := by decide +kernel
theorem dX3_addPiece_58 : decode cX3_addPiece 58 = .ok (.iload_n 3, 1) := by decide +kernel
theorem dX3_addPiece_59 : decode cX3_addPiece 59 = .ok (.ireturn, 1) := by decide +kernel
theorem dX3_cutOutermost_0 : decode cX3_cutOutermost 0 = .ok (.aload_n 0, 1) := by decide +kernel
theorem dX3_cutOutermost_1 : decode cX3_cutOutermost 1 = .ok (.getfield 27, 3) := by decide +kernel
theorem dX3_cutOutermost_4 : decode cX3_cutOutermost 4 = .ok (.iconst 1, 1) := by decide +kernel
theorem dX3_cutOutermost_5 : decode cX3_cutOutermost 5 = .ok (.isub, 1) := by decide +kernel
theorem dX3_cutOutermost_6 : decode cX3_cutOutermost 6 = .ok (.istore_n 2, 1) := by decide +kernel
theorem dX3_cutOutermost_7 : decode cX3_cutOutermost 7 = .ok (.aload_n 0, 1) := by decide +kernel
theorem dX3_cutOutermost_8 : decode cX3_cutOutermost 8 = .ok (.iload_n 2, 1) := by decide +kernel
theorem dX3_cutOutermost_9 : decode cX3_cutOutermost 9 = .ok (.iconst 2, 1) := by decide +kernel
theorem dX3_cutOutermost_10 : decode cX3_cutOutermost 10 = .ok (.invokevirtual 56, 3) := by decide +kernel
theorem dX3_cutOutermost_13 : decode cX3_cutOutermost 13 = .ok (.istore_n 3, 1) := by decide +kernel
theorem dX3_cutOutermost_14 : decode cX3_cutOutermost 14 = .ok (.iload_n 3, 1) := by decide +kernel
theorem dX3_cutOutermost_15 : decode cX3_cutOutermost 15 = .ok (.iload_n 1, 1) := by decide +kernel
theorem dX3_cutOutermost_16 : decode cX3_cutOutermost 16 = .ok (.if_icmp .le 15, 3) := by decide +kernel
theorem dX3_cutOutermost_19 : decode cX3_cutOutermost 19 = .ok (.aload_n 0, 1) := by decide +kernel
theorem dX3_cutOutermost_20 : decode cX3_cutOutermost 20 = .ok (.iload_n 2, 1) := by decide +kernel
theorem dX3_cutOutermost_21 : decode cX3_cutOutermost 21 = .ok (.iconst 2, 1) := by decide +kernel
theorem dX3_cutOutermost_22 : decode cX3_cutOutermost 22 = .ok (.iload_n 3, 1) := by decide +kernel
theorem dX3_cutOutermost_23 : decode cX3_cutOutermost 23 = .ok (.iload_n 1, 1) := by decide +kernel
theorem dX3_cutOutermost_24 : decode cX3_cutOutermost 24 = .ok (.isub, 1) := by decide +kernel
theorem dX3_cutOutermost_25 : decode cX3_cutOutermost 25 = .ok (.invokevirtual 64, 3) := by decide +kernel
theorem dX3_cutOutermost_28 : decode cX3_cutOutermost 28 = .ok (.goto 13, 3) := by decide +kernel
theorem dX3_cutOutermost_31 : decode cX3_cutOutermost 31 = .ok (.aload_n 0, 1) := by decide +kernel
theorem dX3_cutOutermost_32 : decode cX3_cutOutermost 32 = .ok (.iload_n 2, 1) := by decide +kernel
theorem dX3_cutOutermost_33 : decode cX3_cutOutermost 33 = .ok (.putfield 27, 3) := by decide +kernel
theorem dX3_cutOutermost_36 : decode cX3_cutOutermost 36 = .ok (.aload_n 0, 1) := by decide +kernel
theorem dX3_cutOutermost_37 : decode cX3_cutOutermost 37 = .ok (.iload_n 2, 1) := by decide +kernel
theorem dX3_cutOutermost_38 : decode cX3_cutOutermost 38 = .ok (.invokevirtual 72, 3) := by decide +kernel
theorem dX3_cutOutermost_41 : decode cX3_cutOutermost 41 = .ok (.iload_n 3, 1) := by decide +kernel
theorem dX3_cutOutermost_42 : decode cX3_cutOutermost 42 = .ok (.ireturn, 1) := by decide +kernel
theorem dX3_emptySpotsOf_0 : decode cX3_emptySpotsOf 0 = .ok (.iconst 0, 1) := by decide +kernel
theorem dX3_emptySpotsOf_1 : decode cX3_emptySpotsOf 1 = .ok (.istore_n 2, 1) := by decide +kernel
theorem dX3_emptySpotsOf_2 : decode cX3_emptySpotsOf 2 = .ok (.iload_n 2, 1) := by decide +kernel
theorem dX3_emptySpotsOf_3 : decode cX3_emptySpotsOf 3 = .ok (.bipush 10, 2) := by decide +kernel
theorem dX3_emptySpotsOf_5 : decode cX3_emptySpotsOf 5 = .ok (.if_icmp .ge 26, 3) := by decide +kernel
theorem dX3_emptySpotsOf_8 : decode cX3_emptySpotsOf 8 = .ok (.aload_n 0, 1) := by decide +kernel
theorem dX3_emptySpotsOf_9 : decode cX3_emptySpotsOf 9 = .ok (.getfield 43, 3) := by decide +kernel
theorem dX3_emptySpotsOf_12 : decode cX3_emptySpotsOf 12 = .ok (.iload_n 2, 1) := by decide +kernel
theorem dX3_emptySpotsOf_13 : decode cX3_emptySpotsOf 13 = .ok (.iaload, 1) := by decide +kernel
theorem dX3_emptySpotsOf_14 : decode cX3_emptySpotsOf 14 = .ok (.iload_n 1, 1) := by decide +kernel
theorem dX3_emptySpotsOf_15 : decode cX3_emptySpotsOf 15 = .ok (.if_icmp .ne 10, 3) := by decide +kernel
theorem dX3_emptySpotsOf_18 : decode cX3_emptySpotsOf 18 = .ok (.aload_n 0, 1) := by decide +kernel
theorem dX3_emptySpotsOf_19 : decode cX3_emptySpotsOf 19 = .ok (.getfield 43, 3) := by decide +kernel
theorem dX3_emptySpotsOf_22 : decode cX3_emptySpotsOf 22 = .ok (.iload_n 2, 1) := by decide +kernel
theorem dX3_emptySpotsOf_23 : decode cX3_emptySpotsOf 23 = .ok (.iconst (-1), 1) := by decide +kernel
theorem dX3_emptySpotsOf_24 : decode cX3_emptySpotsOf 24 = .ok (.iastore, 1) := by decide +kernel
theorem dX3_emptySpotsOf_25 : decode cX3_emptySpotsOf 25 = .ok (.iinc 2 1, 3) := by decide +kernel
theorem dX3_emptySpotsOf_28 : decode cX3_emptySpotsOf 28 = .ok (.goto (-26), 3) := by decide +kernel
theorem dX3_emptySpotsOf_31 : decode cX3_emptySpotsOf 31 = .ok (.return_, 1) := by decide +kernel
theorem dX3_nextDraw_0 : decode cX3_nextDraw 0 = .ok (.aload_n 0, 1) := by decide +kernel
theorem dX3_nextDraw_1 : decode cX3_nextDraw 1 = .ok (.aload_n 0, 1) := by decide +kernel
theorem dX3_nextDraw_2 : decode cX3_nextDraw 2 = .ok (.getfield 24, 3) := by decide +kernel
theorem dX3_nextDraw_5 : decode cX3_nextDraw 5 = .ok (.ldc 76, 2) := by decide +kernel
theorem dX3_nextDraw_7 : decode cX3_nextDraw 7 = .ok (.imul, 1) := by decide +kernel
theorem dX3_nextDraw_8 : decode cX3_nextDraw 8 = .ok (.sipush 12345, 3) := by decide +kernel
theorem dX3_nextDraw_11 : decode cX3_nextDraw 11 = .ok (.iadd, 1) := by decide +kernel
theorem dX3_nextDraw_12 : decode cX3_nextDraw 12 = .ok (.putfield 24, 3) := by decide +kernel
theorem dX3_nextDraw_15 : decode cX3_nextDraw 15 = .ok (.aload_n 0, 1) := by decide +kernel
theorem dX3_nextDraw_16 : decode cX3_nextDraw 16 = .ok (.getfield 24, 3) := by decide +kernel
theorem dX3_nextDraw_19 : decode cX3_nextDraw 19 = .ok (.bipush 8, 2) := by decide +kernel
theorem dX3_nextDraw_21 : decode cX3_nextDraw 21 = .ok (.iushr, 1) := by decide +kernel
theorem dX3_nextDraw_22 : decode cX3_nextDraw 22 = .ok (.ireturn, 1) := by decide +kernel
theorem dX3_tell_0 : decode cX3_tell 0 = .ok (.iload_n 2, 1) := by decide +kernel
theorem dX3_tell_1 : decode cX3_tell 1 = .ok (.tableswitch 64 6 9 #[31, 37, 47, 53], 31) := by decide +kernel
theorem dX3_tell_32 : decode cX3_tell 32 = .ok (.aload_n 0, 1) := by decide +kernel
theorem dX3_tell_33 : decode cX3_tell 33 = .ok (.iload_n 1, 1) := by decide +kernel
theorem dX3_tell_34 : decode cX3_tell 34 = .ok (.invokevirtual 77, 3) := by decide +kernel
theorem dX3_tell_37 : decode cX3_tell 37 = .ok (.ireturn, 1) := by decide +kernel
theorem dX3_tell_38 : decode cX3_tell 38 = .ok (.aload_n 0, 1) := by decide +kernel
theorem dX3_tell_39 : decode cX3_tell 39 = .ok (.iload_n 1, 1) := by decide +kernel
theorem dX3_tell_40 : decode cX3_tell 40 = .ok (.iconst 0, 1) := by decide +kernel
theorem dX3_tell_41 : decode cX3_tell 41 = .ok (.invokevirtual 56, 3) := by decide +kernel
theorem dX3_tell_44 : decode cX3_tell 44 = .ok (.invokestatic 81, 3) := by decide +kernel
theorem dX3_tell_47 : decode cX3_tell 47 = .ok (.ireturn, 1) := by decide +kernel
theorem dX3_tell_48 : decode cX3_tell 48 = .ok (.aload_n 0, 1) := by decide +kernel
theorem dX3_tell_49 : decode cX3_tell 49 = .ok (.iload_n 1, 1) := by decide +kernel
theorem dX3_tell_50 : decode cX3_tell 50 = .ok (.invokevirtual 84, 3) := by decide +kernel
theorem dX3_tell_53 : decode cX3_tell 53 = .ok (.ireturn, 1) := by decide +kernel
theorem dX3_tell_54 : decode cX3_tell 54 = .ok (.aload_n 0, 1) := by decide +kernel
theorem dX3_tell_55 : decode cX3_tell 55 = .ok (.iload_n 1, 1) := by decide +kernel
theorem dX3_tell_56 : decode cX3_tell 56 = .ok (.aload_n 0, 1) := by decide +kernel
theorem dX3_tell_57 : decode cX3_tell 57 = .ok (.iload_n 1, 1) := by decide +kernel
theorem dX3_tell_58 : decode cX3_tell 58 = .ok (.invokevirtual 84, 3) := by decide +kernel
theorem dX3_tell_61 : decode cX3_tell 61 = .ok (.invokevirtual 87, 3) := by decide +kernel
theorem dX3_tell_64 : decode cX3_tell 64 = .ok (.ireturn, 1) := by decide +kernel
theorem dX3_tell_65 : decode cX3_tell 65 = .ok (.aload_n 0, 1) := by decide +kernel
theorem dX3_tell_66 : decode cX3_tell 66 = .ok (.iload_n 1, 1) := by decide +kernel
theorem dX3_tell_67 : decode cX3_tell 67 = .ok (.iload_n 2, 1) := by decide +kernel
theorem dX3_tell_68 : decode cX3_tell 68 = .ok (.invokevirtual 56, 3) := by decide +kernel
theorem dX3_tell_71 : decode cX3_tell 71 = .ok (.ireturn, 1) := by decide +kernel
theorem dX3_pullOf_0 : decode cX3_pullOf 0 = .ok (.aload_n 0, 1) := by decide +kernel
theorem dX3_pullOf_1 : decode cX3_pullOf 1 = .ok (.iload_n 1, 1) := by decide +kernel
theorem dX3_pullOf_2 : decode cX3_pullOf 2 = .ok (.iconst 2, 1) := by decide +kernel
theorem dX3_pullOf_3 : decode cX3_pullOf 3 = .ok (.invokevirtual 56, 3) := by decide +kernel
theorem dX3_pullOf_6 : decode cX3_pullOf 6 = .ok (.istore_n 2, 1) := by decide +kernel
theorem dX3_pullOf_7 : decode cX3_pullOf 7 = .ok (.aload_n 0, 1) := by decide +kernel
theorem dX3_pullOf_8 : decode cX3_pullOf 8 = .ok (.getfield 18, 3) := by decide +kernel
theorem dX3_pullOf_11 : decode cX3_pullOf 11 = .ok (.bipush 7, 2) := by decide +kernel
theorem dX3_pullOf_13 : decode cX3_pullOf 13 = .ok (.irem, 1) := by decide +kernel
theorem dX3_pullOf_14 : decode cX3_pullOf 14 = .ok (.ifCond .ne 9, 3) := by decide +kernel
theorem dX3_pullOf_17 : decode cX3_pullOf 17 = .ok (.iconst 3, 1) := by decide +kernel
theorem dX3_pullOf_18 : decode cX3_pullOf 18 = .ok (.iload_n 2, 1) := by decide +kernel
theorem dX3_pullOf_19 : decode cX3_pullOf 19 = .ok (.imul, 1) := by decide +kernel
theorem dX3_pullOf_20 : decode cX3_pullOf 20 = .ok (.goto 4, 3) := by decide +kernel
theorem dX3_pullOf_23 : decode cX3_pullOf 23 = .ok (.iload_n 2, 1) := by decide +kernel
theorem dX3_pullOf_24 : decode cX3_pullOf 24 = .ok (.istore_n 3, 1) := by decide +kernel
theorem dX3_pullOf_25 : decode cX3_pullOf 25 = .ok (.iconst 0, 1) := by decide +kernel
theorem dX3_pullOf_26 : decode cX3_pullOf 26 = .ok (.iload_n 3, 1) := by decide +kernel
theorem dX3_pullOf_27 : decode cX3_pullOf 27 = .ok (.aload_n 0, 1) := by decide +kernel
theorem dX3_pullOf_28 : decode cX3_pullOf 28 = .ok (.iload_n 1, 1) := by decide +kernel
theorem dX3_pullOf_29 : decode cX3_pullOf 29 = .ok (.iconst 3, 1) := by decide +kernel
theorem dX3_pullOf_30 : decode cX3_pullOf 30 = .ok (.invokevirtual 56, 3) := by decide +kernel
theorem dX3_pullOf_33 : decode cX3_pullOf 33 = .ok (.isub, 1) := by decide +kernel
theorem dX3_pullOf_34 : decode cX3_pullOf 34 = .ok (.invokestatic 90, 3) := by decide +kernel
theorem dX3_pullOf_37 : decode cX3_pullOf 37 = .ok (.istore 4, 2) := by decide +kernel
theorem dX3_pullOf_39 : decode cX3_pullOf 39 = .ok (.aload_n 0, 1) := by decide +kernel
theorem dX3_pullOf_40 : decode cX3_pullOf 40 = .ok (.iload_n 1, 1) := by decide +kernel
theorem dX3_pullOf_41 : decode cX3_pullOf 41 = .ok (.iconst 0, 1) := by decide +kernel
theorem dX3_pullOf_42 : decode cX3_pullOf 42 = .ok (.invokevirtual 56, 3) := by decide +kernel
theorem dX3_pullOf_45 : decode cX3_pullOf 45 = .ok (.tableswitch 88 1 6 #[39, 48, 50, 53, 73, 77], 39) := by decide +kernel
theorem dX3_pullOf_84 : decode cX3_pullOf 84 = .ok (.iload_n 2, 1) := by decide +kernel
theorem dX3_pullOf_85 : decode cX3_pullOf 85 = .ok (.aload_n 0, 1) := by decide +kernel
theorem dX3_pullOf_86 : decode cX3_pullOf 86 = .ok (.iload_n 1, 1) := by decide +kernel
theorem dX3_pullOf_87 : decode cX3_pullOf 87 = .ok (.iconst 4, 1) := by decide +kernel
theorem dX3_pullOf_88 : decode cX3_pullOf 88 = .ok (.invokevirtual 56, 3) := by decide +kernel
theorem dX3_pullOf_91 : decode cX3_pullOf 91 = .ok (.iadd, 1) := by decide +kernel
theorem dX3_pullOf_92 : decode cX3_pullOf 92 = .ok (.ireturn, 1) := by decide +kernel
theorem dX3_pullOf_93 : decode cX3_pullOf 93 = .ok (.iload_n 3, 1) := by decide +kernel
theorem dX3_pullOf_94 : decode cX3_pullOf 94 = .ok (.ireturn, 1) := by decide +kernel
theorem dX3_pullOf_95 : decode cX3_pullOf 95 = .ok (.iload 4, 2) := by decide +kernel
theorem dX3_pullOf_97 : decode cX3_pullOf 97 = .ok (.ireturn, 1) := by decide +kernel
theorem dX3_pullOf_98 : decode cX3_pullOf 98 = .ok (.iload 4, 2) := by decide +kernel
theorem dX3_pullOf_100 : decode cX3_pullOf 100 = .ok (.iconst 5, 1) := by decide +kernel
theorem dX3_pullOf_101 : decode cX3_pullOf 101 = .ok (.aload_n 0, 1) := by decide +kernel
theorem dX3_pullOf_102 : decode cX3_pullOf 102 = .ok (.iload_n 1, 1) := by decide +kernel
theorem dX3_pullOf_103 : decode cX3_pullOf 103 = .ok (.iconst 1, 1) := by decide +kernel
theorem dX3_pullOf_104 : decode cX3_pullOf 104 = .ok (.invokevirtual 56, 3) := by decide +kernel
theorem dX3_pullOf_107 : decode cX3_pullOf 107 = .ok (.aload_n 0, 1) := by decide +kernel
theorem dX3_pullOf_108 : decode cX3_pullOf 108 = .ok (.getfield 9, 3) := by decide +kernel
theorem dX3_pullOf_111 : decode cX3_pullOf 111 = .ok (.isub, 1) := by decide +kernel
theorem dX3_pullOf_112 : decode cX3_pullOf 112 = .ok (.invokestatic 95, 3) := by decide +kernel
theorem dX3_pullOf_115 : decode cX3_pullOf 115 = .ok (.imul, 1) := by decide +kernel
theorem dX3_pullOf_116 : decode cX3_pullOf 116 = .ok (.iadd, 1) := by decide +kernel
theorem dX3_pullOf_117 : decode cX3_pullOf 117 = .ok (.ireturn, 1) := by decide +kernel
theorem dX3_pullOf_118 : decode cX3_pullOf 118 = .ok (.iload_n 2, 1) := by decide +kernel
theorem dX3_pullOf_119 : decode cX3_pullOf 119 = .ok (.iconst 2, 1) := by decide +kernel
theorem dX3_pullOf_120 : decode cX3_pullOf 120 = .ok (.idiv, 1) := by decide +kernel
theorem dX3_pullOf_121 : decode cX3_pullOf 121 = .ok (.ireturn, 1) := by decide +kernel
theorem dX3_pullOf_122 : decode cX3_pullOf 122 = .ok (.iconst 2, 1) := by decide +kernel
theorem dX3_pullOf_123 : decode cX3_pullOf 123 = .ok (.iload_n 2, 1) := by decide +kernel
theorem dX3_pullOf_124 : decode cX3_pullOf 124 = .ok (.aload_n 0, 1) := by decide +kernel
theorem dX3_pullOf_125 : decode cX3_pullOf 125 = .ok (.iload_n 1, 1) := by decide +kernel
theorem dX3_pullOf_126 : decode cX3_pullOf 126 = .ok (.iconst 4, 1) := by decide +kernel
theorem dX3_pullOf_127 : decode cX3_pullOf 127 = .ok (.invokevirtual 56, 3) := by decide +kernel
theorem dX3_pullOf_130 : decode cX3_pullOf 130 = .ok (.iadd, 1) := by decide +kernel
theorem dX3_pullOf_131 : decode cX3_pullOf 131 = .ok (.imul, 1) := by decide +kernel
theorem dX3_pullOf_132 : decode cX3_pullOf 132 = .ok (.ireturn, 1) := by decide +kernel
theorem dX3_pullOf_133 : decode cX3_pullOf 133 = .ok (.iload_n 2, 1) := by decide +kernel
theorem dX3_pullOf_134 : decode cX3_pullOf 134 = .ok (.ireturn, 1) := by decide +kernel
theorem dX3_lastsOf_0 : decode cX3_lastsOf 0 = .ok (.iload_n 0, 1) := by decide +kernel
theorem dX3_lastsOf_1 : decode cX3_lastsOf 1 = .ok (.lookupswitch 33 #[(1, 27), (6, 30)], 27) := by decide +kernel
theorem dX3_lastsOf_28 : decode cX3_lastsOf 28 = .ok (.bipush 30, 2) := by decide +kernel
theorem dX3_lastsOf_30 : decode cX3_lastsOf 30 = .ok (.ireturn, 1) := by decide +kernel
theorem dX3_lastsOf_31 : decode cX3_lastsOf 31 = .ok (.bipush 10, 2) := by decide +kernel
theorem dX3_lastsOf_33 : decode cX3_lastsOf 33 = .ok (.ireturn, 1) := by decide +kernel
theorem dX3_lastsOf_34 : decode cX3_lastsOf 34 = .ok (.iconst 0, 1) := by decide +kernel
theorem dX3_lastsOf_35 : decode cX3_lastsOf 35 = .ok (.ireturn, 1) := by decide +kernel
theorem dX3_givesOf_0 : decode cX3_givesOf 0 = .ok (.iload_n 0, 1) := by decide +kernel
theorem dX3_givesOf_1 : decode cX3_givesOf 1 = .ok (.tableswitch 33 3 5 #[27, 29, 31], 27) := by decide +kernel
theorem dX3_givesOf_28 : decode cX3_givesOf 28 = .ok (.iconst 2, 1) := by decide +kernel
theorem dX3_givesOf_29 : decode cX3_givesOf 29 = .ok (.ireturn, 1) := by decide +kernel
theorem dX3_givesOf_30 : decode cX3_givesOf 30 = .ok (.iconst 3, 1) := by decide +kernel
theorem dX3_givesOf_31 : decode cX3_givesOf 31 = .ok (.ireturn, 1) := by decide +kernel
theorem dX3_givesOf_32 : decode cX3_givesOf 32 = .ok (.iconst 5, 1) := by decide +kernel
theorem dX3_givesOf_33 : decode cX3_givesOf 33 = .ok (.ireturn, 1) := by decide +kernel
theorem dX3_givesOf_34 : decode cX3_givesOf 34 = .ok (.iconst 0, 1) := by decide +kernel
theorem dX3_givesOf_35 : decode cX3_givesOf 35 = .ok (.ireturn, 1) := by decide +kernel
theorem dX3_feltOf_0 : decode cX3_feltOf 0 = .ok (.aload_n 0, 1) := by decide +kernel
theorem dX3_feltOf_1 : decode cX3_feltOf 1 = .ok (.getfield 30, 3) := by decide +kernel
theorem dX3_feltOf_4 : decode cX3_feltOf 4 = .ok (.iload_n 1, 1) := by decide +kernel
theorem dX3_feltOf_5 : decode cX3_feltOf 5 = .ok (.ishr, 1) := by decide +kernel
theorem dX3_feltOf_6 : decode cX3_feltOf 6 = .ok (.iconst 1, 1) := by decide +kernel
theorem dX3_feltOf_7 : decode cX3_feltOf 7 = .ok (.iand, 1) := by decide +kernel
theorem dX3_feltOf_8 : decode cX3_feltOf 8 = .ok (.ifCond .eq 5, 3) := by decide +kernel
theorem dX3_feltOf_11 : decode cX3_feltOf 11 = .ok (.iconst 0, 1) := by decide +kernel
theorem dX3_feltOf_12 : decode cX3_feltOf 12 = .ok (.ireturn, 1) := by decide +kernel
theorem dX3_feltOf_13 : decode cX3_feltOf 13 = .ok (.iconst 0, 1) := by decide +kernel
theorem dX3_feltOf_14 : decode cX3_feltOf 14 = .ok (.aload_n 0, 1) := by decide +kernel
theorem dX3_feltOf_15 : decode cX3_feltOf 15 = .ok (.iload_n 1, 1) := by decide +kernel
theorem dX3_feltOf_16 : decode cX3_feltOf 16 = .ok (.iconst 3, 1) := by decide +kernel
theorem dX3_feltOf_17 : decode cX3_feltOf 17 = .ok (.invokevirtual 56, 3) := by decide +kernel
theorem dX3_feltOf_20 : decode cX3_feltOf 20 = .ok (.aload_n 0, 1) := by decide +kernel
theorem dX3_feltOf_21 : decode cX3_feltOf 21 = .ok (.iload_n 1, 1) := by decide +kernel
theorem dX3_feltOf_22 : decode cX3_feltOf 22 = .ok (.iconst 0, 1) := by decide +kernel
theorem dX3_feltOf_23 : decode cX3_feltOf 23 = .ok (.invokevirtual 56, 3) := by decide +kernel
theorem dX3_feltOf_26 : decode cX3_feltOf 26 = .ok (.invokestatic 98, 3) := by decide +kernel
theorem dX3_feltOf_29 : decode cX3_feltOf 29 = .ok (.isub, 1) := by decide +kernel
theorem dX3_feltOf_30 : decode cX3_feltOf 30 = .ok (.invokestatic 90, 3) := by decide +kernel
theorem dX3_feltOf_33 : decode cX3_feltOf 33 = .ok (.istore_n 3, 1) := by decide +kernel
theorem dX3_feltOf_34 : decode cX3_feltOf 34 = .ok (.iconst 0, 1) := by decide +kernel
theorem dX3_feltOf_35 : decode cX3_feltOf 35 = .ok (.aload_n 0, 1) := by decide +kernel
theorem dX3_feltOf_36 : decode cX3_feltOf 36 = .ok (.iload_n 1, 1) := by decide +kernel
theorem dX3_feltOf_37 : decode cX3_feltOf 37 = .ok (.invokevirtual 77, 3) := by decide +kernel
theorem dX3_feltOf_40 : decode cX3_feltOf 40 = .ok (.iload_n 2, 1) := by decide +kernel
theorem dX3_feltOf_41 : decode cX3_feltOf 41 = .ok (.bipush 10, 2) := by decide +kernel
theorem dX3_feltOf_43 : decode cX3_feltOf 43 = .ok (.idiv, 1) := by decide +kernel
theorem dX3_feltOf_44 : decode cX3_feltOf 44 = .ok (.isub, 1) := by decide +kernel
theorem dX3_feltOf_45 : decode cX3_feltOf 45 = .ok (.iload_n 3, 1) := by decide +kernel
theorem dX3_feltOf_46 : decode cX3_feltOf 46 = .ok (.isub, 1) := by decide +kernel
theorem dX3_feltOf_47 : decode cX3_feltOf 47 = .ok (.invokestatic 90, 3) := by decide +kernel
theorem dX3_feltOf_50 : decode cX3_feltOf 50 = .ok (.ireturn, 1) := by decide +kernel
theorem dX3_longOutside_0 : decode cX3_longOutside 0 = .ok (.iconst 0, 1) := by decide +kernel
theorem dX3_longOutside_1 : decode cX3_longOutside 1 = .ok (.istore_n 2, 1) := by decide +kernel
theorem dX3_longOutside_2 : decode cX3_longOutside 2 = .ok (.aload_n 0, 1) := by decide +kernel
theorem dX3_longOutside_3 : decode cX3_longOutside 3 = .ok (.getfield 27, 3) := by decide +kernel
theorem dX3_longOutside_6 : decode cX3_longOutside 6 = .ok (.iconst 1, 1) := by decide +kernel
theorem dX3_longOutside_7 : decode cX3_longOutside 7 = .ok (.isub, 1) := by decide +kernel
theorem dX3_longOutside_8 : decode cX3_longOutside 8 = .ok (.istore_n 3, 1) := by decide +kernel
theorem dX3_longOutside_9 : decode cX3_longOutside 9 = .ok (.iload_n 3, 1) := by decide +kernel
theorem dX3_longOutside_10 : decode cX3_longOutside 10 = .ok (.iload_n 1, 1) := by decide +kernel
theorem dX3_longOutside_11 : decode cX3_longOutside 11 = .ok (.if_icmp .le 18, 3) := by decide +kernel
theorem dX3_longOutside_14 : decode cX3_longOutside 14 = .ok (.iload_n 2, 1) := by decide +kernel
theorem dX3_longOutside_15 : decode cX3_longOutside 15 = .ok (.aload_n 0, 1) := by decide +kernel
theorem dX3_longOutside_16 : decode cX3_longOutside 16 = .ok (.iload_n 3, 1) := by decide +kernel
theorem dX3_longOutside_17 : decode cX3_longOutside 17 = .ok (.iconst 2, 1) := by decide +kernel
theorem dX3_longOutside_18 : decode cX3_longOutside 18 = .ok (.invokevirtual 56, 3) := by decide +kernel
theorem dX3_longOutside_21 : decode cX3_longOutside 21 = .ok (.iadd, 1) := by decide +kernel
theorem dX3_longOutside_22 : decode cX3_longOutside 22 = .ok (.istore_n 2, 1) := by decide +kernel
theorem dX3_longOutside_23 : decode cX3_longOutside 23 = .ok (.iinc 3 (-1), 3) := by decide +kernel
theorem dX3_longOutside_26 : decode cX3_longOutside 26 = .ok (.goto (-17), 3) := by decide +kernel
theorem dX3_longOutside_29 : decode cX3_longOutside 29 = .ok (.iload_n 2, 1) := by decide +kernel
theorem dX3_longOutside_30 : decode cX3_longOutside 30 = .ok (.ireturn, 1) := by decide +kernel
theorem dX3_feltTo_0 : decode cX3_feltTo 0 = .ok (.iconst 0, 1) := by decide +kernel
theorem dX3_feltTo_1 : decode cX3_feltTo 1 = .ok (.istore_n 2, 1) := by decide +kernel
theorem dX3_feltTo_2 : decode cX3_feltTo 2 = .ok (.iconst 0, 1) := by decide +kernel
theorem dX3_feltTo_3 : decode cX3_feltTo 3 = .ok (.istore_n 3, 1) := by decide +kernel
theorem dX3_feltTo_4 : decode cX3_feltTo 4 = .ok (.iload_n 3, 1) := by decide +kernel
theorem dX3_feltTo_5 : decode cX3_feltTo 5 = .ok (.aload_n 0, 1) := by decide +kernel
theorem dX3_feltTo_6 : decode cX3_feltTo 6 = .ok (.getfield 27, 3) := by decide +kernel
theorem dX3_feltTo_9 : decode cX3_feltTo 9 = .ok (.if_icmp .ge 29, 3) := by decide +kernel
theorem dX3_feltTo_12 : decode cX3_feltTo 12 = .ok (.aload_n 0, 1) := by decide +kernel
theorem dX3_feltTo_13 : decode cX3_feltTo 13 = .ok (.iload_n 3, 1) := by decide +kernel
theorem dX3_feltTo_14 : decode cX3_feltTo 14 = .ok (.iconst 1, 1) := by decide +kernel
theorem dX3_feltTo_15 : decode cX3_feltTo 15 = .ok (.invokevirtual 56, 3) := by decide +kernel
theorem dX3_feltTo_18 : decode cX3_feltTo 18 = .ok (.iload_n 1, 1) := by decide +kernel
theorem dX3_feltTo_19 : decode cX3_feltTo 19 = .ok (.if_icmp .ne 13, 3) := by decide +kernel
theorem dX3_feltTo_22 : decode cX3_feltTo 22 = .ok (.iload_n 2, 1) := by decide +kernel
theorem dX3_feltTo_23 : decode cX3_feltTo 23 = .ok (.aload_n 0, 1) := by decide +kernel
theorem dX3_feltTo_24 : decode cX3_feltTo 24 = .ok (.iload_n 3, 1) := by decide +kernel
theorem dX3_feltTo_25 : decode cX3_feltTo 25 = .ok (.bipush 9, 2) := by decide +kernel
theorem dX3_feltTo_27 : decode cX3_feltTo 27 = .ok (.invokevirtual 101, 3) := by decide +kernel
theorem dX3_feltTo_30 : decode cX3_feltTo 30 = .ok (.iadd, 1) := by decide +kernel
theorem dX3_feltTo_31 : decode cX3_feltTo 31 = .ok (.istore_n 2, 1) := by decide +kernel
theorem dX3_feltTo_32 : decode cX3_feltTo 32 = .ok (.iinc 3 1, 3) := by decide +kernel
theorem dX3_feltTo_35 : decode cX3_feltTo 35 = .ok (.goto (-31), 3) := by decide +kernel
theorem dX3_feltTo_38 : decode cX3_feltTo 38 = .ok (.iload_n 2, 1) := by decide +kernel
theorem dX3_feltTo_39 : decode cX3_feltTo 39 = .ok (.ireturn, 1) := by decide +kernel
theorem dX3_placeSet_0 : decode cX3_placeSet 0 = .ok (.iconst 0, 1) := by decide +kernel
theorem dX3_placeSet_1 : decode cX3_placeSet 1 = .ok (.istore_n 1, 1) := by decide +kernel
theorem dX3_placeSet_2 : decode cX3_placeSet 2 = .ok (.iconst 0, 1) := by decide +kernel
theorem dX3_placeSet_3 : decode cX3_placeSet 3 = .ok (.istore_n 2, 1) := by decide +kernel
theorem dX3_placeSet_4 : decode cX3_placeSet 4 = .ok (.iload_n 2, 1) := by decide +kernel
theorem dX3_placeSet_5 : decode cX3_placeSet 5 = .ok (.aload_n 0, 1) := by decide +kernel
theorem dX3_placeSet_6 : decode cX3_placeSet 6 = .ok (.getfield 27, 3) := by decide +kernel
theorem dX3_placeSet_9 : decode cX3_placeSet 9 = .ok (.if_icmp .ge 20, 3) := by decide +kernel
theorem dX3_placeSet_12 : decode cX3_placeSet 12 = .ok (.iload_n 1, 1) := by decide +kernel
theorem dX3_placeSet_13 : decode cX3_placeSet 13 = .ok (.iconst 1, 1) := by decide +kernel
theorem dX3_placeSet_14 : decode cX3_placeSet 14 = .ok (.aload_n 0, 1) := by decide +kernel
theorem dX3_placeSet_15 : decode cX3_placeSet 15 = .ok (.iload_n 2, 1) := by decide +kernel
theorem dX3_placeSet_16 : decode cX3_placeSet 16 = .ok (.iconst 1, 1) := by decide +kernel
theorem dX3_placeSet_17 : decode cX3_placeSet 17 = .ok (.invokevirtual 56, 3) := by decide +kernel
theorem dX3_placeSet_20 : decode cX3_placeSet 20 = .ok (.ishl, 1) := by decide +kernel
theorem dX3_placeSet_21 : decode cX3_placeSet 21 = .ok (.ior, 1) := by decide +kernel
theorem dX3_placeSet_22 : decode cX3_placeSet 22 = .ok (.istore_n 1, 1) := by decide +kernel
theorem dX3_placeSet_23 : decode cX3_placeSet 23 = .ok (.iinc 2 1, 3) := by decide +kernel
theorem dX3_placeSet_26 : decode cX3_placeSet 26 = .ok (.goto (-22), 3) := by decide +kernel
theorem dX3_placeSet_29 : decode cX3_placeSet 29 = .ok (.iload_n 1, 1) := by decide +kernel
theorem dX3_placeSet_30 : decode cX3_placeSet 30 = .ok (.ireturn, 1) := by decide +kernel
theorem dX3_mostFelt_0 : decode cX3_mostFelt 0 = .ok (.iconst (-1), 1) := by decide +kernel
theorem dX3_mostFelt_1 : decode cX3_mostFelt 1 = .ok (.istore_n 1, 1) := by decide +kernel
theorem dX3_mostFelt_2 : decode cX3_mostFelt 2 = .ok (.iconst (-1), 1) := by decide +kernel
theorem dX3_mostFelt_3 : decode cX3_mostFelt 3 = .ok (.istore_n 2, 1) := by decide +kernel
theorem dX3_mostFelt_4 : decode cX3_mostFelt 4 = .ok (.iconst 0, 1) := by decide +kernel
theorem dX3_mostFelt_5 : decode cX3_mostFelt 5 = .ok (.istore_n 3, 1) := by decide +kernel
theorem dX3_mostFelt_6 : decode cX3_mostFelt 6 = .ok (.iload_n 3, 1) := by decide +kernel
theorem dX3_mostFelt_7 : decode cX3_mostFelt 7 = .ok (.aload_n 0, 1) := by decide +kernel
theorem dX3_mostFelt_8 : decode cX3_mostFelt 8 = .ok (.getfield 27, 3) := by decide +kernel
theorem dX3_mostFelt_11 : decode cX3_mostFelt 11 = .ok (.if_icmp .ge 29, 3) := by decide +kernel
theorem dX3_mostFelt_14 : decode cX3_mostFelt 14 = .ok (.aload_n 0, 1) := by decide +kernel
theorem dX3_mostFelt_15 : decode cX3_mostFelt 15 = .ok (.iload_n 3, 1) := by decide +kernel
theorem dX3_mostFelt_16 : decode cX3_mostFelt 16 = .ok (.bipush 9, 2) := by decide +kernel
theorem dX3_mostFelt_18 : decode cX3_mostFelt 18 = .ok (.invokevirtual 101, 3) := by decide +kernel
theorem dX3_mostFelt_21 : decode cX3_mostFelt 21 = .ok (.istore 4, 2) := by decide +kernel
theorem dX3_mostFelt_23 : decode cX3_mostFelt 23 = .ok (.iload 4, 2) := by decide +kernel
theorem dX3_mostFelt_25 : decode cX3_mostFelt 25 = .ok (.iload_n 2, 1) := by decide +kernel
theorem dX3_mostFelt_26 : decode cX3_mostFelt 26 = .ok (.if_icmp .le 8, 3) := by decide +kernel
theorem dX3_mostFelt_29 : decode cX3_mostFelt 29 = .ok (.iload_n 3, 1) := by decide +kernel
theorem dX3_mostFelt_30 : decode cX3_mostFelt 30 = .ok (.istore_n 1, 1) := by decide +kernel
theorem dX3_mostFelt_31 : decode cX3_mostFelt 31 = .ok (.iload 4, 2) := by decide +kernel
theorem dX3_mostFelt_33 : decode cX3_mostFelt 33 = .ok (.istore_n 2, 1) := by decide +kernel
theorem dX3_mostFelt_34 : decode cX3_mostFelt 34 = .ok (.iinc 3 1, 3) := by decide +kernel
theorem dX3_mostFelt_37 : decode cX3_mostFelt 37 = .ok (.goto (-31), 3) := by decide +kernel
theorem dX3_mostFelt_40 : decode cX3_mostFelt 40 = .ok (.iload_n 1, 1) := by decide +kernel
theorem dX3_mostFelt_41 : decode cX3_mostFelt 41 = .ok (.ireturn, 1) := by decide +kernel
theorem dX3_weigh_0 : decode cX3_weigh 0 = .ok (.aload_n 0, 1) := by decide +kernel
theorem dX3_weigh_1 : decode cX3_weigh 1 = .ok (.iconst 0, 1) := by decide +kernel
theorem dX3_weigh_2 : decode cX3_weigh 2 = .ok (.putfield 33, 3) := by decide +kernel
theorem dX3_weigh_5 : decode cX3_weigh 5 = .ok (.aload_n 0, 1) := by decide +kernel
theorem dX3_weigh_6 : decode cX3_weigh 6 = .ok (.iconst 0, 1) := by decide +kernel
theorem dX3_weigh_7 : decode cX3_weigh 7 = .ok (.putfield 36, 3) := by decide +kernel
theorem dX3_weigh_10 : decode cX3_weigh 10 = .ok (.iconst 0, 1) := by decide +kernel
theorem dX3_weigh_11 : decode cX3_weigh 11 = .ok (.istore_n 1, 1) := by decide +kernel
theorem dX3_weigh_12 : decode cX3_weigh 12 = .ok (.aload_n 0, 1) := by decide +kernel
theorem dX3_weigh_13 : decode cX3_weigh 13 = .ok (.getfield 27, 3) := by decide +kernel
theorem dX3_weigh_16 : decode cX3_weigh 16 = .ok (.iconst 1, 1) := by decide +kernel
theorem dX3_weigh_17 : decode cX3_weigh 17 = .ok (.isub, 1) := by decide +kernel
theorem dX3_weigh_18 : decode cX3_weigh 18 = .ok (.istore_n 2, 1) := by decide +kernel
theorem dX3_weigh_19 : decode cX3_weigh 19 = .ok (.iload_n 2, 1) := by decide +kernel
theorem dX3_weigh_20 : decode cX3_weigh 20 = .ok (.ifCond .lt 74, 3) := by decide +kernel
theorem dX3_weigh_23 : decode cX3_weigh 23 = .ok (.aload_n 0, 1) := by decide +kernel
theorem dX3_weigh_24 : decode cX3_weigh 24 = .ok (.iload_n 2, 1) := by decide +kernel
theorem dX3_weigh_25 : decode cX3_weigh 25 = .ok (.iconst 1, 1) := by decide +kernel
theorem dX3_weigh_26 : decode cX3_weigh 26 = .ok (.invokevirtual 56, 3) := by decide +kernel
theorem dX3_weigh_29 : decode cX3_weigh 29 = .ok (.istore_n 3, 1) := by decide +kernel
theorem dX3_weigh_30 : decode cX3_weigh 30 = .ok (.iload_n 3, 1) := by decide +kernel
theorem dX3_weigh_31 : decode cX3_weigh 31 = .ok (.aload_n 0, 1) := by decide +kernel
theorem dX3_weigh_32 : decode cX3_weigh 32 = .ok (.getfield 9, 3) := by decide +kernel
theorem dX3_weigh_35 : decode cX3_weigh 35 = .ok (.if_icmp .le 21, 3) := by decide +kernel
theorem dX3_weigh_38 : decode cX3_weigh 38 = .ok (.aload_n 0, 1) := by decide +kernel
theorem dX3_weigh_39 : decode cX3_weigh 39 = .ok (.dup, 1) := by decide +kernel
theorem dX3_weigh_40 : decode cX3_weigh 40 = .ok (.getfield 33, 3) := by decide +kernel
theorem dX3_weigh_43 : decode cX3_weigh 43 = .ok (.aload_n 0, 1) := by decide +kernel
theorem dX3_weigh_44 : decode cX3_weigh 44 = .ok (.iload_n 2, 1) := by decide +kernel
theorem dX3_weigh_45 : decode cX3_weigh 45 = .ok (.iload_n 1, 1) := by decide +kernel
theorem dX3_weigh_46 : decode cX3_weigh 46 = .ok (.invokevirtual 87, 3) := by decide +kernel
theorem dX3_weigh_49 : decode cX3_weigh 49 = .ok (.iadd, 1) := by decide +kernel
theorem dX3_weigh_50 : decode cX3_weigh 50 = .ok (.putfield 33, 3) := by decide +kernel
theorem dX3_weigh_53 : decode cX3_weigh 53 = .ok (.goto 26, 3) := by decide +kernel
theorem dX3_weigh_56 : decode cX3_weigh 56 = .ok (.iload_n 3, 1) := by decide +kernel
theorem dX3_weigh_57 : decode cX3_weigh 57 = .ok (.aload_n 0, 1) := by decide +kernel
theorem dX3_weigh_58 : decode cX3_weigh 58 = .ok (.getfield 9, 3) := by decide +kernel
theorem dX3_weigh_61 : decode cX3_weigh 61 = .ok (.if_icmp .ge 18, 3) := by decide +kernel
theorem dX3_weigh_64 : decode cX3_weigh 64 = .ok (.aload_n 0, 1) := by decide +kernel
theorem dX3_weigh_65 : decode cX3_weigh 65 = .ok (.dup, 1) := by decide +kernel
theorem dX3_weigh_66 : decode cX3_weigh 66 = .ok (.getfield 36, 3) := by decide +kernel
theorem dX3_weigh_69 : decode cX3_weigh 69 = .ok (.aload_n 0, 1) := by decide +kernel
theorem dX3_weigh_70 : decode cX3_weigh 70 = .ok (.iload_n 2, 1) := by decide +kernel
theorem dX3_weigh_71 : decode cX3_weigh 71 = .ok (.iload_n 1, 1) := by decide +kernel
theorem dX3_weigh_72 : decode cX3_weigh 72 = .ok (.invokevirtual 87, 3) := by decide +kernel
theorem dX3_weigh_75 : decode cX3_weigh 75 = .ok (.iadd, 1) := by decide +kernel
theorem dX3_weigh_76 : decode cX3_weigh 76 = .ok (.putfield 36, 3) := by decide +kernel
theorem dX3_weigh_79 : decode cX3_weigh 79 = .ok (.iload_n 1, 1) := by decide +kernel
theorem dX3_weigh_80 : decode cX3_weigh 80 = .ok (.aload_n 0, 1) := by decide +kernel
theorem dX3_weigh_81 : decode cX3_weigh 81 = .ok (.iload_n 2, 1) := by decide +kernel
theorem dX3_weigh_82 : decode cX3_weigh 82 = .ok (.iconst 2, 1) := by decide +kernel
theorem dX3_weigh_83 : decode cX3_weigh 83 = .ok (.invokevirtual 56, 3) := by decide +kernel
theorem dX3_weigh_86 : decode cX3_weigh 86 = .ok (.iadd, 1) := by decide +kernel
theorem dX3_weigh_87 : decode cX3_weigh 87 = .ok (.istore_n 1, 1) := by decide +kernel
theorem dX3_weigh_88 : decode cX3_weigh 88 = .ok (.iinc 2 (-1), 3) := by decide +kernel
theorem dX3_weigh_91 : decode cX3_weigh 91 = .ok (.goto (-72), 3) := by decide +kernel
theorem dX3_weigh_94 : decode cX3_weigh 94 = .ok (.return_, 1) := by decide +kernel
theorem dX3_passDays_0 : decode cX3_passDays 0 = .ok (.iconst 0, 1) := by decide +kernel
theorem dX3_passDays_1 : decode cX3_passDays 1 = .ok (.istore_n 2, 1) := by decide +kernel
theorem dX3_passDays_2 : decode cX3_passDays 2 = .ok (.iload_n 2, 1) := by decide +kernel
theorem dX3_passDays_3 : decode cX3_passDays 3 = .ok (.iload_n 1, 1) := by decide +kernel
theorem dX3_passDays_4 : decode cX3_passDays 4 = .ok (.if_icmp .ge 13, 3) := by decide +kernel
theorem dX3_passDays_7 : decode cX3_passDays 7 = .ok (.aload_n 0, 1) := by decide +kernel
theorem dX3_passDays_8 : decode cX3_passDays 8 = .ok (.invokevirtual 104, 3) := by decide +kernel
theorem dX3_passDays_11 : decode cX3_passDays 11 = .ok (.iinc 2 1, 3) := by decide +kernel
theorem dX3_passDays_14 : decode cX3_passDays 14 = .ok (.goto (-12), 3) := by decide +kernel
theorem dX3_passDays_17 : decode cX3_passDays 17 = .ok (.return_, 1) := by decide +kernel
theorem dX3_passDay_0 : decode cX3_passDay 0 = .ok (.aload_n 0, 1) := by decide +kernel
theorem dX3_passDay_1 : decode cX3_passDay 1 = .ok (.invokevirtual 107, 3) := by decide +kernel
theorem dX3_passDay_4 : decode cX3_passDay 4 = .ok (.aload_n 0, 1) := by decide +kernel
theorem dX3_passDay_5 : decode cX3_passDay 5 = .ok (.getfield 33, 3) := by decide +kernel
theorem dX3_passDay_8 : decode cX3_passDay 8 = .ok (.aload_n 0, 1) := by decide +kernel
theorem dX3_passDay_9 : decode cX3_passDay 9 = .ok (.getfield 36, 3) := by decide +kernel
theorem dX3_passDay_12 : decode cX3_passDay 12 = .ok (.aload_n 0, 1) := by decide +kernel
theorem dX3_passDay_13 : decode cX3_passDay 13 = .ok (.getfield 15, 3) := by decide +kernel
theorem dX3_passDay_16 : decode cX3_passDay 16 = .ok (.iadd, 1) := by decide +kernel
theorem dX3_passDay_17 : decode cX3_passDay 17 = .ok (.if_icmp .le 16, 3) := by decide +kernel
theorem dX3_passDay_20 : decode cX3_passDay 20 = .ok (.aload_n 0, 1) := by decide +kernel
theorem dX3_passDay_21 : decode cX3_passDay 21 = .ok (.aload_n 0, 1) := by decide +kernel
theorem dX3_passDay_22 : decode cX3_passDay 22 = .ok (.getfield 9, 3) := by decide +kernel
theorem dX3_passDay_25 : decode cX3_passDay 25 = .ok (.iconst 1, 1) := by decide +kernel
theorem dX3_passDay_26 : decode cX3_passDay 26 = .ok (.iadd, 1) := by decide +kernel
theorem dX3_passDay_27 : decode cX3_passDay 27 = .ok (.invokevirtual 110, 3) := by decide +kernel
theorem dX3_passDay_30 : decode cX3_passDay 30 = .ok (.goto 29, 3) := by decide +kernel
theorem dX3_passDay_33 : decode cX3_passDay 33 = .ok (.aload_n 0, 1) := by decide +kernel
theorem dX3_passDay_34 : decode cX3_passDay 34 = .ok (.getfield 36, 3) := by decide +kernel
theorem dX3_passDay_37 : decode cX3_passDay 37 = .ok (.aload_n 0, 1) := by decide +kernel
theorem dX3_passDay_38 : decode cX3_passDay 38 = .ok (.getfield 33, 3) := by decide +kernel
theorem dX3_passDay_41 : decode cX3_passDay 41 = .ok (.aload_n 0, 1) := by decide +kernel
theorem dX3_passDay_42 : decode cX3_passDay 42 = .ok (.getfield 15, 3) := by decide +kernel
theorem dX3_passDay_45 : decode cX3_passDay 45 = .ok (.iadd, 1) := by decide +kernel
theorem dX3_passDay_46 : decode cX3_passDay 46 = .ok (.if_icmp .le 13, 3) := by decide +kernel
theorem dX3_passDay_49 : decode cX3_passDay 49 = .ok (.aload_n 0, 1) := by decide +kernel
theorem dX3_passDay_50 : decode cX3_passDay 50 = .ok (.aload_n 0, 1) := by decide +kernel
theorem dX3_passDay_51 : decode cX3_passDay 51 = .ok (.getfield 9, 3) := by decide +kernel
theorem dX3_passDay_54 : decode cX3_passDay 54 = .ok (.iconst 1, 1) := by decide +kernel
theorem dX3_passDay_55 : decode cX3_passDay 55 = .ok (.isub, 1) := by decide +kernel
theorem dX3_passDay_56 : decode cX3_passDay 56 = .ok (.invokevirtual 110, 3) := by decide +kernel
theorem dX3_passDay_59 : decode cX3_passDay 59 = .ok (.iconst 0, 1) := by decide +kernel
theorem dX3_passDay_60 : decode cX3_passDay 60 = .ok (.istore_n 1, 1) := by decide +kernel
theorem dX3_passDay_61 : decode cX3_passDay 61 = .ok (.iload_n 1, 1) := by decide +kernel
theorem dX3_passDay_62 : decode cX3_passDay 62 = .ok (.aload_n 0, 1) := by decide +kernel
theorem dX3_passDay_63 : decode cX3_passDay 63 = .ok (.getfield 27, 3) := by decide +kernel
theorem dX3_passDay_66 : decode cX3_passDay 66 = .ok (.if_icmp .ge 15, 3) := by decide +kernel
theorem dX3_passDay_69 : decode cX3_passDay 69 = .ok (.aload_n 0, 1) := by decide +kernel
theorem dX3_passDay_70 : decode cX3_passDay 70 = .ok (.iload_n 1, 1) := by decide +kernel
theorem dX3_passDay_71 : decode cX3_passDay 71 = .ok (.iconst 4, 1) := by decide +kernel
theorem dX3_passDay_72 : decode cX3_passDay 72 = .ok (.invokevirtual 113, 3) := by decide +kernel
theorem dX3_passDay_75 : decode cX3_passDay 75 = .ok (.iinc 1 1, 3) := by decide +kernel
theorem dX3_passDay_78 : decode cX3_passDay 78 = .ok (.goto (-17), 3) := by decide +kernel
theorem dX3_passDay_81 : decode cX3_passDay 81 = .ok (.aload_n 0, 1) := by decide +kernel
theorem dX3_passDay_82 : decode cX3_passDay 82 = .ok (.invokevirtual 117, 3) := by decide +kernel
theorem dX3_passDay_85 : decode cX3_passDay 85 = .ok (.aload_n 0, 1) := by decide +kernel
theorem dX3_passDay_86 : decode cX3_passDay 86 = .ok (.ldc 120, 2) := by decide +kernel
theorem dX3_passDay_88 : decode cX3_passDay 88 = .ok (.aload_n 0, 1) := by decide +kernel
theorem dX3_passDay_89 : decode cX3_passDay 89 = .ok (.getfield 18, 3) := by decide +kernel
theorem dX3_passDay_92 : decode cX3_passDay 92 = .ok (.iconst 1, 1) := by decide +kernel
theorem dX3_passDay_93 : decode cX3_passDay 93 = .ok (.iadd, 1) := by decide +kernel
theorem dX3_passDay_94 : decode cX3_passDay 94 = .ok (.invokestatic 121, 3) := by decide +kernel
theorem dX3_passDay_97 : decode cX3_passDay 97 = .ok (.putfield 18, 3) := by decide +kernel
theorem dX3_passDay_100 : decode cX3_passDay 100 = .ok (.return_, 1) := by decide +kernel
theorem dX3_moveTo_0 : decode cX3_moveTo 0 = .ok (.aload_n 0, 1) := by decide +kernel
theorem dX3_moveTo_1 : decode cX3_moveTo 1 = .ok (.iload_n 1, 1) := by decide +kernel
theorem dX3_moveTo_2 : decode cX3_moveTo 2 = .ok (.putfield 9, 3) := by decide +kernel
theorem dX3_moveTo_5 : decode cX3_moveTo 5 = .ok (.iconst 0, 1) := by decide +kernel
theorem dX3_moveTo_6 : decode cX3_moveTo 6 = .ok (.istore_n 2, 1) := by decide +kernel
theorem dX3_moveTo_7 : decode cX3_moveTo 7 = .ok (.iload_n 2, 1) := by decide +kernel
theorem dX3_moveTo_8 : decode cX3_moveTo 8 = .ok (.aload_n 0, 1) := by decide +kernel
theorem dX3_moveTo_9 : decode cX3_moveTo 9 = .ok (.getfield 27, 3) := by decide +kernel
theorem dX3_moveTo_12 : decode cX3_moveTo 12 = .ok (.if_icmp .ge 31, 3) := by decide +kernel
theorem dX3_moveTo_15 : decode cX3_moveTo 15 = .ok (.aload_n 0, 1) := by decide +kernel
theorem dX3_moveTo_16 : decode cX3_moveTo 16 = .ok (.iload_n 2, 1) := by decide +kernel
theorem dX3_moveTo_17 : decode cX3_moveTo 17 = .ok (.iconst 1, 1) := by decide +kernel
theorem dX3_moveTo_18 : decode cX3_moveTo 18 = .ok (.invokevirtual 56, 3) := by decide +kernel
theorem dX3_moveTo_21 : decode cX3_moveTo 21 = .ok (.iload_n 1, 1) := by decide +kernel
theorem dX3_moveTo_22 : decode cX3_moveTo 22 = .ok (.if_icmp .ne 15, 3) := by decide +kernel
theorem dX3_moveTo_25 : decode cX3_moveTo 25 = .ok (.aload_n 0, 1) := by decide +kernel
theorem dX3_moveTo_26 : decode cX3_moveTo 26 = .ok (.iload_n 2, 1) := by decide +kernel
theorem dX3_moveTo_27 : decode cX3_moveTo 27 = .ok (.iconst 5, 1) := by decide +kernel
theorem dX3_moveTo_28 : decode cX3_moveTo 28 = .ok (.invokevirtual 113, 3) := by decide +kernel
theorem dX3_moveTo_31 : decode cX3_moveTo 31 = .ok (.aload_n 0, 1) := by decide +kernel
theorem dX3_moveTo_32 : decode cX3_moveTo 32 = .ok (.iload_n 2, 1) := by decide +kernel
theorem dX3_moveTo_33 : decode cX3_moveTo 33 = .ok (.iconst 3, 1) := by decide +kernel
theorem dX3_moveTo_34 : decode cX3_moveTo 34 = .ok (.invokevirtual 113, 3) := by decide +kernel
theorem dX3_moveTo_37 : decode cX3_moveTo 37 = .ok (.iinc 2 1, 3) := by decide +kernel
theorem dX3_moveTo_40 : decode cX3_moveTo 40 = .ok (.goto (-33), 3) := by decide +kernel
theorem dX3_moveTo_43 : decode cX3_moveTo 43 = .ok (.return_, 1) := by decide +kernel
theorem dX3_goOffFirst_0 : decode cX3_goOffFirst 0 = .ok (.iconst 0, 1) := by decide +kernel
theorem dX3_goOffFirst_1 : decode cX3_goOffFirst 1 = .ok (.istore_n 1, 1) := by decide +kernel
theorem dX3_goOffFirst_2 : decode cX3_goOffFirst 2 = .ok (.iload_n 1, 1) := by decide +kernel
theorem dX3_goOffFirst_3 : decode cX3_goOffFirst 3 = .ok (.aload_n 0, 1) := by decide +kernel
theorem dX3_goOffFirst_4 : decode cX3_goOffFirst 4 = .ok (.getfield 27, 3) := by decide +kernel
theorem dX3_goOffFirst_7 : decode cX3_goOffFirst 7 = .ok (.if_icmp .ge 61, 3) := by decide +kernel
theorem dX3_goOffFirst_10 : decode cX3_goOffFirst 10 = .ok (.aload_n 0, 1) := by decide +kernel
theorem dX3_goOffFirst_11 : decode cX3_goOffFirst 11 = .ok (.iload_n 1, 1) := by decide +kernel
theorem dX3_goOffFirst_12 : decode cX3_goOffFirst 12 = .ok (.iconst 0, 1) := by decide +kernel
theorem dX3_goOffFirst_13 : decode cX3_goOffFirst 13 = .ok (.invokevirtual 56, 3) := by decide +kernel
theorem dX3_goOffFirst_16 : decode cX3_goOffFirst 16 = .ok (.invokestatic 81, 3) := by decide +kernel
theorem dX3_goOffFirst_19 : decode cX3_goOffFirst 19 = .ok (.istore_n 2, 1) := by decide +kernel
theorem dX3_goOffFirst_20 : decode cX3_goOffFirst 20 = .ok (.iload_n 2, 1) := by decide +kernel
theorem dX3_goOffFirst_21 : decode cX3_goOffFirst 21 = .ok (.ifCond .le 41, 3) := by decide +kernel
theorem dX3_goOffFirst_24 : decode cX3_goOffFirst 24 = .ok (.aload_n 0, 1) := by decide +kernel
theorem dX3_goOffFirst_25 : decode cX3_goOffFirst 25 = .ok (.iload_n 1, 1) := by decide +kernel
theorem dX3_goOffFirst_26 : decode cX3_goOffFirst 26 = .ok (.iconst 4, 1) := by decide +kernel
theorem dX3_goOffFirst_27 : decode cX3_goOffFirst 27 = .ok (.invokevirtual 56, 3) := by decide +kernel
theorem dX3_goOffFirst_30 : decode cX3_goOffFirst 30 = .ok (.iload_n 2, 1) := by decide +kernel
theorem dX3_goOffFirst_31 : decode cX3_goOffFirst 31 = .ok (.if_icmp .lt 31, 3) := by decide +kernel
theorem dX3_goOffFirst_34 : decode cX3_goOffFirst 34 = .ok (.aload_n 0, 1) := by decide +kernel
theorem dX3_goOffFirst_35 : decode cX3_goOffFirst 35 = .ok (.iload_n 1, 1) := by decide +kernel
theorem dX3_goOffFirst_36 : decode cX3_goOffFirst 36 = .ok (.iconst 4, 1) := by decide +kernel
theorem dX3_goOffFirst_37 : decode cX3_goOffFirst 37 = .ok (.iconst 0, 1) := by decide +kernel
theorem dX3_goOffFirst_38 : decode cX3_goOffFirst 38 = .ok (.invokevirtual 64, 3) := by decide +kernel
theorem dX3_goOffFirst_41 : decode cX3_goOffFirst 41 = .ok (.aload_n 0, 1) := by decide +kernel
theorem dX3_goOffFirst_42 : decode cX3_goOffFirst 42 = .ok (.iload_n 1, 1) := by decide +kernel
theorem dX3_goOffFirst_43 : decode cX3_goOffFirst 43 = .ok (.invokevirtual 124, 3) := by decide +kernel
theorem dX3_goOffFirst_46 : decode cX3_goOffFirst 46 = .ok (.aload_n 0, 1) := by decide +kernel
theorem dX3_goOffFirst_47 : decode cX3_goOffFirst 47 = .ok (.ldc 120, 2) := by decide +kernel
theorem dX3_goOffFirst_49 : decode cX3_goOffFirst 49 = .ok (.aload_n 0, 1) := by decide +kernel
theorem dX3_goOffFirst_50 : decode cX3_goOffFirst 50 = .ok (.getfield 21, 3) := by decide +kernel
theorem dX3_goOffFirst_53 : decode cX3_goOffFirst 53 = .ok (.iconst 1, 1) := by decide +kernel
theorem dX3_goOffFirst_54 : decode cX3_goOffFirst 54 = .ok (.iadd, 1) := by decide +kernel
theorem dX3_goOffFirst_55 : decode cX3_goOffFirst 55 = .ok (.invokestatic 121, 3) := by decide +kernel
theorem dX3_goOffFirst_58 : decode cX3_goOffFirst 58 = .ok (.putfield 21, 3) := by decide +kernel
theorem dX3_goOffFirst_61 : decode cX3_goOffFirst 61 = .ok (.return_, 1) := by decide +kernel
theorem dX3_goOffFirst_62 : decode cX3_goOffFirst 62 = .ok (.iinc 1 1, 3) := by decide +kernel
theorem dX3_goOffFirst_65 : decode cX3_goOffFirst 65 = .ok (.goto (-63), 3) := by decide +kernel
theorem dX3_goOffFirst_68 : decode cX3_goOffFirst 68 = .ok (.return_, 1) := by decide +kernel
theorem dX3_halveOutside_0 : decode cX3_halveOutside 0 = .ok (.iload_n 1, 1) := by decide +kernel
theorem dX3_halveOutside_1 : decode cX3_halveOutside 1 = .ok (.iconst 1, 1) := by decide +kernel
theorem dX3_halveOutside_2 : decode cX3_halveOutside 2 = .ok (.iadd, 1) := by decide +kernel
theorem dX3_halveOutside_3 : decode cX3_halveOutside 3 = .ok (.istore_n 2, 1) := by decide +kernel
theorem dX3_halveOutside_4 : decode cX3_halveOutside 4 = .ok (.iload_n 2, 1) := by decide +kernel
theorem dX3_halveOutside_5 : decode cX3_halveOutside 5 = .ok (.aload_n 0, 1) := by decide +kernel
theorem dX3_halveOutside_6 : decode cX3_halveOutside 6 = .ok (.getfield 27, 3) := by decide +kernel
theorem dX3_halveOutside_9 : decode cX3_halveOutside 9 = .ok (.if_icmp .ge 27, 3) := by decide +kernel
theorem dX3_halveOutside_12 : decode cX3_halveOutside 12 = .ok (.aload_n 0, 1) := by decide +kernel
theorem dX3_halveOutside_13 : decode cX3_halveOutside 13 = .ok (.iload_n 2, 1) := by decide +kernel
theorem dX3_halveOutside_14 : decode cX3_halveOutside 14 = .ok (.iconst 2, 1) := by decide +kernel
theorem dX3_halveOutside_15 : decode cX3_halveOutside 15 = .ok (.iconst 1, 1) := by decide +kernel
theorem dX3_halveOutside_16 : decode cX3_halveOutside 16 = .ok (.aload_n 0, 1) := by decide +kernel
theorem dX3_halveOutside_17 : decode cX3_halveOutside 17 = .ok (.iload_n 2, 1) := by decide +kernel
theorem dX3_halveOutside_18 : decode cX3_halveOutside 18 = .ok (.iconst 2, 1) := by decide +kernel
theorem dX3_halveOutside_19 : decode cX3_halveOutside 19 = .ok (.invokevirtual 56, 3) := by decide +kernel
theorem dX3_halveOutside_22 : decode cX3_halveOutside 22 = .ok (.iconst 2, 1) := by decide +kernel
theorem dX3_halveOutside_23 : decode cX3_halveOutside 23 = .ok (.idiv, 1) := by decide +kernel
theorem dX3_halveOutside_24 : decode cX3_halveOutside 24 = .ok (.invokestatic 90, 3) := by decide +kernel
theorem dX3_halveOutside_27 : decode cX3_halveOutside 27 = .ok (.invokevirtual 64, 3) := by decide +kernel
theorem dX3_halveOutside_30 : decode cX3_halveOutside 30 = .ok (.iinc 2 1, 3) := by decide +kernel
theorem dX3_halveOutside_33 : decode cX3_halveOutside 33 = .ok (.goto (-29), 3) := by decide +kernel
theorem dX3_halveOutside_36 : decode cX3_halveOutside 36 = .ok (.return_, 1) := by decide +kernel
