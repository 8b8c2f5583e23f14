theorem dX5_init_0 : decode cX5_init 0 = .ok (.aload_n 0, 1) := by decide +kernel
theorem dX5_init_1 : decode cX5_init 1 = .ok (.invokespecial 1, 3) := by decide +kernel
theorem dX5_init_4 : decode cX5_init 4 = .ok (.aload_n 0, 1) := by decide +kernel
theorem dX5_init_5 : decode cX5_init 5 = .ok (.bipush 64, 2) := by decide +kernel
theorem dX5_init_7 : decode cX5_init 7 = .ok (.newarray .int, 2) := by decide +kernel
theorem dX5_init_9 : decode cX5_init 9 = .ok (.putfield 7, 3) := by decide +kernel
theorem dX5_init_12 : decode cX5_init 12 = .ok (.aload_n 0, 1) := by decide +kernel
theorem dX5_init_13 : decode cX5_init 13 = .ok (.bipush 64, 2) := by decide +kernel
theorem dX5_init_15 : decode cX5_init 15 = .ok (.newarray .int, 2) := by decide +kernel
theorem dX5_init_17 : decode cX5_init 17 = .ok (.putfield 13, 3) := by decide +kernel
theorem dX5_init_20 : decode cX5_init 20 = .ok (.aload_n 0, 1) := by decide +kernel
theorem dX5_init_21 : decode cX5_init 21 = .ok (.bipush 64, 2) := by decide +kernel
theorem dX5_init_23 : decode cX5_init 23 = .ok (.newarray .int, 2) := by decide +kernel
theorem dX5_init_25 : decode cX5_init 25 = .ok (.putfield 16, 3) := by decide +kernel
theorem dX5_init_28 : decode cX5_init 28 = .ok (.aload_n 0, 1) := by decide +kernel
theorem dX5_init_29 : decode cX5_init 29 = .ok (.bipush 64, 2) := by decide +kernel
theorem dX5_init_31 : decode cX5_init 31 = .ok (.newarray .int, 2) := by decide +kernel
theorem dX5_init_33 : decode cX5_init 33 = .ok (.putfield 19, 3) := by decide +kernel
theorem dX5_init_36 : decode cX5_init 36 = .ok (.aload_n 0, 1) := by decide +kernel
theorem dX5_init_37 : decode cX5_init 37 = .ok (.bipush 7, 2) := by decide +kernel
theorem dX5_init_39 : decode cX5_init 39 = .ok (.newarray .int, 2) := by decide +kernel
theorem dX5_init_41 : decode cX5_init 41 = .ok (.putfield 22, 3) := by decide +kernel
theorem dX5_init_44 : decode cX5_init 44 = .ok (.aload_n 0, 1) := by decide +kernel
theorem dX5_init_45 : decode cX5_init 45 = .ok (.bipush 120, 2) := by decide +kernel
theorem dX5_init_47 : decode cX5_init 47 = .ok (.newarray .int, 2) := by decide +kernel
theorem dX5_init_49 : decode cX5_init 49 = .ok (.putfield 25, 3) := by decide +kernel
theorem dX5_init_52 : decode cX5_init 52 = .ok (.aload_n 0, 1) := by decide +kernel
theorem dX5_init_53 : decode cX5_init 53 = .ok (.iconst 4, 1) := by decide +kernel
theorem dX5_init_54 : decode cX5_init 54 = .ok (.newarray .int, 2) := by decide +kernel
theorem dX5_init_56 : decode cX5_init 56 = .ok (.putfield 28, 3) := by decide +kernel
theorem dX5_init_59 : decode cX5_init 59 = .ok (.aload_n 0, 1) := by decide +kernel
theorem dX5_init_60 : decode cX5_init 60 = .ok (.iconst 4, 1) := by decide +kernel
theorem dX5_init_61 : decode cX5_init 61 = .ok (.newarray .int, 2) := by decide +kernel
theorem dX5_init_63 : decode cX5_init 63 = .ok (.putfield 31, 3) := by decide +kernel
theorem dX5_init_66 : decode cX5_init 66 = .ok (.aload_n 0, 1) := by decide +kernel
theorem dX5_init_67 : decode cX5_init 67 = .ok (.sipush 160, 3) := by decide +kernel
theorem dX5_init_70 : decode cX5_init 70 = .ok (.newarray .int, 2) := by decide +kernel
theorem dX5_init_72 : decode cX5_init 72 = .ok (.putfield 34, 3) := by decide +kernel
theorem dX5_init_75 : decode cX5_init 75 = .ok (.aload_n 0, 1) := by decide +kernel
theorem dX5_init_76 : decode cX5_init 76 = .ok (.bipush 40, 2) := by decide +kernel
theorem dX5_init_78 : decode cX5_init 78 = .ok (.newarray .int, 2) := by decide +kernel
theorem dX5_init_80 : decode cX5_init 80 = .ok (.putfield 37, 3) := by decide +kernel
theorem dX5_init_83 : decode cX5_init 83 = .ok (.aload_n 0, 1) := by decide +kernel
theorem dX5_init_84 : decode cX5_init 84 = .ok (.getfield 7, 3) := by decide +kernel
theorem dX5_init_87 : decode cX5_init 87 = .ok (.iconst 2, 1) := by decide +kernel
theorem dX5_init_88 : decode cX5_init 88 = .ok (.iconst 5, 1) := by decide +kernel
theorem dX5_init_89 : decode cX5_init 89 = .ok (.iastore, 1) := by decide +kernel
theorem dX5_init_90 : decode cX5_init 90 = .ok (.aload_n 0, 1) := by decide +kernel
theorem dX5_init_91 : decode cX5_init 91 = .ok (.getfield 7, 3) := by decide +kernel
theorem dX5_init_94 : decode cX5_init 94 = .ok (.iconst 3, 1) := by decide +kernel
theorem dX5_init_95 : decode cX5_init 95 = .ok (.bipush 10, 2) := by decide +kernel
theorem dX5_init_97 : decode cX5_init 97 = .ok (.iastore, 1) := by decide +kernel
theorem dX5_init_98 : decode cX5_init 98 = .ok (.aload_n 0, 1) := by decide +kernel
theorem dX5_init_99 : decode cX5_init 99 = .ok (.getfield 7, 3) := by decide +kernel
theorem dX5_init_102 : decode cX5_init 102 = .ok (.iconst 5, 1) := by decide +kernel
theorem dX5_init_103 : decode cX5_init 103 = .ok (.iconst 1, 1) := by decide +kernel
theorem dX5_init_104 : decode cX5_init 104 = .ok (.iastore, 1) := by decide +kernel
theorem dX5_init_105 : decode cX5_init 105 = .ok (.iconst 0, 1) := by decide +kernel
theorem dX5_init_106 : decode cX5_init 106 = .ok (.istore_n 1, 1) := by decide +kernel
theorem dX5_init_107 : decode cX5_init 107 = .ok (.iload_n 1, 1) := by decide +kernel
theorem dX5_init_108 : decode cX5_init 108 = .ok (.bipush 10, 2) := by decide +kernel
theorem dX5_init_110 : decode cX5_init 110 = .ok (.if_icmp .ge 19, 3) := by decide +kernel
theorem dX5_init_113 : decode cX5_init 113 = .ok (.aload_n 0, 1) := by decide +kernel
theorem dX5_init_114 : decode cX5_init 114 = .ok (.getfield 7, 3) := by decide +kernel
theorem dX5_init_117 : decode cX5_init 117 = .ok (.bipush 54, 2) := by decide +kernel
theorem dX5_init_119 : decode cX5_init 119 = .ok (.iload_n 1, 1) := by decide +kernel
theorem dX5_init_120 : decode cX5_init 120 = .ok (.iadd, 1) := by decide +kernel
theorem dX5_init_121 : decode cX5_init 121 = .ok (.iconst (-1), 1) := by decide +kernel
theorem dX5_init_122 : decode cX5_init 122 = .ok (.iastore, 1) := by decide +kernel
theorem dX5_init_123 : decode cX5_init 123 = .ok (.iinc 1 1, 3) := by decide +kernel
theorem dX5_init_126 : decode cX5_init 126 = .ok (.goto (-19), 3) := by decide +kernel
theorem dX5_init_129 : decode cX5_init 129 = .ok (.return_, 1) := by decide +kernel
theorem dX5_in_0 : decode cX5_in 0 = .ok (.lload_n 0, 1) := by decide +kernel
theorem dX5_in_1 : decode cX5_in 1 = .ok (.lload_n 2, 1) := by decide +kernel
theorem dX5_in_2 : decode cX5_in 2 = .ok (.lcmp, 1) := by decide +kernel
theorem dX5_in_3 : decode cX5_in 3 = .ok (.ifCond .lt 14, 3) := by decide +kernel
theorem dX5_in_6 : decode cX5_in 6 = .ok (.lload_n 0, 1) := by decide +kernel
theorem dX5_in_7 : decode cX5_in 7 = .ok (.lload 4, 2) := by decide +kernel
theorem dX5_in_9 : decode cX5_in 9 = .ok (.lcmp, 1) := by decide +kernel
theorem dX5_in_10 : decode cX5_in 10 = .ok (.ifCond .gt 7, 3) := by decide +kernel
theorem dX5_in_13 : decode cX5_in 13 = .ok (.iconst 1, 1) := by decide +kernel
theorem dX5_in_14 : decode cX5_in 14 = .ok (.goto 4, 3) := by decide +kernel
theorem dX5_in_17 : decode cX5_in 17 = .ok (.iconst 0, 1) := by decide +kernel
theorem dX5_in_18 : decode cX5_in 18 = .ok (.ireturn, 1) := by decide +kernel
theorem dX5_finds_0 : decode cX5_finds 0 = .ok (.aload_n 0, 1) := by decide +kernel
theorem dX5_finds_1 : decode cX5_finds 1 = .ok (.getfield 22, 3) := by decide +kernel
theorem dX5_finds_4 : decode cX5_finds 4 = .ok (.ldc 40, 2) := by decide +kernel
theorem dX5_finds_6 : decode cX5_finds 6 = .ok (.iload_n 1, 1) := by decide +kernel
theorem dX5_finds_7 : decode cX5_finds 7 = .ok (.isub, 1) := by decide +kernel
theorem dX5_finds_8 : decode cX5_finds 8 = .ok (.dup2, 1) := by decide +kernel
theorem dX5_finds_9 : decode cX5_finds 9 = .ok (.iaload, 1) := by decide +kernel
theorem dX5_finds_10 : decode cX5_finds 10 = .ok (.iconst 1, 1) := by decide +kernel
theorem dX5_finds_11 : decode cX5_finds 11 = .ok (.iadd, 1) := by decide +kernel
theorem dX5_finds_12 : decode cX5_finds 12 = .ok (.iastore, 1) := by decide +kernel
theorem dX5_finds_13 : decode cX5_finds 13 = .ok (.iload_n 1, 1) := by decide +kernel
theorem dX5_finds_14 : decode cX5_finds 14 = .ok (.ireturn, 1) := by decide +kernel
theorem dX5_saves_0 : decode cX5_saves 0 = .ok (.iconst 0, 1) := by decide +kernel
theorem dX5_saves_1 : decode cX5_saves 1 = .ok (.istore_n 1, 1) := by decide +kernel
theorem dX5_saves_2 : decode cX5_saves 2 = .ok (.iload_n 1, 1) := by decide +kernel
theorem dX5_saves_3 : decode cX5_saves 3 = .ok (.bipush 64, 2) := by decide +kernel
theorem dX5_saves_5 : decode cX5_saves 5 = .ok (.if_icmp .ge 21, 3) := by decide +kernel
theorem dX5_saves_8 : decode cX5_saves 8 = .ok (.aload_n 0, 1) := by decide +kernel
theorem dX5_saves_9 : decode cX5_saves 9 = .ok (.getfield 16, 3) := by decide +kernel
theorem dX5_saves_12 : decode cX5_saves 12 = .ok (.iload_n 1, 1) := by decide +kernel
theorem dX5_saves_13 : decode cX5_saves 13 = .ok (.aload_n 0, 1) := by decide +kernel
theorem dX5_saves_14 : decode cX5_saves 14 = .ok (.getfield 7, 3) := by decide +kernel
theorem dX5_saves_17 : decode cX5_saves 17 = .ok (.iload_n 1, 1) := by decide +kernel
theorem dX5_saves_18 : decode cX5_saves 18 = .ok (.iaload, 1) := by decide +kernel
theorem dX5_saves_19 : decode cX5_saves 19 = .ok (.iastore, 1) := by decide +kernel
theorem dX5_saves_20 : decode cX5_saves 20 = .ok (.iinc 1 1, 3) := by decide +kernel
theorem dX5_saves_23 : decode cX5_saves 23 = .ok (.goto (-21), 3) := by decide +kernel
theorem dX5_saves_26 : decode cX5_saves 26 = .ok (.return_, 1) := by decide +kernel
theorem dX5_putsBack_0 : decode cX5_putsBack 0 = .ok (.iconst 0, 1) := by decide +kernel
theorem dX5_putsBack_1 : decode cX5_putsBack 1 = .ok (.istore_n 1, 1) := by decide +kernel
theorem dX5_putsBack_2 : decode cX5_putsBack 2 = .ok (.iload_n 1, 1) := by decide +kernel
theorem dX5_putsBack_3 : decode cX5_putsBack 3 = .ok (.bipush 64, 2) := by decide +kernel
theorem dX5_putsBack_5 : decode cX5_putsBack 5 = .ok (.if_icmp .ge 21, 3) := by decide +kernel
theorem dX5_putsBack_8 : decode cX5_putsBack 8 = .ok (.aload_n 0, 1) := by decide +kernel
theorem dX5_putsBack_9 : decode cX5_putsBack 9 = .ok (.getfield 7, 3) := by decide +kernel
theorem dX5_putsBack_12 : decode cX5_putsBack 12 = .ok (.iload_n 1, 1) := by decide +kernel
theorem dX5_putsBack_13 : decode cX5_putsBack 13 = .ok (.aload_n 0, 1) := by decide +kernel
theorem dX5_putsBack_14 : decode cX5_putsBack 14 = .ok (.getfield 16, 3) := by decide +kernel
theorem dX5_putsBack_17 : decode cX5_putsBack 17 = .ok (.iload_n 1, 1) := by decide +kernel
theorem dX5_putsBack_18 : decode cX5_putsBack 18 = .ok (.iaload, 1) := by decide +kernel
theorem dX5_putsBack_19 : decode cX5_putsBack 19 = .ok (.iastore, 1) := by decide +kernel
theorem dX5_putsBack_20 : decode cX5_putsBack 20 = .ok (.iinc 1 1, 3) := by decide +kernel
theorem dX5_putsBack_23 : decode cX5_putsBack 23 = .ok (.goto (-21), 3) := by decide +kernel
theorem dX5_putsBack_26 : decode cX5_putsBack 26 = .ok (.return_, 1) := by decide +kernel
theorem dX5_laysAside_0 : decode cX5_laysAside 0 = .ok (.iconst 0, 1) := by decide +kernel
theorem dX5_laysAside_1 : decode cX5_laysAside 1 = .ok (.istore_n 1, 1) := by decide +kernel
theorem dX5_laysAside_2 : decode cX5_laysAside 2 = .ok (.iload_n 1, 1) := by decide +kernel
theorem dX5_laysAside_3 : decode cX5_laysAside 3 = .ok (.bipush 64, 2) := by decide +kernel
theorem dX5_laysAside_5 : decode cX5_laysAside 5 = .ok (.if_icmp .ge 21, 3) := by decide +kernel
theorem dX5_laysAside_8 : decode cX5_laysAside 8 = .ok (.aload_n 0, 1) := by decide +kernel
theorem dX5_laysAside_9 : decode cX5_laysAside 9 = .ok (.getfield 19, 3) := by decide +kernel
theorem dX5_laysAside_12 : decode cX5_laysAside 12 = .ok (.iload_n 1, 1) := by decide +kernel
theorem dX5_laysAside_13 : decode cX5_laysAside 13 = .ok (.aload_n 0, 1) := by decide +kernel
theorem dX5_laysAside_14 : decode cX5_laysAside 14 = .ok (.getfield 7, 3) := by decide +kernel
theorem dX5_laysAside_17 : decode cX5_laysAside 17 = .ok (.iload_n 1, 1) := by decide +kernel
theorem dX5_laysAside_18 : decode cX5_laysAside 18 = .ok (.iaload, 1) := by decide +kernel
theorem dX5_laysAside_19 : decode cX5_laysAside 19 = .ok (.iastore, 1) := by decide +kernel
theorem dX5_laysAside_20 : decode cX5_laysAside 20 = .ok (.iinc 1 1, 3) := by decide +kernel
theorem dX5_laysAside_23 : decode cX5_laysAside 23 = .ok (.goto (-21), 3) := by decide +kernel
theorem dX5_laysAside_26 : decode cX5_laysAside 26 = .ok (.return_, 1) := by decide +kernel
theorem dX5_takesBack_0 : decode cX5_takesBack 0 = .ok (.iconst 0, 1) := by decide +kernel
theorem dX5_takesBack_1 : decode cX5_takesBack 1 = .ok (.istore_n 2, 1) := by decide +kernel
theorem dX5_takesBack_2 : decode cX5_takesBack 2 = .ok (.iload_n 2, 1) := by decide +kernel
theorem dX5_takesBack_3 : decode cX5_takesBack 3 = .ok (.bipush 64, 2) := by decide +kernel
theorem dX5_takesBack_5 : decode cX5_takesBack 5 = .ok (.if_icmp .ge 21, 3) := by decide +kernel
theorem dX5_takesBack_8 : decode cX5_takesBack 8 = .ok (.aload_n 0, 1) := by decide +kernel
theorem dX5_takesBack_9 : decode cX5_takesBack 9 = .ok (.getfield 7, 3) := by decide +kernel
theorem dX5_takesBack_12 : decode cX5_takesBack 12 = .ok (.iload_n 2, 1) := by decide +kernel
theorem dX5_takesBack_13 : decode cX5_takesBack 13 = .ok (.aload_n 0, 1) := by decide +kernel
theorem dX5_takesBack_14 : decode cX5_takesBack 14 = .ok (.getfield 19, 3) := by decide +kernel
theorem dX5_takesBack_17 : decode cX5_takesBack 17 = .ok (.iload_n 2, 1) := by decide +kernel
theorem dX5_takesBack_18 : decode cX5_takesBack 18 = .ok (.iaload, 1) := by decide +kernel
theorem dX5_takesBack_19 : decode cX5_takesBack 19 = .ok (.iastore, 1) := by decide +kernel
theorem dX5_takesBack_20 : decode cX5_takesBack 20 = .ok (.iinc 2 1, 3) := by decide +kernel
theorem dX5_takesBack_23 : decode cX5_takesBack 23 = .ok (.goto (-21), 3) := by decide +kernel
theorem dX5_takesBack_26 : decode cX5_takesBack 26 = .ok (.iload_n 1, 1) := by decide +kernel
theorem dX5_takesBack_27 : decode cX5_takesBack 27 = .ok (.ireturn, 1) := by decide +kernel
theorem dX5_becomes_0 : decode cX5_becomes 0 = .ok (.aload_n 0, 1) := by decide +kernel
theorem dX5_becomes_1 : decode cX5_becomes 1 = .ok (.getfield 7, 3) := by decide +kernel
theorem dX5_becomes_4 : decode cX5_becomes 4 = .ok (.iload_n 1, 1) := by decide +kernel
theorem dX5_becomes_5 : decode cX5_becomes 5 = .ok (.iaload, 1) := by decide +kernel
theorem dX5_becomes_6 : decode cX5_becomes 6 = .ok (.istore_n 3, 1) := by decide +kernel
theorem dX5_becomes_7 : decode cX5_becomes 7 = .ok (.aload_n 0, 1) := by decide +kernel
theorem dX5_becomes_8 : decode cX5_becomes 8 = .ok (.getfield 7, 3) := by decide +kernel
theorem dX5_becomes_11 : decode cX5_becomes 11 = .ok (.iload_n 1, 1) := by decide +kernel
theorem dX5_becomes_12 : decode cX5_becomes 12 = .ok (.iload_n 2, 1) := by decide +kernel
theorem dX5_becomes_13 : decode cX5_becomes 13 = .ok (.iastore, 1) := by decide +kernel
theorem dX5_becomes_14 : decode cX5_becomes 14 = .ok (.iload_n 3, 1) := by decide +kernel
theorem dX5_becomes_15 : decode cX5_becomes 15 = .ok (.ireturn, 1) := by decide +kernel
theorem dX5_isPlace_0 : decode cX5_isPlace 0 = .ok (.iload_n 0, 1) := by decide +kernel
theorem dX5_isPlace_1 : decode cX5_isPlace 1 = .ok (.i2l, 1) := by decide +kernel
theorem dX5_isPlace_2 : decode cX5_isPlace 2 = .ok (.lconst 0, 1) := by decide +kernel
theorem dX5_isPlace_3 : decode cX5_isPlace 3 = .ok (.ldc2_w 41, 3) := by decide +kernel
theorem dX5_isPlace_6 : decode cX5_isPlace 6 = .ok (.invokestatic 43, 3) := by decide +kernel
theorem dX5_isPlace_9 : decode cX5_isPlace 9 = .ok (.ireturn, 1) := by decide +kernel
theorem dX5_isPiece_0 : decode cX5_isPiece 0 = .ok (.iload_n 1, 1) := by decide +kernel
theorem dX5_isPiece_1 : decode cX5_isPiece 1 = .ok (.i2l, 1) := by decide +kernel
theorem dX5_isPiece_2 : decode cX5_isPiece 2 = .ok (.lconst 0, 1) := by decide +kernel
theorem dX5_isPiece_3 : decode cX5_isPiece 3 = .ok (.aload_n 0, 1) := by decide +kernel
theorem dX5_isPiece_4 : decode cX5_isPiece 4 = .ok (.getfield 7, 3) := by decide +kernel
theorem dX5_isPiece_7 : decode cX5_isPiece 7 = .ok (.iconst 1, 1) := by decide +kernel
theorem dX5_isPiece_8 : decode cX5_isPiece 8 = .ok (.iaload, 1) := by decide +kernel
theorem dX5_isPiece_9 : decode cX5_isPiece 9 = .ok (.iconst 1, 1) := by decide +kernel
theorem dX5_isPiece_10 : decode cX5_isPiece 10 = .ok (.isub, 1) := by decide +kernel
theorem dX5_isPiece_11 : decode cX5_isPiece 11 = .ok (.i2l, 1) := by decide +kernel
theorem dX5_isPiece_12 : decode cX5_isPiece 12 = .ok (.invokestatic 43, 3) := by decide +kernel
theorem dX5_isPiece_15 : decode cX5_isPiece 15 = .ok (.ireturn, 1) := by decide +kernel
theorem dX5_isKind_0 : decode cX5_isKind 0 = .ok (.iload_n 0, 1) := by decide +kernel
theorem dX5_isKind_1 : decode cX5_isKind 1 = .ok (.i2l, 1) := by decide +kernel
theorem dX5_isKind_2 : decode cX5_isKind 2 = .ok (.lconst 0, 1) := by decide +kernel
theorem dX5_isKind_3 : decode cX5_isKind 3 = .ok (.ldc2_w 47, 3) := by decide +kernel
theorem dX5_isKind_6 : decode cX5_isKind 6 = .ok (.invokestatic 43, 3) := by decide +kernel
theorem dX5_isKind_9 : decode cX5_isKind 9 = .ok (.ireturn, 1) := by decide +kernel
theorem dX5_place_0 : decode cX5_place 0 = .ok (.bipush 6, 2) := by decide +kernel
theorem dX5_place_2 : decode cX5_place 2 = .ok (.bipush 6, 2) := by decide +kernel
theorem dX5_place_4 : decode cX5_place 4 = .ok (.iload_n 0, 1) := by decide +kernel
theorem dX5_place_5 : decode cX5_place 5 = .ok (.imul, 1) := by decide +kernel
theorem dX5_place_6 : decode cX5_place 6 = .ok (.iadd, 1) := by decide +kernel
theorem dX5_place_7 : decode cX5_place 7 = .ok (.iload_n 1, 1) := by decide +kernel
theorem dX5_place_8 : decode cX5_place 8 = .ok (.iadd, 1) := by decide +kernel
theorem dX5_place_9 : decode cX5_place 9 = .ok (.ireturn, 1) := by decide +kernel
theorem dX5_its_0 : decode cX5_its 0 = .ok (.aload_n 0, 1) := by decide +kernel
theorem dX5_its_1 : decode cX5_its 1 = .ok (.getfield 7, 3) := by decide +kernel
theorem dX5_its_4 : decode cX5_its 4 = .ok (.iload_n 1, 1) := by decide +kernel
theorem dX5_its_5 : decode cX5_its 5 = .ok (.iload_n 2, 1) := by decide +kernel
theorem dX5_its_6 : decode cX5_its 6 = .ok (.invokestatic 49, 3) := by decide +kernel
theorem dX5_its_9 : decode cX5_its 9 = .ok (.iaload, 1) := by decide +kernel
theorem dX5_its_10 : decode cX5_its 10 = .ok (.ireturn, 1) := by decide +kernel
theorem dX5_heldTo_0 : decode cX5_heldTo 0 = .ok (.iload_n 0, 1) := by decide +kernel
theorem dX5_heldTo_1 : decode cX5_heldTo 1 = .ok (.iload_n 1, 1) := by decide +kernel
theorem dX5_heldTo_2 : decode cX5_heldTo 2 = .ok (.if_icmp .le 7, 3) := by decide +kernel
theorem dX5_heldTo_5 : decode cX5_heldTo 5 = .ok (.iload_n 1, 1) := by decide +kernel
theorem dX5_heldTo_6 : decode cX5_heldTo 6 = .ok (.goto 4, 3) := by decide +kernel
theorem dX5_heldTo_9 : decode cX5_heldTo 9 = .ok (.iload_n 0, 1) := by decide +kernel
theorem dX5_heldTo_10 : decode cX5_heldTo 10 = .ok (.ireturn, 1) := by decide +kernel
theorem dX5_least0_0 : decode cX5_least0 0 = .ok (.iload_n 0, 1) := by decide +kernel
theorem dX5_least0_1 : decode cX5_least0 1 = .ok (.ifCond .ge 7, 3) := by decide +kernel
theorem dX5_least0_4 : decode cX5_least0 4 = .ok (.iconst 0, 1) := by decide +kernel
theorem dX5_least0_5 : decode cX5_least0 5 = .ok (.goto 4, 3) := by decide +kernel
theorem dX5_least0_8 : decode cX5_least0 8 = .ok (.iload_n 0, 1) := by decide +kernel
theorem dX5_least0_9 : decode cX5_least0 9 = .ok (.ireturn, 1) := by decide +kernel
theorem dX5_distance_0 : decode cX5_distance 0 = .ok (.iload_n 0, 1) := by decide +kernel
theorem dX5_distance_1 : decode cX5_distance 1 = .ok (.iload_n 1, 1) := by decide +kernel
theorem dX5_distance_2 : decode cX5_distance 2 = .ok (.if_icmp .ge 9, 3) := by decide +kernel
theorem dX5_distance_5 : decode cX5_distance 5 = .ok (.iload_n 1, 1) := by decide +kernel
theorem dX5_distance_6 : decode cX5_distance 6 = .ok (.iload_n 0, 1) := by decide +kernel
theorem dX5_distance_7 : decode cX5_distance 7 = .ok (.isub, 1) := by decide +kernel
theorem dX5_distance_8 : decode cX5_distance 8 = .ok (.goto 6, 3) := by decide +kernel
theorem dX5_distance_11 : decode cX5_distance 11 = .ok (.iload_n 0, 1) := by decide +kernel
theorem dX5_distance_12 : decode cX5_distance 12 = .ok (.iload_n 1, 1) := by decide +kernel
theorem dX5_distance_13 : decode cX5_distance 13 = .ok (.isub, 1) := by decide +kernel
theorem dX5_distance_14 : decode cX5_distance 14 = .ok (.ireturn, 1) := by decide +kernel
theorem dX5_ones_0 : decode cX5_ones 0 = .ok (.iconst 0, 1) := by decide +kernel
theorem dX5_ones_1 : decode cX5_ones 1 = .ok (.istore_n 1, 1) := by decide +kernel
theorem dX5_ones_2 : decode cX5_ones 2 = .ok (.iload_n 0, 1) := by decide +kernel
theorem dX5_ones_3 : decode cX5_ones 3 = .ok (.istore_n 2, 1) := by decide +kernel
theorem dX5_ones_4 : decode cX5_ones 4 = .ok (.iload_n 2, 1) := by decide +kernel
theorem dX5_ones_5 : decode cX5_ones 5 = .ok (.ifCond .eq 15, 3) := by decide +kernel
theorem dX5_ones_8 : decode cX5_ones 8 = .ok (.iinc 1 1, 3) := by decide +kernel
theorem dX5_ones_11 : decode cX5_ones 11 = .ok (.iload_n 2, 1) := by decide +kernel
theorem dX5_ones_12 : decode cX5_ones 12 = .ok (.iload_n 2, 1) := by decide +kernel
theorem dX5_ones_13 : decode cX5_ones 13 = .ok (.iconst 1, 1) := by decide +kernel
theorem dX5_ones_14 : decode cX5_ones 14 = .ok (.isub, 1) := by decide +kernel
theorem dX5_ones_15 : decode cX5_ones 15 = .ok (.iand, 1) := by decide +kernel
theorem dX5_ones_16 : decode cX5_ones 16 = .ok (.istore_n 2, 1) := by decide +kernel
theorem dX5_ones_17 : decode cX5_ones 17 = .ok (.goto (-13), 3) := by decide +kernel
theorem dX5_ones_20 : decode cX5_ones 20 = .ok (.iload_n 1, 1) := by decide +kernel
theorem dX5_ones_21 : decode cX5_ones 21 = .ok (.ireturn, 1) := by decide +kernel
theorem dX5_ball_0 : decode cX5_ball 0 = .ok (.iload_n 1, 1) := by decide +kernel
theorem dX5_ball_1 : decode cX5_ball 1 = .ok (.invokestatic 53, 3) := by decide +kernel
theorem dX5_ball_4 : decode cX5_ball 4 = .ok (.ifCond .eq 12, 3) := by decide +kernel
theorem dX5_ball_7 : decode cX5_ball 7 = .ok (.aload_n 0, 1) := by decide +kernel
theorem dX5_ball_8 : decode cX5_ball 8 = .ok (.iconst 2, 1) := by decide +kernel
theorem dX5_ball_9 : decode cX5_ball 9 = .ok (.iload_n 1, 1) := by decide +kernel
theorem dX5_ball_10 : decode cX5_ball 10 = .ok (.invokevirtual 57, 3) := by decide +kernel
theorem dX5_ball_13 : decode cX5_ball 13 = .ok (.goto 9, 3) := by decide +kernel
theorem dX5_ball_16 : decode cX5_ball 16 = .ok (.aload_n 0, 1) := by decide +kernel
theorem dX5_ball_17 : decode cX5_ball 17 = .ok (.ldc 40, 2) := by decide +kernel
theorem dX5_ball_19 : decode cX5_ball 19 = .ok (.invokevirtual 60, 3) := by decide +kernel
theorem dX5_ball_22 : decode cX5_ball 22 = .ok (.ireturn, 1) := by decide +kernel
theorem dX5_drag_0 : decode cX5_drag 0 = .ok (.iload_n 1, 1) := by decide +kernel
theorem dX5_drag_1 : decode cX5_drag 1 = .ok (.i2l, 1) := by decide +kernel
theorem dX5_drag_2 : decode cX5_drag 2 = .ok (.lconst 0, 1) := by decide +kernel
theorem dX5_drag_3 : decode cX5_drag 3 = .ok (.ldc2_w 64, 3) := by decide +kernel
theorem dX5_drag_6 : decode cX5_drag 6 = .ok (.invokestatic 43, 3) := by decide +kernel
theorem dX5_drag_9 : decode cX5_drag 9 = .ok (.ifCond .eq 12, 3) := by decide +kernel
theorem dX5_drag_12 : decode cX5_drag 12 = .ok (.aload_n 0, 1) := by decide +kernel
theorem dX5_drag_13 : decode cX5_drag 13 = .ok (.iconst 3, 1) := by decide +kernel
theorem dX5_drag_14 : decode cX5_drag 14 = .ok (.iload_n 1, 1) := by decide +kernel
theorem dX5_drag_15 : decode cX5_drag 15 = .ok (.invokevirtual 57, 3) := by decide +kernel
theorem dX5_drag_18 : decode cX5_drag 18 = .ok (.goto 9, 3) := by decide +kernel
theorem dX5_drag_21 : decode cX5_drag 21 = .ok (.aload_n 0, 1) := by decide +kernel
theorem dX5_drag_22 : decode cX5_drag 22 = .ok (.ldc 40, 2) := by decide +kernel
theorem dX5_drag_24 : decode cX5_drag 24 = .ok (.invokevirtual 60, 3) := by decide +kernel
theorem dX5_drag_27 : decode cX5_drag 27 = .ok (.ireturn, 1) := by decide +kernel
theorem dX5_adds_0 : decode cX5_adds 0 = .ok (.aload_n 0, 1) := by decide +kernel
theorem dX5_adds_1 : decode cX5_adds 1 = .ok (.getfield 7, 3) := by decide +kernel
theorem dX5_adds_4 : decode cX5_adds 4 = .ok (.iconst 1, 1) := by decide +kernel
theorem dX5_adds_5 : decode cX5_adds 5 = .ok (.iaload, 1) := by decide +kernel
theorem dX5_adds_6 : decode cX5_adds 6 = .ok (.istore_n 3, 1) := by decide +kernel
theorem dX5_adds_7 : decode cX5_adds 7 = .ok (.iconst 0, 1) := by decide +kernel
theorem dX5_adds_8 : decode cX5_adds 8 = .ok (.istore 4, 2) := by decide +kernel
theorem dX5_adds_10 : decode cX5_adds 10 = .ok (.iload 4, 2) := by decide +kernel
theorem dX5_adds_12 : decode cX5_adds 12 = .ok (.bipush 6, 2) := by decide +kernel
theorem dX5_adds_14 : decode cX5_adds 14 = .ok (.if_icmp .ge 21, 3) := by decide +kernel
theorem dX5_adds_17 : decode cX5_adds 17 = .ok (.aload_n 0, 1) := by decide +kernel
theorem dX5_adds_18 : decode cX5_adds 18 = .ok (.getfield 7, 3) := by decide +kernel
theorem dX5_adds_21 : decode cX5_adds 21 = .ok (.iload_n 3, 1) := by decide +kernel
theorem dX5_adds_22 : decode cX5_adds 22 = .ok (.iload 4, 2) := by decide +kernel
theorem dX5_adds_24 : decode cX5_adds 24 = .ok (.invokestatic 49, 3) := by decide +kernel
theorem dX5_adds_27 : decode cX5_adds 27 = .ok (.iconst 0, 1) := by decide +kernel
theorem dX5_adds_28 : decode cX5_adds 28 = .ok (.iastore, 1) := by decide +kernel
theorem dX5_adds_29 : decode cX5_adds 29 = .ok (.iinc 4 1, 3) := by decide +kernel
theorem dX5_adds_32 : decode cX5_adds 32 = .ok (.goto (-22), 3) := by decide +kernel
theorem dX5_adds_35 : decode cX5_adds 35 = .ok (.aload_n 0, 1) := by decide +kernel
theorem dX5_adds_36 : decode cX5_adds 36 = .ok (.getfield 7, 3) := by decide +kernel
theorem dX5_adds_39 : decode cX5_adds 39 = .ok (.iload_n 3, 1) := by decide +kernel
theorem dX5_adds_40 : decode cX5_adds 40 = .ok (.iconst 0, 1) := by decide +kernel
theorem dX5_adds_41 : decode cX5_adds 41 = .ok (.invokestatic 49, 3) := by decide +kernel
theorem dX5_adds_44 : decode cX5_adds 44 = .ok (.iload_n 1, 1) := by decide +kernel
theorem dX5_adds_45 : decode cX5_adds 45 = .ok (.iastore, 1) := by decide +kernel
theorem dX5_adds_46 : decode cX5_adds 46 = .ok (.aload_n 0, 1) := by decide +kernel
theorem dX5_adds_47 : decode cX5_adds 47 = .ok (.getfield 7, 3) := by decide +kernel
theorem dX5_adds_50 : decode cX5_adds 50 = .ok (.iload_n 3, 1) := by decide +kernel
theorem dX5_adds_51 : decode cX5_adds 51 = .ok (.iconst 1, 1) := by decide +kernel
theorem dX5_adds_52 : decode cX5_adds 52 = .ok (.invokestatic 49, 3) := by decide +kernel
theorem dX5_adds_55 : decode cX5_adds 55 = .ok (.iload_n 2, 1) := by decide +kernel
theorem dX5_adds_56 : decode cX5_adds 56 = .ok (.iastore, 1) := by decide +kernel
theorem dX5_adds_57 : decode cX5_adds 57 = .ok (.aload_n 0, 1) := by decide +kernel
theorem dX5_adds_58 : decode cX5_adds 58 = .ok (.getfield 7, 3) := by decide +kernel
theorem dX5_adds_61 : decode cX5_adds 61 = .ok (.iload_n 3, 1) := by decide +kernel
theorem dX5_adds_62 : decode cX5_adds 62 = .ok (.iconst 2, 1) := by decide +kernel
theorem dX5_adds_63 : decode cX5_adds 63 = .ok (.invokestatic 49, 3) := by decide +kernel
theorem dX5_adds_66 : decode cX5_adds 66 = .ok (.bipush 10, 2) := by decide +kernel
theorem dX5_adds_68 : decode cX5_adds 68 = .ok (.iastore, 1) := by decide +kernel
theorem dX5_adds_69 : decode cX5_adds 69 = .ok (.aload_n 0, 1) := by decide +kernel
theorem dX5_adds_70 : decode cX5_adds 70 = .ok (.getfield 7, 3) := by decide +kernel
theorem dX5_adds_73 : decode cX5_adds 73 = .ok (.iconst 1, 1) := by decide +kernel
theorem dX5_adds_74 : decode cX5_adds 74 = .ok (.dup2, 1) := by decide +kernel
theorem dX5_adds_75 : decode cX5_adds 75 = .ok (.iaload, 1) := by decide +kernel
theorem dX5_adds_76 : decode cX5_adds 76 = .ok (.iconst 1, 1) := by decide +kernel
theorem dX5_adds_77 : decode cX5_adds 77 = .ok (.iadd, 1) := by decide +kernel
theorem dX5_adds_78 : decode cX5_adds 78 = .ok (.iastore, 1) := by decide +kernel
theorem dX5_adds_79 : decode cX5_adds 79 = .ok (.iload_n 3, 1) := by decide +kernel
theorem dX5_adds_80 : decode cX5_adds 80 = .ok (.ireturn, 1) := by decide +kernel
theorem dX5_wind_0 : decode cX5_wind 0 = .ok (.iload_n 1, 1) := by decide +kernel
theorem dX5_wind_1 : decode cX5_wind 1 = .ok (.invokestatic 66, 3) := by decide +kernel
theorem dX5_wind_4 : decode cX5_wind 4 = .ok (.ifCond .eq 10, 3) := by decide +kernel
theorem dX5_wind_7 : decode cX5_wind 7 = .ok (.iload_n 2, 1) := by decide +kernel
theorem dX5_wind_8 : decode cX5_wind 8 = .ok (.invokestatic 53, 3) := by decide +kernel
theorem dX5_wind_11 : decode cX5_wind 11 = .ok (.ifCond .ne 10, 3) := by decide +kernel
theorem dX5_wind_14 : decode cX5_wind 14 = .ok (.aload_n 0, 1) := by decide +kernel
theorem dX5_wind_15 : decode cX5_wind 15 = .ok (.ldc 40, 2) := by decide +kernel
theorem dX5_wind_17 : decode cX5_wind 17 = .ok (.invokevirtual 60, 3) := by decide +kernel
theorem dX5_wind_20 : decode cX5_wind 20 = .ok (.ireturn, 1) := by decide +kernel
theorem dX5_wind_21 : decode cX5_wind 21 = .ok (.aload_n 0, 1) := by decide +kernel
theorem dX5_wind_22 : decode cX5_wind 22 = .ok (.getfield 7, 3) := by decide +kernel
theorem dX5_wind_25 : decode cX5_wind 25 = .ok (.iconst 1, 1) := by decide +kernel
theorem dX5_wind_26 : decode cX5_wind 26 = .ok (.iaload, 1) := by decide +kernel
theorem dX5_wind_27 : decode cX5_wind 27 = .ok (.bipush 8, 2) := by decide +kernel
theorem dX5_wind_29 : decode cX5_wind 29 = .ok (.if_icmp .ne 12, 3) := by decide +kernel
theorem dX5_wind_32 : decode cX5_wind 32 = .ok (.aload_n 0, 1) := by decide +kernel
theorem dX5_wind_33 : decode cX5_wind 33 = .ok (.ldc 69, 2) := by decide +kernel
theorem dX5_wind_35 : decode cX5_wind 35 = .ok (.invokevirtual 60, 3) := by decide +kernel
theorem dX5_wind_38 : decode cX5_wind 38 = .ok (.goto 9, 3) := by decide +kernel
theorem dX5_wind_41 : decode cX5_wind 41 = .ok (.aload_n 0, 1) := by decide +kernel
theorem dX5_wind_42 : decode cX5_wind 42 = .ok (.iload_n 1, 1) := by decide +kernel
theorem dX5_wind_43 : decode cX5_wind 43 = .ok (.iload_n 2, 1) := by decide +kernel
theorem dX5_wind_44 : decode cX5_wind 44 = .ok (.invokevirtual 70, 3) := by decide +kernel
theorem dX5_wind_47 : decode cX5_wind 47 = .ok (.ireturn, 1) := by decide +kernel
theorem dX5_pullsOf_0 : decode cX5_pullsOf 0 = .ok (.aload_n 0, 1) := by decide +kernel
theorem dX5_pullsOf_1 : decode cX5_pullsOf 1 = .ok (.iload_n 1, 1) := by decide +kernel
theorem dX5_pullsOf_2 : decode cX5_pullsOf 2 = .ok (.iconst 2, 1) := by decide +kernel
theorem dX5_pullsOf_3 : decode cX5_pullsOf 3 = .ok (.invokevirtual 73, 3) := by decide +kernel
theorem dX5_pullsOf_6 : decode cX5_pullsOf 6 = .ok (.istore_n 2, 1) := by decide +kernel
theorem dX5_pullsOf_7 : decode cX5_pullsOf 7 = .ok (.iload_n 2, 1) := by decide +kernel
theorem dX5_pullsOf_8 : decode cX5_pullsOf 8 = .ok (.aload_n 0, 1) := by decide +kernel
theorem dX5_pullsOf_9 : decode cX5_pullsOf 9 = .ok (.iload_n 1, 1) := by decide +kernel
theorem dX5_pullsOf_10 : decode cX5_pullsOf 10 = .ok (.iconst 4, 1) := by decide +kernel
theorem dX5_pullsOf_11 : decode cX5_pullsOf 11 = .ok (.invokevirtual 73, 3) := by decide +kernel
theorem dX5_pullsOf_14 : decode cX5_pullsOf 14 = .ok (.iadd, 1) := by decide +kernel
theorem dX5_pullsOf_15 : decode cX5_pullsOf 15 = .ok (.istore_n 3, 1) := by decide +kernel
theorem dX5_pullsOf_16 : decode cX5_pullsOf 16 = .ok (.aload_n 0, 1) := by decide +kernel
theorem dX5_pullsOf_17 : decode cX5_pullsOf 17 = .ok (.getfield 7, 3) := by decide +kernel
theorem dX5_pullsOf_20 : decode cX5_pullsOf 20 = .ok (.iconst 0, 1) := by decide +kernel
theorem dX5_pullsOf_21 : decode cX5_pullsOf 21 = .ok (.iaload, 1) := by decide +kernel
theorem dX5_pullsOf_22 : decode cX5_pullsOf 22 = .ok (.bipush 7, 2) := by decide +kernel
theorem dX5_pullsOf_24 : decode cX5_pullsOf 24 = .ok (.irem, 1) := by decide +kernel
theorem dX5_pullsOf_25 : decode cX5_pullsOf 25 = .ok (.ifCond .ne 9, 3) := by decide +kernel
theorem dX5_pullsOf_28 : decode cX5_pullsOf 28 = .ok (.iconst 3, 1) := by decide +kernel
theorem dX5_pullsOf_29 : decode cX5_pullsOf 29 = .ok (.iload_n 2, 1) := by decide +kernel
theorem dX5_pullsOf_30 : decode cX5_pullsOf 30 = .ok (.imul, 1) := by decide +kernel
theorem dX5_pullsOf_31 : decode cX5_pullsOf 31 = .ok (.goto 4, 3) := by decide +kernel
theorem dX5_pullsOf_34 : decode cX5_pullsOf 34 = .ok (.iload_n 2, 1) := by decide +kernel
theorem dX5_pullsOf_35 : decode cX5_pullsOf 35 = .ok (.istore 4, 2) := by decide +kernel
theorem dX5_pullsOf_37 : decode cX5_pullsOf 37 = .ok (.iload 4, 2) := by decide +kernel
theorem dX5_pullsOf_39 : decode cX5_pullsOf 39 = .ok (.aload_n 0, 1) := by decide +kernel
theorem dX5_pullsOf_40 : decode cX5_pullsOf 40 = .ok (.iload_n 1, 1) := by decide +kernel
theorem dX5_pullsOf_41 : decode cX5_pullsOf 41 = .ok (.iconst 3, 1) := by decide +kernel
theorem dX5_pullsOf_42 : decode cX5_pullsOf 42 = .ok (.invokevirtual 73, 3) := by decide +kernel
theorem dX5_pullsOf_45 : decode cX5_pullsOf 45 = .ok (.isub, 1) := by decide +kernel
theorem dX5_pullsOf_46 : decode cX5_pullsOf 46 = .ok (.invokestatic 76, 3) := by decide +kernel
theorem dX5_pullsOf_49 : decode cX5_pullsOf 49 = .ok (.istore 5, 2) := by decide +kernel
theorem dX5_pullsOf_51 : decode cX5_pullsOf 51 = .ok (.aload_n 0, 1) := by decide +kernel
theorem dX5_pullsOf_52 : decode cX5_pullsOf 52 = .ok (.iload_n 1, 1) := by decide +kernel
theorem dX5_pullsOf_53 : decode cX5_pullsOf 53 = .ok (.iconst 0, 1) := by decide +kernel
theorem dX5_pullsOf_54 : decode cX5_pullsOf 54 = .ok (.invokevirtual 73, 3) := by decide +kernel
theorem dX5_pullsOf_57 : decode cX5_pullsOf 57 = .ok (.tableswitch 76 1 6 #[39, 41, 44, 47, 68, 72], 39) := by decide +kernel
theorem dX5_pullsOf_96 : decode cX5_pullsOf 96 = .ok (.iload_n 3, 1) := by decide +kernel
theorem dX5_pullsOf_97 : decode cX5_pullsOf 97 = .ok (.ireturn, 1) := by decide +kernel
theorem dX5_pullsOf_98 : decode cX5_pullsOf 98 = .ok (.iload 4, 2) := by decide +kernel
theorem dX5_pullsOf_100 : decode cX5_pullsOf 100 = .ok (.ireturn, 1) := by decide +kernel
theorem dX5_pullsOf_101 : decode cX5_pullsOf 101 = .ok (.iload 5, 2) := by decide +kernel
theorem dX5_pullsOf_103 : decode cX5_pullsOf 103 = .ok (.ireturn, 1) := by decide +kernel
theorem dX5_pullsOf_104 : decode cX5_pullsOf 104 = .ok (.iload 5, 2) := by decide +kernel
theorem dX5_pullsOf_106 : decode cX5_pullsOf 106 = .ok (.iconst 5, 1) := by decide +kernel
theorem dX5_pullsOf_107 : decode cX5_pullsOf 107 = .ok (.aload_n 0, 1) := by decide +kernel
theorem dX5_pullsOf_108 : decode cX5_pullsOf 108 = .ok (.iload_n 1, 1) := by decide +kernel
theorem dX5_pullsOf_109 : decode cX5_pullsOf 109 = .ok (.iconst 1, 1) := by decide +kernel
theorem dX5_pullsOf_110 : decode cX5_pullsOf 110 = .ok (.invokevirtual 73, 3) := by decide +kernel
theorem dX5_pullsOf_113 : decode cX5_pullsOf 113 = .ok (.aload_n 0, 1) := by decide +kernel
theorem dX5_pullsOf_114 : decode cX5_pullsOf 114 = .ok (.getfield 7, 3) := by decide +kernel
theorem dX5_pullsOf_117 : decode cX5_pullsOf 117 = .ok (.iconst 2, 1) := by decide +kernel
theorem dX5_pullsOf_118 : decode cX5_pullsOf 118 = .ok (.iaload, 1) := by decide +kernel
theorem dX5_pullsOf_119 : decode cX5_pullsOf 119 = .ok (.invokestatic 79, 3) := by decide +kernel
theorem dX5_pullsOf_122 : decode cX5_pullsOf 122 = .ok (.imul, 1) := by decide +kernel
theorem dX5_pullsOf_123 : decode cX5_pullsOf 123 = .ok (.iadd, 1) := by decide +kernel
theorem dX5_pullsOf_124 : decode cX5_pullsOf 124 = .ok (.ireturn, 1) := by decide +kernel
theorem dX5_pullsOf_125 : decode cX5_pullsOf 125 = .ok (.iload_n 2, 1) := by decide +kernel
theorem dX5_pullsOf_126 : decode cX5_pullsOf 126 = .ok (.iconst 2, 1) := by decide +kernel
theorem dX5_pullsOf_127 : decode cX5_pullsOf 127 = .ok (.idiv, 1) := by decide +kernel
theorem dX5_pullsOf_128 : decode cX5_pullsOf 128 = .ok (.ireturn, 1) := by decide +kernel
theorem dX5_pullsOf_129 : decode cX5_pullsOf 129 = .ok (.iconst 2, 1) := by decide +kernel
theorem dX5_pullsOf_130 : decode cX5_pullsOf 130 = .ok (.iload_n 3, 1) := by decide +kernel
theorem dX5_pullsOf_131 : decode cX5_pullsOf 131 = .ok (.imul, 1) := by decide +kernel
theorem dX5_pullsOf_132 : decode cX5_pullsOf 132 = .ok (.ireturn, 1) := by decide +kernel
theorem dX5_pullsOf_133 : decode cX5_pullsOf 133 = .ok (.iload_n 2, 1) := by decide +kernel
theorem dX5_pullsOf_134 : decode cX5_pullsOf 134 = .ok (.ireturn, 1) := by decide +kernel
theorem dX5_lastsOf_0 : decode cX5_lastsOf 0 = .ok (.aload_n 0, 1) := by decide +kernel
theorem dX5_lastsOf_1 : decode cX5_lastsOf 1 = .ok (.iload_n 1, 1) := by decide +kernel
theorem dX5_lastsOf_2 : decode cX5_lastsOf 2 = .ok (.iconst 0, 1) := by decide +kernel
theorem dX5_lastsOf_3 : decode cX5_lastsOf 3 = .ok (.invokevirtual 73, 3) := by decide +kernel
theorem dX5_lastsOf_6 : decode cX5_lastsOf 6 = .ok (.iconst 1, 1) := by decide +kernel
theorem dX5_lastsOf_7 : decode cX5_lastsOf 7 = .ok (.if_icmp .ne 8, 3) := by decide +kernel
theorem dX5_lastsOf_10 : decode cX5_lastsOf 10 = .ok (.bipush 30, 2) := by decide +kernel
theorem dX5_lastsOf_12 : decode cX5_lastsOf 12 = .ok (.goto 20, 3) := by decide +kernel
theorem dX5_lastsOf_15 : decode cX5_lastsOf 15 = .ok (.aload_n 0, 1) := by decide +kernel
theorem dX5_lastsOf_16 : decode cX5_lastsOf 16 = .ok (.iload_n 1, 1) := by decide +kernel
theorem dX5_lastsOf_17 : decode cX5_lastsOf 17 = .ok (.iconst 0, 1) := by decide +kernel
theorem dX5_lastsOf_18 : decode cX5_lastsOf 18 = .ok (.invokevirtual 73, 3) := by decide +kernel
theorem dX5_lastsOf_21 : decode cX5_lastsOf 21 = .ok (.bipush 6, 2) := by decide +kernel
theorem dX5_lastsOf_23 : decode cX5_lastsOf 23 = .ok (.if_icmp .ne 8, 3) := by decide +kernel
theorem dX5_lastsOf_26 : decode cX5_lastsOf 26 = .ok (.bipush 10, 2) := by decide +kernel
theorem dX5_lastsOf_28 : decode cX5_lastsOf 28 = .ok (.goto 4, 3) := by decide +kernel
theorem dX5_lastsOf_31 : decode cX5_lastsOf 31 = .ok (.iconst 0, 1) := by decide +kernel
theorem dX5_lastsOf_32 : decode cX5_lastsOf 32 = .ok (.ireturn, 1) := by decide +kernel
theorem dX5_givesOf_0 : decode cX5_givesOf 0 = .ok (.aload_n 0, 1) := by decide +kernel
theorem dX5_givesOf_1 : decode cX5_givesOf 1 = .ok (.iload_n 1, 1) := by decide +kernel
theorem dX5_givesOf_2 : decode cX5_givesOf 2 = .ok (.iconst 0, 1) := by decide +kernel
theorem dX5_givesOf_3 : decode cX5_givesOf 3 = .ok (.invokevirtual 73, 3) := by decide +kernel
theorem dX5_givesOf_6 : decode cX5_givesOf 6 = .ok (.istore_n 2, 1) := by decide +kernel
theorem dX5_givesOf_7 : decode cX5_givesOf 7 = .ok (.iload_n 2, 1) := by decide +kernel
theorem dX5_givesOf_8 : decode cX5_givesOf 8 = .ok (.iconst 5, 1) := by decide +kernel
theorem dX5_givesOf_9 : decode cX5_givesOf 9 = .ok (.if_icmp .ne 7, 3) := by decide +kernel
theorem dX5_givesOf_12 : decode cX5_givesOf 12 = .ok (.iconst 5, 1) := by decide +kernel
theorem dX5_givesOf_13 : decode cX5_givesOf 13 = .ok (.goto 22, 3) := by decide +kernel
theorem dX5_givesOf_16 : decode cX5_givesOf 16 = .ok (.iload_n 2, 1) := by decide +kernel
theorem dX5_givesOf_17 : decode cX5_givesOf 17 = .ok (.iconst 3, 1) := by decide +kernel
theorem dX5_givesOf_18 : decode cX5_givesOf 18 = .ok (.if_icmp .ne 7, 3) := by decide +kernel
theorem dX5_givesOf_21 : decode cX5_givesOf 21 = .ok (.iconst 2, 1) := by decide +kernel
theorem dX5_givesOf_22 : decode cX5_givesOf 22 = .ok (.goto 13, 3) := by decide +kernel
theorem dX5_givesOf_25 : decode cX5_givesOf 25 = .ok (.iload_n 2, 1) := by decide +kernel
theorem dX5_givesOf_26 : decode cX5_givesOf 26 = .ok (.iconst 4, 1) := by decide +kernel
theorem dX5_givesOf_27 : decode cX5_givesOf 27 = .ok (.if_icmp .ne 7, 3) := by decide +kernel
theorem dX5_givesOf_30 : decode cX5_givesOf 30 = .ok (.iconst 3, 1) := by decide +kernel
theorem dX5_givesOf_31 : decode cX5_givesOf 31 = .ok (.goto 4, 3) := by decide +kernel
theorem dX5_givesOf_34 : decode cX5_givesOf 34 = .ok (.iconst 0, 1) := by decide +kernel
theorem dX5_givesOf_35 : decode cX5_givesOf 35 = .ok (.ireturn, 1) := by decide +kernel
theorem dX5_longFrom_0 : decode cX5_longFrom 0 = .ok (.iconst 0, 1) := by decide +kernel
theorem dX5_longFrom_1 : decode cX5_longFrom 1 = .ok (.istore_n 2, 1) := by decide +kernel
theorem dX5_longFrom_2 : decode cX5_longFrom 2 = .ok (.iload_n 1, 1) := by decide +kernel
theorem dX5_longFrom_3 : decode cX5_longFrom 3 = .ok (.istore_n 3, 1) := by decide +kernel
theorem dX5_longFrom_4 : decode cX5_longFrom 4 = .ok (.iload_n 3, 1) := by decide +kernel
theorem dX5_longFrom_5 : decode cX5_longFrom 5 = .ok (.aload_n 0, 1) := by decide +kernel
theorem dX5_longFrom_6 : decode cX5_longFrom 6 = .ok (.getfield 7, 3) := by decide +kernel
theorem dX5_longFrom_9 : decode cX5_longFrom 9 = .ok (.iconst 1, 1) := by decide +kernel
theorem dX5_longFrom_10 : decode cX5_longFrom 10 = .ok (.iaload, 1) := by decide +kernel
theorem dX5_longFrom_11 : decode cX5_longFrom 11 = .ok (.if_icmp .ge 18, 3) := by decide +kernel
theorem dX5_longFrom_14 : decode cX5_longFrom 14 = .ok (.iload_n 2, 1) := by decide +kernel
theorem dX5_longFrom_15 : decode cX5_longFrom 15 = .ok (.aload_n 0, 1) := by decide +kernel
theorem dX5_longFrom_16 : decode cX5_longFrom 16 = .ok (.iload_n 3, 1) := by decide +kernel
theorem dX5_longFrom_17 : decode cX5_longFrom 17 = .ok (.iconst 2, 1) := by decide +kernel
theorem dX5_longFrom_18 : decode cX5_longFrom 18 = .ok (.invokevirtual 73, 3) := by decide +kernel
theorem dX5_longFrom_21 : decode cX5_longFrom 21 = .ok (.iadd, 1) := by decide +kernel
theorem dX5_longFrom_22 : decode cX5_longFrom 22 = .ok (.istore_n 2, 1) := by decide +kernel
theorem dX5_longFrom_23 : decode cX5_longFrom 23 = .ok (.iinc 3 1, 3) := by decide +kernel
theorem dX5_longFrom_26 : decode cX5_longFrom 26 = .ok (.goto (-22), 3) := by decide +kernel
theorem dX5_longFrom_29 : decode cX5_longFrom 29 = .ok (.iload_n 2, 1) := by decide +kernel
theorem dX5_longFrom_30 : decode cX5_longFrom 30 = .ok (.ireturn, 1) := by decide +kernel
theorem dX5_feltOf_0 : decode cX5_feltOf 0 = .ok (.aload_n 0, 1) := by decide +kernel
theorem dX5_feltOf_1 : decode cX5_feltOf 1 = .ok (.iload_n 1, 1) := by decide +kernel
theorem dX5_feltOf_2 : decode cX5_feltOf 2 = .ok (.iconst 3, 1) := by decide +kernel
theorem dX5_feltOf_3 : decode cX5_feltOf 3 = .ok (.invokevirtual 73, 3) := by decide +kernel
theorem dX5_feltOf_6 : decode cX5_feltOf 6 = .ok (.aload_n 0, 1) := by decide +kernel
theorem dX5_feltOf_7 : decode cX5_feltOf 7 = .ok (.iload_n 1, 1) := by decide +kernel
theorem dX5_feltOf_8 : decode cX5_feltOf 8 = .ok (.invokevirtual 82, 3) := by decide +kernel
theorem dX5_feltOf_11 : decode cX5_feltOf 11 = .ok (.isub, 1) := by decide +kernel
theorem dX5_feltOf_12 : decode cX5_feltOf 12 = .ok (.invokestatic 76, 3) := by decide +kernel
theorem dX5_feltOf_15 : decode cX5_feltOf 15 = .ok (.istore_n 2, 1) := by decide +kernel
theorem dX5_feltOf_16 : decode cX5_feltOf 16 = .ok (.aload_n 0, 1) := by decide +kernel
theorem dX5_feltOf_17 : decode cX5_feltOf 17 = .ok (.getfield 85, 3) := by decide +kernel
theorem dX5_feltOf_20 : decode cX5_feltOf 20 = .ok (.iload_n 1, 1) := by decide +kernel
theorem dX5_feltOf_21 : decode cX5_feltOf 21 = .ok (.ishr, 1) := by decide +kernel
theorem dX5_feltOf_22 : decode cX5_feltOf 22 = .ok (.iconst 1, 1) := by decide +kernel
theorem dX5_feltOf_23 : decode cX5_feltOf 23 = .ok (.iand, 1) := by decide +kernel
theorem dX5_feltOf_24 : decode cX5_feltOf 24 = .ok (.iconst 1, 1) := by decide +kernel
theorem dX5_feltOf_25 : decode cX5_feltOf 25 = .ok (.if_icmp .ne 7, 3) := by decide +kernel
theorem dX5_feltOf_28 : decode cX5_feltOf 28 = .ok (.iconst 0, 1) := by decide +kernel
theorem dX5_feltOf_29 : decode cX5_feltOf 29 = .ok (.goto 24, 3) := by decide +kernel
theorem dX5_feltOf_32 : decode cX5_feltOf 32 = .ok (.aload_n 0, 1) := by decide +kernel
theorem dX5_feltOf_33 : decode cX5_feltOf 33 = .ok (.iload_n 1, 1) := by decide +kernel
theorem dX5_feltOf_34 : decode cX5_feltOf 34 = .ok (.invokevirtual 89, 3) := by decide +kernel
theorem dX5_feltOf_37 : decode cX5_feltOf 37 = .ok (.aload_n 0, 1) := by decide +kernel
theorem dX5_feltOf_38 : decode cX5_feltOf 38 = .ok (.iload_n 1, 1) := by decide +kernel
theorem dX5_feltOf_39 : decode cX5_feltOf 39 = .ok (.iconst 1, 1) := by decide +kernel
theorem dX5_feltOf_40 : decode cX5_feltOf 40 = .ok (.iadd, 1) := by decide +kernel
theorem dX5_feltOf_41 : decode cX5_feltOf 41 = .ok (.invokevirtual 92, 3) := by decide +kernel
theorem dX5_feltOf_44 : decode cX5_feltOf 44 = .ok (.bipush 10, 2) := by decide +kernel
theorem dX5_feltOf_46 : decode cX5_feltOf 46 = .ok (.idiv, 1) := by decide +kernel
theorem dX5_feltOf_47 : decode cX5_feltOf 47 = .ok (.isub, 1) := by decide +kernel
theorem dX5_feltOf_48 : decode cX5_feltOf 48 = .ok (.iload_n 2, 1) := by decide +kernel
theorem dX5_feltOf_49 : decode cX5_feltOf 49 = .ok (.isub, 1) := by decide +kernel
theorem dX5_feltOf_50 : decode cX5_feltOf 50 = .ok (.invokestatic 76, 3) := by decide +kernel
theorem dX5_feltOf_53 : decode cX5_feltOf 53 = .ok (.ireturn, 1) := by decide +kernel
theorem dX5_of_0 : decode cX5_of 0 = .ok (.aload_n 0, 1) := by decide +kernel
theorem dX5_of_1 : decode cX5_of 1 = .ok (.iload_n 1, 1) := by decide +kernel
theorem dX5_of_2 : decode cX5_of 2 = .ok (.invokevirtual 95, 3) := by decide +kernel
theorem dX5_of_5 : decode cX5_of 5 = .ok (.ifCond .eq 15, 3) := by decide +kernel
theorem dX5_of_8 : decode cX5_of 8 = .ok (.iload_n 2, 1) := by decide +kernel
theorem dX5_of_9 : decode cX5_of 9 = .ok (.i2l, 1) := by decide +kernel
theorem dX5_of_10 : decode cX5_of 10 = .ok (.lconst 0, 1) := by decide +kernel
theorem dX5_of_11 : decode cX5_of 11 = .ok (.ldc2_w 98, 3) := by decide +kernel
theorem dX5_of_14 : decode cX5_of 14 = .ok (.invokestatic 43, 3) := by decide +kernel
theorem dX5_of_17 : decode cX5_of 17 = .ok (.ifCond .ne 10, 3) := by decide +kernel
theorem dX5_of_20 : decode cX5_of 20 = .ok (.aload_n 0, 1) := by decide +kernel
theorem dX5_of_21 : decode cX5_of 21 = .ok (.ldc 40, 2) := by decide +kernel
theorem dX5_of_23 : decode cX5_of 23 = .ok (.invokevirtual 60, 3) := by decide +kernel
theorem dX5_of_26 : decode cX5_of 26 = .ok (.ireturn, 1) := by decide +kernel
theorem dX5_of_27 : decode cX5_of 27 = .ok (.iload_n 2, 1) := by decide +kernel
theorem dX5_of_28 : decode cX5_of 28 = .ok (.tableswitch 58 6 9 #[32, 38, 44, 52], 32) := by decide +kernel
theorem dX5_of_60 : decode cX5_of 60 = .ok (.aload_n 0, 1) := by decide +kernel
theorem dX5_of_61 : decode cX5_of 61 = .ok (.iload_n 1, 1) := by decide +kernel
theorem dX5_of_62 : decode cX5_of 62 = .ok (.invokevirtual 89, 3) := by decide +kernel
theorem dX5_of_65 : decode cX5_of 65 = .ok (.ireturn, 1) := by decide +kernel
theorem dX5_of_66 : decode cX5_of 66 = .ok (.aload_n 0, 1) := by decide +kernel
theorem dX5_of_67 : decode cX5_of 67 = .ok (.iload_n 1, 1) := by decide +kernel
theorem dX5_of_68 : decode cX5_of 68 = .ok (.invokevirtual 100, 3) := by decide +kernel
theorem dX5_of_71 : decode cX5_of 71 = .ok (.ireturn, 1) := by decide +kernel
theorem dX5_of_72 : decode cX5_of 72 = .ok (.aload_n 0, 1) := by decide +kernel
theorem dX5_of_73 : decode cX5_of 73 = .ok (.iload_n 1, 1) := by decide +kernel
theorem dX5_of_74 : decode cX5_of 74 = .ok (.iconst 1, 1) := by decide +kernel
theorem dX5_of_75 : decode cX5_of 75 = .ok (.iadd, 1) := by decide +kernel
theorem dX5_of_76 : decode cX5_of 76 = .ok (.invokevirtual 92, 3) := by decide +kernel
theorem dX5_of_79 : decode cX5_of 79 = .ok (.ireturn, 1) := by decide +kernel
theorem dX5_of_80 : decode cX5_of 80 = .ok (.aload_n 0, 1) := by decide +kernel
theorem dX5_of_81 : decode cX5_of 81 = .ok (.iload_n 1, 1) := by decide +kernel
theorem dX5_of_82 : decode cX5_of 82 = .ok (.invokevirtual 103, 3) := by decide +kernel
theorem dX5_of_85 : decode cX5_of 85 = .ok (.ireturn, 1) := by decide +kernel
theorem dX5_of_86 : decode cX5_of 86 = .ok (.aload_n 0, 1) := by decide +kernel
theorem dX5_of_87 : decode cX5_of 87 = .ok (.iload_n 1, 1) := by decide +kernel
theorem dX5_of_88 : decode cX5_of 88 = .ok (.iload_n 2, 1) := by decide +kernel
theorem dX5_of_89 : decode cX5_of 89 = .ok (.invokevirtual 73, 3) := by decide +kernel
theorem dX5_of_92 : decode cX5_of 92 = .ok (.ireturn, 1) := by decide +kernel
theorem dX5_isPart_0 : decode cX5_isPart 0 = .ok (.iload_n 0, 1) := by decide +kernel
theorem dX5_isPart_1 : decode cX5_isPart 1 = .ok (.tableswitch 61 0 3 #[31, 36, 41, 51], 31) := by decide +kernel
theorem dX5_isPart_32 : decode cX5_isPart 32 = .ok (.iload_n 1, 1) := by decide +kernel
theorem dX5_isPart_33 : decode cX5_isPart 33 = .ok (.invokestatic 66, 3) := by decide +kernel
theorem dX5_isPart_36 : decode cX5_isPart 36 = .ok (.ireturn, 1) := by decide +kernel
theorem dX5_isPart_37 : decode cX5_isPart 37 = .ok (.iload_n 1, 1) := by decide +kernel
theorem dX5_isPart_38 : decode cX5_isPart 38 = .ok (.invokestatic 53, 3) := by decide +kernel
theorem dX5_isPart_41 : decode cX5_isPart 41 = .ok (.ireturn, 1) := by decide +kernel
theorem dX5_isPart_42 : decode cX5_isPart 42 = .ok (.iload_n 1, 1) := by decide +kernel
theorem dX5_isPart_43 : decode cX5_isPart 43 = .ok (.i2l, 1) := by decide +kernel
theorem dX5_isPart_44 : decode cX5_isPart 44 = .ok (.lconst 1, 1) := by decide +kernel
theorem dX5_isPart_45 : decode cX5_isPart 45 = .ok (.ldc2_w 64, 3) := by decide +kernel
theorem dX5_isPart_48 : decode cX5_isPart 48 = .ok (.invokestatic 43, 3) := by decide +kernel
theorem dX5_isPart_51 : decode cX5_isPart 51 = .ok (.ireturn, 1) := by decide +kernel
theorem dX5_isPart_52 : decode cX5_isPart 52 = .ok (.iload_n 1, 1) := by decide +kernel
theorem dX5_isPart_53 : decode cX5_isPart 53 = .ok (.i2l, 1) := by decide +kernel
theorem dX5_isPart_54 : decode cX5_isPart 54 = .ok (.lconst 0, 1) := by decide +kernel
theorem dX5_isPart_55 : decode cX5_isPart 55 = .ok (.ldc2_w 98, 3) := by decide +kernel
theorem dX5_isPart_58 : decode cX5_isPart 58 = .ok (.invokestatic 43, 3) := by decide +kernel
theorem dX5_isPart_61 : decode cX5_isPart 61 = .ok (.ireturn, 1) := by decide +kernel
theorem dX5_isPart_62 : decode cX5_isPart 62 = .ok (.iload_n 0, 1) := by decide +kernel
theorem dX5_isPart_63 : decode cX5_isPart 63 = .ok (.i2l, 1) := by decide +kernel
theorem dX5_isPart_64 : decode cX5_isPart 64 = .ok (.ldc2_w 106, 3) := by decide +kernel
theorem dX5_isPart_67 : decode cX5_isPart 67 = .ok (.ldc2_w 108, 3) := by decide +kernel
theorem dX5_isPart_70 : decode cX5_isPart 70 = .ok (.invokestatic 43, 3) := by decide +kernel
theorem dX5_isPart_73 : decode cX5_isPart 73 = .ok (.ifCond .eq 19, 3) := by decide +kernel
theorem dX5_isPart_76 : decode cX5_isPart 76 = .ok (.iload_n 1, 1) := by decide +kernel
theorem dX5_isPart_77 : decode cX5_isPart 77 = .ok (.i2l, 1) := by decide +kernel
theorem dX5_isPart_78 : decode cX5_isPart 78 = .ok (.lconst 0, 1) := by decide +kernel
theorem dX5_isPart_79 : decode cX5_isPart 79 = .ok (.ldc2_w 110, 3) := by decide +kernel
theorem dX5_isPart_82 : decode cX5_isPart 82 = .ok (.invokestatic 43, 3) := by decide +kernel
theorem dX5_isPart_85 : decode cX5_isPart 85 = .ok (.ifCond .eq 7, 3) := by decide +kernel
theorem dX5_isPart_88 : decode cX5_isPart 88 = .ok (.iconst 1, 1) := by decide +kernel
theorem dX5_isPart_89 : decode cX5_isPart 89 = .ok (.goto 4, 3) := by decide +kernel
theorem dX5_isPart_92 : decode cX5_isPart 92 = .ok (.iconst 0, 1) := by decide +kernel
theorem dX5_isPart_93 : decode cX5_isPart 93 = .ok (.ireturn, 1) := by decide +kernel
theorem dX5_change_0 : decode cX5_change 0 = .ok (.aload_n 0, 1) := by decide +kernel
theorem dX5_change_1 : decode cX5_change 1 = .ok (.iload_n 1, 1) := by decide +kernel
theorem dX5_change_2 : decode cX5_change 2 = .ok (.invokevirtual 95, 3) := by decide +kernel
theorem dX5_change_5 : decode cX5_change 5 = .ok (.ifCond .eq 24, 3) := by decide +kernel
theorem dX5_change_8 : decode cX5_change 8 = .ok (.iload_n 2, 1) := by decide +kernel
theorem dX5_change_9 : decode cX5_change 9 = .ok (.iload_n 3, 1) := by decide +kernel
theorem dX5_change_10 : decode cX5_change 10 = .ok (.invokestatic 112, 3) := by decide +kernel
theorem dX5_change_13 : decode cX5_change 13 = .ok (.ifCond .eq 16, 3) := by decide +kernel
theorem dX5_change_16 : decode cX5_change 16 = .ok (.aload_n 0, 1) := by decide +kernel
theorem dX5_change_17 : decode cX5_change 17 = .ok (.iload_n 1, 1) := by decide +kernel
theorem dX5_change_18 : decode cX5_change 18 = .ok (.iload_n 2, 1) := by decide +kernel
theorem dX5_change_19 : decode cX5_change 19 = .ok (.invokestatic 49, 3) := by decide +kernel
theorem dX5_change_22 : decode cX5_change 22 = .ok (.iload_n 3, 1) := by decide +kernel
theorem dX5_change_23 : decode cX5_change 23 = .ok (.invokevirtual 57, 3) := by decide +kernel
theorem dX5_change_26 : decode cX5_change 26 = .ok (.goto 9, 3) := by decide +kernel
theorem dX5_change_29 : decode cX5_change 29 = .ok (.aload_n 0, 1) := by decide +kernel
theorem dX5_change_30 : decode cX5_change 30 = .ok (.ldc 40, 2) := by decide +kernel
theorem dX5_change_32 : decode cX5_change 32 = .ok (.invokevirtual 60, 3) := by decide +kernel
theorem dX5_change_35 : decode cX5_change 35 = .ok (.ireturn, 1) := by decide +kernel
theorem dX5_lend_0 : decode cX5_lend 0 = .ok (.iload_n 1, 1) := by decide +kernel
theorem dX5_lend_1 : decode cX5_lend 1 = .ok (.i2l, 1) := by decide +kernel
theorem dX5_lend_2 : decode cX5_lend 2 = .ok (.lconst 1, 1) := by decide +kernel
theorem dX5_lend_3 : decode cX5_lend 3 = .ok (.ldc2_w 64, 3) := by decide +kernel
theorem dX5_lend_6 : decode cX5_lend 6 = .ok (.invokestatic 43, 3) := by decide +kernel
theorem dX5_lend_9 : decode cX5_lend 9 = .ok (.ifCond .ne 10, 3) := by decide +kernel
theorem dX5_lend_12 : decode cX5_lend 12 = .ok (.aload_n 0, 1) := by decide +kernel
theorem dX5_lend_13 : decode cX5_lend 13 = .ok (.ldc 40, 2) := by decide +kernel
theorem dX5_lend_15 : decode cX5_lend 15 = .ok (.invokevirtual 60, 3) := by decide +kernel
theorem dX5_lend_18 : decode cX5_lend 18 = .ok (.ireturn, 1) := by decide +kernel
theorem dX5_lend_19 : decode cX5_lend 19 = .ok (.aload_n 0, 1) := by decide +kernel
theorem dX5_lend_20 : decode cX5_lend 20 = .ok (.getfield 7, 3) := by decide +kernel
theorem dX5_lend_23 : decode cX5_lend 23 = .ok (.iconst 1, 1) := by decide +kernel
theorem dX5_lend_24 : decode cX5_lend 24 = .ok (.iaload, 1) := by decide +kernel
theorem dX5_lend_25 : decode cX5_lend 25 = .ok (.ifCond .ne 10, 3) := by decide +kernel
theorem dX5_lend_28 : decode cX5_lend 28 = .ok (.aload_n 0, 1) := by decide +kernel
theorem dX5_lend_29 : decode cX5_lend 29 = .ok (.ldc 116, 2) := by decide +kernel
theorem dX5_lend_31 : decode cX5_lend 31 = .ok (.invokevirtual 60, 3) := by decide +kernel
theorem dX5_lend_34 : decode cX5_lend 34 = .ok (.ireturn, 1) := by decide +kernel
theorem dX5_lend_35 : decode cX5_lend 35 = .ok (.aload_n 0, 1) := by decide +kernel
theorem dX5_lend_36 : decode cX5_lend 36 = .ok (.getfield 7, 3) := by decide +kernel
theorem dX5_lend_39 : decode cX5_lend 39 = .ok (.iconst 1, 1) := by decide +kernel
theorem dX5_lend_40 : decode cX5_lend 40 = .ok (.iaload, 1) := by decide +kernel
theorem dX5_lend_41 : decode cX5_lend 41 = .ok (.iconst 1, 1) := by decide +kernel
theorem dX5_lend_42 : decode cX5_lend 42 = .ok (.isub, 1) := by decide +kernel
theorem dX5_lend_43 : decode cX5_lend 43 = .ok (.istore_n 2, 1) := by decide +kernel
theorem dX5_lend_44 : decode cX5_lend 44 = .ok (.aload_n 0, 1) := by decide +kernel
theorem dX5_lend_45 : decode cX5_lend 45 = .ok (.iload_n 2, 1) := by decide +kernel
theorem dX5_lend_46 : decode cX5_lend 46 = .ok (.iconst 2, 1) := by decide +kernel
theorem dX5_lend_47 : decode cX5_lend 47 = .ok (.invokevirtual 73, 3) := by decide +kernel
theorem dX5_lend_50 : decode cX5_lend 50 = .ok (.istore_n 3, 1) := by decide +kernel
theorem dX5_lend_51 : decode cX5_lend 51 = .ok (.iload_n 3, 1) := by decide +kernel
theorem dX5_lend_52 : decode cX5_lend 52 = .ok (.iload_n 1, 1) := by decide +kernel
theorem dX5_lend_53 : decode cX5_lend 53 = .ok (.if_icmp .le 18, 3) := by decide +kernel
theorem dX5_lend_56 : decode cX5_lend 56 = .ok (.aload_n 0, 1) := by decide +kernel
theorem dX5_lend_57 : decode cX5_lend 57 = .ok (.getfield 7, 3) := by decide +kernel
theorem dX5_lend_60 : decode cX5_lend 60 = .ok (.iload_n 2, 1) := by decide +kernel
theorem dX5_lend_61 : decode cX5_lend 61 = .ok (.iconst 2, 1) := by decide +kernel
theorem dX5_lend_62 : decode cX5_lend 62 = .ok (.invokestatic 49, 3) := by decide +kernel
theorem dX5_lend_65 : decode cX5_lend 65 = .ok (.iload_n 3, 1) := by decide +kernel
theorem dX5_lend_66 : decode cX5_lend 66 = .ok (.iload_n 1, 1) := by decide +kernel
theorem dX5_lend_67 : decode cX5_lend 67 = .ok (.isub, 1) := by decide +kernel
theorem dX5_lend_68 : decode cX5_lend 68 = .ok (.iastore, 1) := by decide +kernel
theorem dX5_lend_69 : decode cX5_lend 69 = .ok (.iload_n 3, 1) := by decide +kernel
theorem dX5_lend_70 : decode cX5_lend 70 = .ok (.ireturn, 1) := by decide +kernel
theorem dX5_lend_71 : decode cX5_lend 71 = .ok (.aload_n 0, 1) := by decide +kernel
theorem dX5_lend_72 : decode cX5_lend 72 = .ok (.getfield 7, 3) := by decide +kernel
theorem dX5_lend_75 : decode cX5_lend 75 = .ok (.iconst 1, 1) := by decide +kernel
theorem dX5_lend_76 : decode cX5_lend 76 = .ok (.dup2, 1) := by decide +kernel
theorem dX5_lend_77 : decode cX5_lend 77 = .ok (.iaload, 1) := by decide +kernel
theorem dX5_lend_78 : decode cX5_lend 78 = .ok (.iconst 1, 1) := by decide +kernel
theorem dX5_lend_79 : decode cX5_lend 79 = .ok (.isub, 1) := by decide +kernel
theorem dX5_lend_80 : decode cX5_lend 80 = .ok (.iastore, 1) := by decide +kernel
theorem dX5_lend_81 : decode cX5_lend 81 = .ok (.iconst 0, 1) := by decide +kernel
theorem dX5_lend_82 : decode cX5_lend 82 = .ok (.istore 4, 2) := by decide +kernel
theorem dX5_lend_84 : decode cX5_lend 84 = .ok (.iload 4, 2) := by decide +kernel
theorem dX5_lend_86 : decode cX5_lend 86 = .ok (.bipush 10, 2) := by decide +kernel
theorem dX5_lend_88 : decode cX5_lend 88 = .ok (.if_icmp .ge 47, 3) := by decide +kernel
theorem dX5_lend_91 : decode cX5_lend 91 = .ok (.aload_n 0, 1) := by decide +kernel
theorem dX5_lend_92 : decode cX5_lend 92 = .ok (.getfield 7, 3) := by decide +kernel
theorem dX5_lend_95 : decode cX5_lend 95 = .ok (.bipush 54, 2) := by decide +kernel
theorem dX5_lend_97 : decode cX5_lend 97 = .ok (.iload 4, 2) := by decide +kernel
theorem dX5_lend_99 : decode cX5_lend 99 = .ok (.iadd, 1) := by decide +kernel
theorem dX5_lend_100 : decode cX5_lend 100 = .ok (.aload_n 0, 1) := by decide +kernel
theorem dX5_lend_101 : decode cX5_lend 101 = .ok (.getfield 7, 3) := by decide +kernel
theorem dX5_lend_104 : decode cX5_lend 104 = .ok (.bipush 54, 2) := by decide +kernel
theorem dX5_lend_106 : decode cX5_lend 106 = .ok (.iload 4, 2) := by decide +kernel
theorem dX5_lend_108 : decode cX5_lend 108 = .ok (.iadd, 1) := by decide +kernel
theorem dX5_lend_109 : decode cX5_lend 109 = .ok (.iaload, 1) := by decide +kernel
theorem dX5_lend_110 : decode cX5_lend 110 = .ok (.iload_n 2, 1) := by decide +kernel
theorem dX5_lend_111 : decode cX5_lend 111 = .ok (.if_icmp .ne 7, 3) := by decide +kernel
theorem dX5_lend_114 : decode cX5_lend 114 = .ok (.iconst (-1), 1) := by decide +kernel
theorem dX5_lend_115 : decode cX5_lend 115 = .ok (.goto 13, 3) := by decide +kernel
theorem dX5_lend_118 : decode cX5_lend 118 = .ok (.aload_n 0, 1) := by decide +kernel
theorem dX5_lend_119 : decode cX5_lend 119 = .ok (.getfield 7, 3) := by decide +kernel
theorem dX5_lend_122 : decode cX5_lend 122 = .ok (.bipush 54, 2) := by decide +kernel
theorem dX5_lend_124 : decode cX5_lend 124 = .ok (.iload 4, 2) := by decide +kernel
theorem dX5_lend_126 : decode cX5_lend 126 = .ok (.iadd, 1) := by decide +kernel
theorem dX5_lend_127 : decode cX5_lend 127 = .ok (.iaload, 1) := by decide +kernel
theorem dX5_lend_128 : decode cX5_lend 128 = .ok (.iastore, 1) := by decide +kernel
theorem dX5_lend_129 : decode cX5_lend 129 = .ok (.iinc 4 1, 3) := by decide +kernel
theorem dX5_lend_132 : decode cX5_lend 132 = .ok (.goto (-48), 3) := by decide +kernel
theorem dX5_lend_135 : decode cX5_lend 135 = .ok (.iload_n 3, 1) := by decide +kernel
theorem dX5_lend_136 : decode cX5_lend 136 = .ok (.ireturn, 1) := by decide +kernel
theorem dX5_feltAt_0 : decode cX5_feltAt 0 = .ok (.iconst 0, 1) := by decide +kernel
theorem dX5_feltAt_1 : decode cX5_feltAt 1 = .ok (.istore_n 2, 1) := by decide +kernel
theorem dX5_feltAt_2 : decode cX5_feltAt 2 = .ok (.iconst 0, 1) := by decide +kernel
theorem dX5_feltAt_3 : decode cX5_feltAt 3 = .ok (.istore_n 3, 1) := by decide +kernel
theorem dX5_feltAt_4 : decode cX5_feltAt 4 = .ok (.iload_n 3, 1) := by decide +kernel
theorem dX5_feltAt_5 : decode cX5_feltAt 5 = .ok (.aload_n 0, 1) := by decide +kernel
theorem dX5_feltAt_6 : decode cX5_feltAt 6 = .ok (.getfield 7, 3) := by decide +kernel
theorem dX5_feltAt_9 : decode cX5_feltAt 9 = .ok (.iconst 1, 1) := by decide +kernel
theorem dX5_feltAt_10 : decode cX5_feltAt 10 = .ok (.iaload, 1) := by decide +kernel
theorem dX5_feltAt_11 : decode cX5_feltAt 11 = .ok (.if_icmp .ge 31, 3) := by decide +kernel
theorem dX5_feltAt_14 : decode cX5_feltAt 14 = .ok (.iload_n 2, 1) := by decide +kernel
theorem dX5_feltAt_15 : decode cX5_feltAt 15 = .ok (.aload_n 0, 1) := by decide +kernel
theorem dX5_feltAt_16 : decode cX5_feltAt 16 = .ok (.iload_n 3, 1) := by decide +kernel
theorem dX5_feltAt_17 : decode cX5_feltAt 17 = .ok (.iconst 1, 1) := by decide +kernel
theorem dX5_feltAt_18 : decode cX5_feltAt 18 = .ok (.invokevirtual 73, 3) := by decide +kernel
theorem dX5_feltAt_21 : decode cX5_feltAt 21 = .ok (.iload_n 1, 1) := by decide +kernel
theorem dX5_feltAt_22 : decode cX5_feltAt 22 = .ok (.if_icmp .ne 11, 3) := by decide +kernel
theorem dX5_feltAt_25 : decode cX5_feltAt 25 = .ok (.aload_n 0, 1) := by decide +kernel
theorem dX5_feltAt_26 : decode cX5_feltAt 26 = .ok (.iload_n 3, 1) := by decide +kernel
theorem dX5_feltAt_27 : decode cX5_feltAt 27 = .ok (.invokevirtual 103, 3) := by decide +kernel
theorem dX5_feltAt_30 : decode cX5_feltAt 30 = .ok (.goto 4, 3) := by decide +kernel
theorem dX5_feltAt_33 : decode cX5_feltAt 33 = .ok (.iconst 0, 1) := by decide +kernel
theorem dX5_feltAt_34 : decode cX5_feltAt 34 = .ok (.iadd, 1) := by decide +kernel
theorem dX5_feltAt_35 : decode cX5_feltAt 35 = .ok (.istore_n 2, 1) := by decide +kernel
theorem dX5_feltAt_36 : decode cX5_feltAt 36 = .ok (.iinc 3 1, 3) := by decide +kernel
theorem dX5_feltAt_39 : decode cX5_feltAt 39 = .ok (.goto (-35), 3) := by decide +kernel
theorem dX5_feltAt_42 : decode cX5_feltAt 42 = .ok (.iload_n 2, 1) := by decide +kernel
theorem dX5_feltAt_43 : decode cX5_feltAt 43 = .ok (.ireturn, 1) := by decide +kernel
theorem dX5_felt_0 : decode cX5_felt 0 = .ok (.iload_n 1, 1) := by decide +kernel
theorem dX5_felt_1 : decode cX5_felt 1 = .ok (.invokestatic 53, 3) := by decide +kernel
theorem dX5_felt_4 : decode cX5_felt 4 = .ok (.ifCond .eq 11, 3) := by decide +kernel
theorem dX5_felt_7 : decode cX5_felt 7 = .ok (.aload_n 0, 1) := by decide +kernel
theorem dX5_felt_8 : decode cX5_felt 8 = .ok (.iload_n 1, 1) := by decide +kernel
theorem dX5_felt_9 : decode cX5_felt 9 = .ok (.invokevirtual 117, 3) := by decide +kernel
theorem dX5_felt_12 : decode cX5_felt 12 = .ok (.goto 9, 3) := by decide +kernel
theorem dX5_felt_15 : decode cX5_felt 15 = .ok (.aload_n 0, 1) := by decide +kernel
theorem dX5_felt_16 : decode cX5_felt 16 = .ok (.ldc 40, 2) := by decide +kernel
theorem dX5_felt_18 : decode cX5_felt 18 = .ok (.invokevirtual 60, 3) := by decide +kernel
theorem dX5_felt_21 : decode cX5_felt 21 = .ok (.ireturn, 1) := by decide +kernel
theorem dX5_pull_0 : decode cX5_pull 0 = .ok (.iconst 0, 1) := by decide +kernel
theorem dX5_pull_1 : decode cX5_pull 1 = .ok (.istore_n 2, 1) := by decide +kernel
theorem dX5_pull_2 : decode cX5_pull 2 = .ok (.iconst 0, 1) := by decide +kernel
theorem dX5_pull_3 : decode cX5_pull 3 = .ok (.istore_n 3, 1) := by decide +kernel
theorem dX5_pull_4 : decode cX5_pull 4 = .ok (.iload_n 3, 1) := by decide +kernel
theorem dX5_pull_5 : decode cX5_pull 5 = .ok (.aload_n 0, 1) := by decide +kernel
theorem dX5_pull_6 : decode cX5_pull 6 = .ok (.getfield 7, 3) := by decide +kernel
theorem dX5_pull_9 : decode cX5_pull 9 = .ok (.iconst 1, 1) := by decide +kernel
theorem dX5_pull_10 : decode cX5_pull 10 = .ok (.iaload, 1) := by decide +kernel
theorem dX5_pull_11 : decode cX5_pull 11 = .ok (.if_icmp .ge 43, 3) := by decide +kernel
theorem dX5_pull_14 : decode cX5_pull 14 = .ok (.aload_n 0, 1) := by decide +kernel
theorem dX5_pull_15 : decode cX5_pull 15 = .ok (.iload_n 3, 1) := by decide +kernel
theorem dX5_pull_16 : decode cX5_pull 16 = .ok (.iconst 1, 1) := by decide +kernel
theorem dX5_pull_17 : decode cX5_pull 17 = .ok (.invokevirtual 73, 3) := by decide +kernel
theorem dX5_pull_20 : decode cX5_pull 20 = .ok (.aload_n 0, 1) := by decide +kernel
theorem dX5_pull_21 : decode cX5_pull 21 = .ok (.getfield 7, 3) := by decide +kernel
theorem dX5_pull_24 : decode cX5_pull 24 = .ok (.iconst 2, 1) := by decide +kernel
theorem dX5_pull_25 : decode cX5_pull 25 = .ok (.iaload, 1) := by decide +kernel
theorem dX5_pull_26 : decode cX5_pull 26 = .ok (.isub, 1) := by decide +kernel
theorem dX5_pull_27 : decode cX5_pull 27 = .ok (.istore 4, 2) := by decide +kernel
theorem dX5_pull_29 : decode cX5_pull 29 = .ok (.iload_n 2, 1) := by decide +kernel
theorem dX5_pull_30 : decode cX5_pull 30 = .ok (.iload 4, 2) := by decide +kernel
theorem dX5_pull_32 : decode cX5_pull 32 = .ok (.iload_n 1, 1) := by decide +kernel
theorem dX5_pull_33 : decode cX5_pull 33 = .ok (.imul, 1) := by decide +kernel
theorem dX5_pull_34 : decode cX5_pull 34 = .ok (.ifCond .le 11, 3) := by decide +kernel
theorem dX5_pull_37 : decode cX5_pull 37 = .ok (.aload_n 0, 1) := by decide +kernel
theorem dX5_pull_38 : decode cX5_pull 38 = .ok (.iload_n 3, 1) := by decide +kernel
theorem dX5_pull_39 : decode cX5_pull 39 = .ok (.invokevirtual 103, 3) := by decide +kernel
theorem dX5_pull_42 : decode cX5_pull 42 = .ok (.goto 4, 3) := by decide +kernel
theorem dX5_pull_45 : decode cX5_pull 45 = .ok (.iconst 0, 1) := by decide +kernel
theorem dX5_pull_46 : decode cX5_pull 46 = .ok (.iadd, 1) := by decide +kernel
theorem dX5_pull_47 : decode cX5_pull 47 = .ok (.istore_n 2, 1) := by decide +kernel
theorem dX5_pull_48 : decode cX5_pull 48 = .ok (.iinc 3 1, 3) := by decide +kernel
theorem dX5_pull_51 : decode cX5_pull 51 = .ok (.goto (-47), 3) := by decide +kernel
theorem dX5_pull_54 : decode cX5_pull 54 = .ok (.iload_n 2, 1) := by decide +kernel
theorem dX5_pull_55 : decode cX5_pull 55 = .ok (.ireturn, 1) := by decide +kernel
theorem dX5_arrives_0 : decode cX5_arrives 0 = .ok (.iconst 0, 1) := by decide +kernel
theorem dX5_arrives_1 : decode cX5_arrives 1 = .ok (.istore_n 1, 1) := by decide +kernel
theorem dX5_arrives_2 : decode cX5_arrives 2 = .ok (.iload_n 1, 1) := by decide +kernel
theorem dX5_arrives_3 : decode cX5_arrives 3 = .ok (.aload_n 0, 1) := by decide +kernel
theorem dX5_arrives_4 : decode cX5_arrives 4 = .ok (.getfield 7, 3) := by decide +kernel
theorem dX5_arrives_7 : decode cX5_arrives 7 = .ok (.iconst 1, 1) := by decide +kernel
theorem dX5_arrives_8 : decode cX5_arrives 8 = .ok (.iaload, 1) := by decide +kernel
theorem dX5_arrives_9 : decode cX5_arrives 9 = .ok (.if_icmp .ge 71, 3) := by decide +kernel
theorem dX5_arrives_12 : decode cX5_arrives 12 = .ok (.aload_n 0, 1) := by decide +kernel
theorem dX5_arrives_13 : decode cX5_arrives 13 = .ok (.iload_n 1, 1) := by decide +kernel
theorem dX5_arrives_14 : decode cX5_arrives 14 = .ok (.iconst 1, 1) := by decide +kernel
theorem dX5_arrives_15 : decode cX5_arrives 15 = .ok (.invokevirtual 73, 3) := by decide +kernel
theorem dX5_arrives_18 : decode cX5_arrives 18 = .ok (.aload_n 0, 1) := by decide +kernel
theorem dX5_arrives_19 : decode cX5_arrives 19 = .ok (.getfield 7, 3) := by decide +kernel
theorem dX5_arrives_22 : decode cX5_arrives 22 = .ok (.iconst 2, 1) := by decide +kernel
theorem dX5_arrives_23 : decode cX5_arrives 23 = .ok (.iaload, 1) := by decide +kernel
theorem dX5_arrives_24 : decode cX5_arrives 24 = .ok (.if_icmp .ne 50, 3) := by decide +kernel
theorem dX5_arrives_27 : decode cX5_arrives 27 = .ok (.aload_n 0, 1) := by decide +kernel
theorem dX5_arrives_28 : decode cX5_arrives 28 = .ok (.getfield 7, 3) := by decide +kernel
theorem dX5_arrives_31 : decode cX5_arrives 31 = .ok (.iload_n 1, 1) := by decide +kernel
theorem dX5_arrives_32 : decode cX5_arrives 32 = .ok (.iconst 5, 1) := by decide +kernel
theorem dX5_arrives_33 : decode cX5_arrives 33 = .ok (.invokestatic 49, 3) := by decide +kernel
theorem dX5_arrives_36 : decode cX5_arrives 36 = .ok (.aload_n 0, 1) := by decide +kernel
theorem dX5_arrives_37 : decode cX5_arrives 37 = .ok (.iload_n 1, 1) := by decide +kernel
theorem dX5_arrives_38 : decode cX5_arrives 38 = .ok (.iconst 5, 1) := by decide +kernel
theorem dX5_arrives_39 : decode cX5_arrives 39 = .ok (.invokevirtual 73, 3) := by decide +kernel
theorem dX5_arrives_42 : decode cX5_arrives 42 = .ok (.iconst 1, 1) := by decide +kernel
theorem dX5_arrives_43 : decode cX5_arrives 43 = .ok (.iadd, 1) := by decide +kernel
theorem dX5_arrives_44 : decode cX5_arrives 44 = .ok (.sipush 9999, 3) := by decide +kernel
theorem dX5_arrives_47 : decode cX5_arrives 47 = .ok (.invokestatic 120, 3) := by decide +kernel
theorem dX5_arrives_50 : decode cX5_arrives 50 = .ok (.iastore, 1) := by decide +kernel
theorem dX5_arrives_51 : decode cX5_arrives 51 = .ok (.aload_n 0, 1) := by decide +kernel
theorem dX5_arrives_52 : decode cX5_arrives 52 = .ok (.getfield 7, 3) := by decide +kernel
theorem dX5_arrives_55 : decode cX5_arrives 55 = .ok (.iload_n 1, 1) := by decide +kernel
theorem dX5_arrives_56 : decode cX5_arrives 56 = .ok (.iconst 3, 1) := by decide +kernel
theorem dX5_arrives_57 : decode cX5_arrives 57 = .ok (.invokestatic 49, 3) := by decide +kernel
theorem dX5_arrives_60 : decode cX5_arrives 60 = .ok (.aload_n 0, 1) := by decide +kernel
theorem dX5_arrives_61 : decode cX5_arrives 61 = .ok (.iload_n 1, 1) := by decide +kernel
theorem dX5_arrives_62 : decode cX5_arrives 62 = .ok (.iconst 3, 1) := by decide +kernel
theorem dX5_arrives_63 : decode cX5_arrives 63 = .ok (.invokevirtual 73, 3) := by decide +kernel
theorem dX5_arrives_66 : decode cX5_arrives 66 = .ok (.iconst 1, 1) := by decide +kernel
theorem dX5_arrives_67 : decode cX5_arrives 67 = .ok (.iadd, 1) := by decide +kernel
theorem dX5_arrives_68 : decode cX5_arrives 68 = .ok (.bipush 9, 2) := by decide +kernel
theorem dX5_arrives_70 : decode cX5_arrives 70 = .ok (.invokestatic 120, 3) := by decide +kernel
theorem dX5_arrives_73 : decode cX5_arrives 73 = .ok (.iastore, 1) := by decide +kernel
theorem dX5_arrives_74 : decode cX5_arrives 74 = .ok (.iinc 1 1, 3) := by decide +kernel
theorem dX5_arrives_77 : decode cX5_arrives 77 = .ok (.goto (-75), 3) := by decide +kernel
theorem dX5_arrives_80 : decode cX5_arrives 80 = .ok (.return_, 1) := by decide +kernel
theorem dX5_goesOff_0 : decode cX5_goesOff 0 = .ok (.aload_n 0, 1) := by decide +kernel
theorem dX5_goesOff_1 : decode cX5_goesOff 1 = .ok (.getfield 7, 3) := by decide +kernel
theorem dX5_goesOff_4 : decode cX5_goesOff 4 = .ok (.iload_n 1, 1) := by decide +kernel
theorem dX5_goesOff_5 : decode cX5_goesOff 5 = .ok (.iconst 4, 1) := by decide +kernel
theorem dX5_goesOff_6 : decode cX5_goesOff 6 = .ok (.invokestatic 49, 3) := by decide +kernel
theorem dX5_goesOff_9 : decode cX5_goesOff 9 = .ok (.iconst 0, 1) := by decide +kernel
theorem dX5_goesOff_10 : decode cX5_goesOff 10 = .ok (.iastore, 1) := by decide +kernel
theorem dX5_goesOff_11 : decode cX5_goesOff 11 = .ok (.iload_n 1, 1) := by decide +kernel
theorem dX5_goesOff_12 : decode cX5_goesOff 12 = .ok (.iconst 1, 1) := by decide +kernel
theorem dX5_goesOff_13 : decode cX5_goesOff 13 = .ok (.iadd, 1) := by decide +kernel
theorem dX5_goesOff_14 : decode cX5_goesOff 14 = .ok (.istore_n 2, 1) := by decide +kernel
theorem dX5_goesOff_15 : decode cX5_goesOff 15 = .ok (.iload_n 2, 1) := by decide +kernel
theorem dX5_goesOff_16 : decode cX5_goesOff 16 = .ok (.aload_n 0, 1) := by decide +kernel
theorem dX5_goesOff_17 : decode cX5_goesOff 17 = .ok (.getfield 7, 3) := by decide +kernel
theorem dX5_goesOff_20 : decode cX5_goesOff 20 = .ok (.iconst 1, 1) := by decide +kernel
theorem dX5_goesOff_21 : decode cX5_goesOff 21 = .ok (.iaload, 1) := by decide +kernel
theorem dX5_goesOff_22 : decode cX5_goesOff 22 = .ok (.if_icmp .ge 41, 3) := by decide +kernel
theorem dX5_goesOff_25 : decode cX5_goesOff 25 = .ok (.aload_n 0, 1) := by decide +kernel
theorem dX5_goesOff_26 : decode cX5_goesOff 26 = .ok (.getfield 7, 3) := by decide +kernel
theorem dX5_goesOff_29 : decode cX5_goesOff 29 = .ok (.iload_n 2, 1) := by decide +kernel
theorem dX5_goesOff_30 : decode cX5_goesOff 30 = .ok (.iconst 2, 1) := by decide +kernel
theorem dX5_goesOff_31 : decode cX5_goesOff 31 = .ok (.invokestatic 49, 3) := by decide +kernel
theorem dX5_goesOff_34 : decode cX5_goesOff 34 = .ok (.aload_n 0, 1) := by decide +kernel
theorem dX5_goesOff_35 : decode cX5_goesOff 35 = .ok (.iload_n 2, 1) := by decide +kernel
theorem dX5_goesOff_36 : decode cX5_goesOff 36 = .ok (.iconst 2, 1) := by decide +kernel
theorem dX5_goesOff_37 : decode cX5_goesOff 37 = .ok (.invokevirtual 73, 3) := by decide +kernel
theorem dX5_goesOff_40 : decode cX5_goesOff 40 = .ok (.iconst 2, 1) := by decide +kernel
theorem dX5_goesOff_41 : decode cX5_goesOff 41 = .ok (.if_icmp .ge 7, 3) := by decide +kernel
theorem dX5_goesOff_44 : decode cX5_goesOff 44 = .ok (.iconst 1, 1) := by decide +kernel
theorem dX5_goesOff_45 : decode cX5_goesOff 45 = .ok (.goto 11, 3) := by decide +kernel
theorem dX5_goesOff_48 : decode cX5_goesOff 48 = .ok (.aload_n 0, 1) := by decide +kernel
theorem dX5_goesOff_49 : decode cX5_goesOff 49 = .ok (.iload_n 2, 1) := by decide +kernel
theorem dX5_goesOff_50 : decode cX5_goesOff 50 = .ok (.iconst 2, 1) := by decide +kernel
theorem dX5_goesOff_51 : decode cX5_goesOff 51 = .ok (.invokevirtual 73, 3) := by decide +kernel
theorem dX5_goesOff_54 : decode cX5_goesOff 54 = .ok (.iconst 2, 1) := by decide +kernel
theorem dX5_goesOff_55 : decode cX5_goesOff 55 = .ok (.idiv, 1) := by decide +kernel
theorem dX5_goesOff_56 : decode cX5_goesOff 56 = .ok (.iastore, 1) := by decide +kernel
theorem dX5_goesOff_57 : decode cX5_goesOff 57 = .ok (.iinc 2 1, 3) := by decide +kernel
theorem dX5_goesOff_60 : decode cX5_goesOff 60 = .ok (.goto (-45), 3) := by decide +kernel
theorem dX5_goesOff_63 : decode cX5_goesOff 63 = .ok (.aload_n 0, 1) := by decide +kernel
theorem dX5_goesOff_64 : decode cX5_goesOff 64 = .ok (.getfield 7, 3) := by decide +kernel
theorem dX5_goesOff_67 : decode cX5_goesOff 67 = .ok (.iconst 4, 1) := by decide +kernel
theorem dX5_goesOff_68 : decode cX5_goesOff 68 = .ok (.aload_n 0, 1) := by decide +kernel
theorem dX5_goesOff_69 : decode cX5_goesOff 69 = .ok (.getfield 7, 3) := by decide +kernel
theorem dX5_goesOff_72 : decode cX5_goesOff 72 = .ok (.iconst 4, 1) := by decide +kernel
theorem dX5_goesOff_73 : decode cX5_goesOff 73 = .ok (.iaload, 1) := by decide +kernel
theorem dX5_goesOff_74 : decode cX5_goesOff 74 = .ok (.iconst 1, 1) := by decide +kernel
theorem dX5_goesOff_75 : decode cX5_goesOff 75 = .ok (.iadd, 1) := by decide +kernel
theorem dX5_goesOff_76 : decode cX5_goesOff 76 = .ok (.ldc 123, 2) := by decide +kernel
theorem dX5_goesOff_78 : decode cX5_goesOff 78 = .ok (.invokestatic 120, 3) := by decide +kernel
theorem dX5_goesOff_81 : decode cX5_goesOff 81 = .ok (.iastore, 1) := by decide +kernel
theorem dX5_goesOff_82 : decode cX5_goesOff 82 = .ok (.return_, 1) := by decide +kernel
theorem dX5_day_0 : decode cX5_day 0 = .ok (.aload_n 0, 1) := by decide +kernel
theorem dX5_day_1 : decode cX5_day 1 = .ok (.iconst 1, 1) := by decide +kernel
theorem dX5_day_2 : decode cX5_day 2 = .ok (.invokevirtual 124, 3) := by decide +kernel
theorem dX5_day_5 : decode cX5_day 5 = .ok (.istore_n 1, 1) := by decide +kernel
theorem dX5_day_6 : decode cX5_day 6 = .ok (.aload_n 0, 1) := by decide +kernel
theorem dX5_day_7 : decode cX5_day 7 = .ok (.iconst (-1), 1) := by decide +kernel
theorem dX5_day_8 : decode cX5_day 8 = .ok (.invokevirtual 124, 3) := by decide +kernel
theorem dX5_day_11 : decode cX5_day 11 = .ok (.istore_n 2, 1) := by decide +kernel
theorem dX5_day_12 : decode cX5_day 12 = .ok (.iload_n 1, 1) := by decide +kernel
theorem dX5_day_13 : decode cX5_day 13 = .ok (.iload_n 2, 1) := by decide +kernel
theorem dX5_day_14 : decode cX5_day 14 = .ok (.aload_n 0, 1) := by decide +kernel
theorem dX5_day_15 : decode cX5_day 15 = .ok (.getfield 7, 3) := by decide +kernel
theorem dX5_day_18 : decode cX5_day 18 = .ok (.iconst 3, 1) := by decide +kernel
theorem dX5_day_19 : decode cX5_day 19 = .ok (.iaload, 1) := by decide +kernel
theorem dX5_day_20 : decode cX5_day 20 = .ok (.iadd, 1) := by decide +kernel
theorem dX5_day_21 : decode cX5_day 21 = .ok (.if_icmp .le 7, 3) := by decide +kernel
theorem dX5_day_24 : decode cX5_day 24 = .ok (.iconst 1, 1) := by decide +kernel
theorem dX5_day_25 : decode cX5_day 25 = .ok (.goto 20, 3) := by decide +kernel
theorem dX5_day_28 : decode cX5_day 28 = .ok (.iload_n 2, 1) := by decide +kernel
theorem dX5_day_29 : decode cX5_day 29 = .ok (.iload_n 1, 1) := by decide +kernel
theorem dX5_day_30 : decode cX5_day 30 = .ok (.aload_n 0, 1) := by decide +kernel
theorem dX5_day_31 : decode cX5_day 31 = .ok (.getfield 7, 3) := by decide +kernel
theorem dX5_day_34 : decode cX5_day 34 = .ok (.iconst 3, 1) := by decide +kernel
theorem dX5_day_35 : decode cX5_day 35 = .ok (.iaload, 1) := by decide +kernel
theorem dX5_day_36 : decode cX5_day 36 = .ok (.iadd, 1) := by decide +kernel
theorem dX5_day_37 : decode cX5_day 37 = .ok (.if_icmp .le 7, 3) := by decide +kernel
theorem dX5_day_40 : decode cX5_day 40 = .ok (.iconst (-1), 1) := by decide +kernel
theorem dX5_day_41 : decode cX5_day 41 = .ok (.goto 4, 3) := by decide +kernel
theorem dX5_day_44 : decode cX5_day 44 = .ok (.iconst 0, 1) := by decide +kernel
theorem dX5_day_45 : decode cX5_day 45 = .ok (.istore_n 3, 1) := by decide +kernel
theorem dX5_day_46 : decode cX5_day 46 = .ok (.aload_n 0, 1) := by decide +kernel
theorem dX5_day_47 : decode cX5_day 47 = .ok (.getfield 7, 3) := by decide +kernel
theorem dX5_day_50 : decode cX5_day 50 = .ok (.iconst 2, 1) := by decide +kernel
theorem dX5_day_51 : decode cX5_day 51 = .ok (.dup2, 1) := by decide +kernel
theorem dX5_day_52 : decode cX5_day 52 = .ok (.iaload, 1) := by decide +kernel
theorem dX5_day_53 : decode cX5_day 53 = .ok (.iload_n 3, 1) := by decide +kernel
theorem dX5_day_54 : decode cX5_day 54 = .ok (.iadd, 1) := by decide +kernel
theorem dX5_day_55 : decode cX5_day 55 = .ok (.iastore, 1) := by decide +kernel
theorem dX5_day_56 : decode cX5_day 56 = .ok (.iload_n 3, 1) := by decide +kernel
theorem dX5_day_57 : decode cX5_day 57 = .ok (.ifCond .eq 7, 3) := by decide +kernel
theorem dX5_day_60 : decode cX5_day 60 = .ok (.aload_n 0, 1) := by decide +kernel
theorem dX5_day_61 : decode cX5_day 61 = .ok (.invokevirtual 127, 3) := by decide +kernel
theorem dX5_day_64 : decode cX5_day 64 = .ok (.iconst (-1), 1) := by decide +kernel
theorem dX5_day_65 : decode cX5_day 65 = .ok (.istore 4, 2) := by decide +kernel
theorem dX5_day_67 : decode cX5_day 67 = .ok (.iconst 0, 1) := by decide +kernel
theorem dX5_day_68 : decode cX5_day 68 = .ok (.istore 5, 2) := by decide +kernel
theorem dX5_day_70 : decode cX5_day 70 = .ok (.iload 5, 2) := by decide +kernel
theorem dX5_day_72 : decode cX5_day 72 = .ok (.aload_n 0, 1) := by decide +kernel
theorem dX5_day_73 : decode cX5_day 73 = .ok (.getfield 7, 3) := by decide +kernel
theorem dX5_day_76 : decode cX5_day 76 = .ok (.iconst 1, 1) := by decide +kernel
theorem dX5_day_77 : decode cX5_day 77 = .ok (.iaload, 1) := by decide +kernel
theorem dX5_day_78 : decode cX5_day 78 = .ok (.if_icmp .ge 74, 3) := by decide +kernel
theorem dX5_day_81 : decode cX5_day 81 = .ok (.aload_n 0, 1) := by decide +kernel
theorem dX5_day_82 : decode cX5_day 82 = .ok (.getfield 7, 3) := by decide +kernel
theorem dX5_day_85 : decode cX5_day 85 = .ok (.iload 5, 2) := by decide +kernel
theorem dX5_day_87 : decode cX5_day 87 = .ok (.iconst 4, 1) := by decide +kernel
theorem dX5_day_88 : decode cX5_day 88 = .ok (.invokestatic 49, 3) := by decide +kernel
theorem dX5_day_91 : decode cX5_day 91 = .ok (.aload_n 0, 1) := by decide +kernel
theorem dX5_day_92 : decode cX5_day 92 = .ok (.iload 5, 2) := by decide +kernel
theorem dX5_day_94 : decode cX5_day 94 = .ok (.iconst 4, 1) := by decide +kernel
theorem dX5_day_95 : decode cX5_day 95 = .ok (.invokevirtual 73, 3) := by decide +kernel
theorem dX5_day_98 : decode cX5_day 98 = .ok (.iconst 1, 1) := by decide +kernel
theorem dX5_day_99 : decode cX5_day 99 = .ok (.iadd, 1) := by decide +kernel
theorem dX5_day_100 : decode cX5_day 100 = .ok (.sipush 9999, 3) := by decide +kernel
theorem dX5_day_103 : decode cX5_day 103 = .ok (.invokestatic 120, 3) := by decide +kernel
theorem dX5_day_106 : decode cX5_day 106 = .ok (.iastore, 1) := by decide +kernel
theorem dX5_day_107 : decode cX5_day 107 = .ok (.iload 4, 2) := by decide +kernel
theorem dX5_day_109 : decode cX5_day 109 = .ok (.ifCond .ge 33, 3) := by decide +kernel
theorem dX5_day_112 : decode cX5_day 112 = .ok (.aload_n 0, 1) := by decide +kernel
theorem dX5_day_113 : decode cX5_day 113 = .ok (.iload 5, 2) := by decide +kernel
theorem dX5_day_115 : decode cX5_day 115 = .ok (.invokevirtual 100, 3) := by decide +kernel
theorem dX5_day_118 : decode cX5_day 118 = .ok (.ifCond .le 24, 3) := by decide +kernel
theorem dX5_day_121 : decode cX5_day 121 = .ok (.aload_n 0, 1) := by decide +kernel
theorem dX5_day_122 : decode cX5_day 122 = .ok (.iload 5, 2) := by decide +kernel
theorem dX5_day_124 : decode cX5_day 124 = .ok (.iconst 4, 1) := by decide +kernel
theorem dX5_day_125 : decode cX5_day 125 = .ok (.invokevirtual 73, 3) := by decide +kernel
theorem dX5_day_128 : decode cX5_day 128 = .ok (.aload_n 0, 1) := by decide +kernel
theorem dX5_day_129 : decode cX5_day 129 = .ok (.iload 5, 2) := by decide +kernel
theorem dX5_day_131 : decode cX5_day 131 = .ok (.invokevirtual 100, 3) := by decide +kernel
theorem dX5_day_134 : decode cX5_day 134 = .ok (.if_icmp .lt 8, 3) := by decide +kernel
theorem dX5_day_137 : decode cX5_day 137 = .ok (.iload 5, 2) := by decide +kernel
theorem dX5_day_139 : decode cX5_day 139 = .ok (.goto 5, 3) := by decide +kernel
theorem dX5_day_142 : decode cX5_day 142 = .ok (.iload 4, 2) := by decide +kernel
theorem dX5_day_144 : decode cX5_day 144 = .ok (.istore 4, 2) := by decide +kernel
theorem dX5_day_146 : decode cX5_day 146 = .ok (.iinc 5 1, 3) := by decide +kernel
theorem dX5_day_149 : decode cX5_day 149 = .ok (.goto (-79), 3) := by decide +kernel
theorem dX5_day_152 : decode cX5_day 152 = .ok (.iload 4, 2) := by decide +kernel
theorem dX5_day_154 : decode cX5_day 154 = .ok (.ifCond .lt 9, 3) := by decide +kernel
theorem dX5_day_157 : decode cX5_day 157 = .ok (.aload_n 0, 1) := by decide +kernel
theorem dX5_day_158 : decode cX5_day 158 = .ok (.iload 4, 2) := by decide +kernel
theorem dX5_day_160 : decode cX5_day 160 = .ok (.invokevirtual 130, 3) := by decide +kernel
theorem dX5_day_163 : decode cX5_day 163 = .ok (.aload_n 0, 1) := by decide +kernel
theorem dX5_day_164 : decode cX5_day 164 = .ok (.getfield 7, 3) := by decide +kernel
theorem dX5_day_167 : decode cX5_day 167 = .ok (.iconst 0, 1) := by decide +kernel
theorem dX5_day_168 : decode cX5_day 168 = .ok (.dup2, 1) := by decide +kernel
theorem dX5_day_169 : decode cX5_day 169 = .ok (.iaload, 1) := by decide +kernel
theorem dX5_day_170 : decode cX5_day 170 = .ok (.iconst 1, 1) := by decide +kernel
theorem dX5_day_171 : decode cX5_day 171 = .ok (.iadd, 1) := by decide +kernel
theorem dX5_day_172 : decode cX5_day 172 = .ok (.iastore, 1) := by decide +kernel
theorem dX5_day_173 : decode cX5_day 173 = .ok (.return_, 1) := by decide +kernel
theorem dX5_goesOn_0 : decode cX5_goesOn 0 = .ok (.iconst 0, 1) := by decide +kernel
theorem dX5_goesOn_1 : decode cX5_goesOn 1 = .ok (.istore_n 2, 1) := by decide +kernel
theorem dX5_goesOn_2 : decode cX5_goesOn 2 = .ok (.iload_n 2, 1) := by decide +kernel
theorem dX5_goesOn_3 : decode cX5_goesOn 3 = .ok (.iload_n 1, 1) := by decide +kernel
theorem dX5_goesOn_4 : decode cX5_goesOn 4 = .ok (.if_icmp .ge 13, 3) := by decide +kernel
theorem dX5_goesOn_7 : decode cX5_goesOn 7 = .ok (.aload_n 0, 1) := by decide +kernel
theorem dX5_goesOn_8 : decode cX5_goesOn 8 = .ok (.invokevirtual 134, 3) := by decide +kernel
theorem dX5_goesOn_11 : decode cX5_goesOn 11 = .ok (.iinc 2 1, 3) := by decide +kernel
theorem dX5_goesOn_14 : decode cX5_goesOn 14 = .ok (.goto (-12), 3) := by decide +kernel
theorem dX5_goesOn_17 : decode cX5_goesOn 17 = .ok (.return_, 1) := by decide +kernel
theorem dX5_go_0 : decode cX5_go 0 = .ok (.iload_n 1, 1) := by decide +kernel
theorem dX5_go_1 : decode cX5_go 1 = .ok (.i2l, 1) := by decide +kernel
theorem dX5_go_2 : decode cX5_go 2 = .ok (.lconst 1, 1) := by decide +kernel
theorem dX5_go_3 : decode cX5_go 3 = .ok (.ldc2_w 137, 3) := by decide +kernel
theorem dX5_go_6 : decode cX5_go 6 = .ok (.invokestatic 43, 3) := by decide +kernel
theorem dX5_go_9 : decode cX5_go 9 = .ok (.ifCond .ne 10, 3) := by decide +kernel
theorem dX5_go_12 : decode cX5_go 12 = .ok (.aload_n 0, 1) := by decide +kernel
theorem dX5_go_13 : decode cX5_go 13 = .ok (.ldc 40, 2) := by decide +kernel
theorem dX5_go_15 : decode cX5_go 15 = .ok (.invokevirtual 60, 3) := by decide +kernel
theorem dX5_go_18 : decode cX5_go 18 = .ok (.ireturn, 1) := by decide +kernel
theorem dX5_go_19 : decode cX5_go 19 = .ok (.aload_n 0, 1) := by decide +kernel
theorem dX5_go_20 : decode cX5_go 20 = .ok (.getfield 7, 3) := by decide +kernel
theorem dX5_go_23 : decode cX5_go 23 = .ok (.iconst 0, 1) := by decide +kernel
theorem dX5_go_24 : decode cX5_go 24 = .ok (.iaload, 1) := by decide +kernel
theorem dX5_go_25 : decode cX5_go 25 = .ok (.iload_n 1, 1) := by decide +kernel
theorem dX5_go_26 : decode cX5_go 26 = .ok (.iadd, 1) := by decide +kernel
theorem dX5_go_27 : decode cX5_go 27 = .ok (.ldc 123, 2) := by decide +kernel
theorem dX5_go_29 : decode cX5_go 29 = .ok (.if_icmp .le 10, 3) := by decide +kernel
theorem dX5_go_32 : decode cX5_go 32 = .ok (.aload_n 0, 1) := by decide +kernel
theorem dX5_go_33 : decode cX5_go 33 = .ok (.ldc 116, 2) := by decide +kernel
theorem dX5_go_35 : decode cX5_go 35 = .ok (.invokevirtual 60, 3) := by decide +kernel
theorem dX5_go_38 : decode cX5_go 38 = .ok (.ireturn, 1) := by decide +kernel
theorem dX5_go_39 : decode cX5_go 39 = .ok (.aload_n 0, 1) := by decide +kernel
theorem dX5_go_40 : decode cX5_go 40 = .ok (.iload_n 1, 1) := by decide +kernel
theorem dX5_go_41 : decode cX5_go 41 = .ok (.invokevirtual 139, 3) := by decide +kernel
theorem dX5_go_44 : decode cX5_go 44 = .ok (.aload_n 0, 1) := by decide +kernel
theorem dX5_go_45 : decode cX5_go 45 = .ok (.getfield 7, 3) := by decide +kernel
theorem dX5_go_48 : decode cX5_go 48 = .ok (.iconst 2, 1) := by decide +kernel
theorem dX5_go_49 : decode cX5_go 49 = .ok (.iaload, 1) := by decide +kernel
theorem dX5_go_50 : decode cX5_go 50 = .ok (.ireturn, 1) := by decide +kernel
theorem dX5_drawn_0 : decode cX5_drawn 0 = .ok (.iconst 0, 1) := by decide +kernel
theorem dX5_drawn_1 : decode cX5_drawn 1 = .ok (.istore_n 1, 1) := by decide +kernel
theorem dX5_drawn_2 : decode cX5_drawn 2 = .ok (.iconst 0, 1) := by decide +kernel
theorem dX5_drawn_3 : decode cX5_drawn 3 = .ok (.istore_n 2, 1) := by decide +kernel
theorem dX5_drawn_4 : decode cX5_drawn 4 = .ok (.iload_n 2, 1) := by decide +kernel
theorem dX5_drawn_5 : decode cX5_drawn 5 = .ok (.aload_n 0, 1) := by decide +kernel
theorem dX5_drawn_6 : decode cX5_drawn 6 = .ok (.getfield 7, 3) := by decide +kernel
theorem dX5_drawn_9 : decode cX5_drawn 9 = .ok (.iconst 1, 1) := by decide +kernel
theorem dX5_drawn_10 : decode cX5_drawn 10 = .ok (.iaload, 1) := by decide +kernel
theorem dX5_drawn_11 : decode cX5_drawn 11 = .ok (.if_icmp .ge 20, 3) := by decide +kernel
theorem dX5_drawn_14 : decode cX5_drawn 14 = .ok (.iload_n 1, 1) := by decide +kernel
theorem dX5_drawn_15 : decode cX5_drawn 15 = .ok (.iconst 1, 1) := by decide +kernel
theorem dX5_drawn_16 : decode cX5_drawn 16 = .ok (.aload_n 0, 1) := by decide +kernel
theorem dX5_drawn_17 : decode cX5_drawn 17 = .ok (.iload_n 2, 1) := by decide +kernel
theorem dX5_drawn_18 : decode cX5_drawn 18 = .ok (.iconst 1, 1) := by decide +kernel
theorem dX5_drawn_19 : decode cX5_drawn 19 = .ok (.invokevirtual 73, 3) := by decide +kernel
theorem dX5_drawn_22 : decode cX5_drawn 22 = .ok (.ishl, 1) := by decide +kernel
theorem dX5_drawn_23 : decode cX5_drawn 23 = .ok (.ior, 1) := by decide +kernel
theorem dX5_drawn_24 : decode cX5_drawn 24 = .ok (.istore_n 1, 1) := by decide +kernel
theorem dX5_drawn_25 : decode cX5_drawn 25 = .ok (.iinc 2 1, 3) := by decide +kernel
theorem dX5_drawn_28 : decode cX5_drawn 28 = .ok (.goto (-24), 3) := by decide +kernel
theorem dX5_drawn_31 : decode cX5_drawn 31 = .ok (.iload_n 1, 1) := by decide +kernel
theorem dX5_drawn_32 : decode cX5_drawn 32 = .ok (.ireturn, 1) := by decide +kernel
theorem dX5_mostFelt_0 : decode cX5_mostFelt 0 = .ok (.iconst (-1), 1) := by decide +kernel
theorem dX5_mostFelt_1 : decode cX5_mostFelt 1 = .ok (.istore_n 1, 1) := by decide +kernel
theorem dX5_mostFelt_2 : decode cX5_mostFelt 2 = .ok (.iconst 0, 1) := by decide +kernel
theorem dX5_mostFelt_3 : decode cX5_mostFelt 3 = .ok (.istore_n 2, 1) := by decide +kernel
theorem dX5_mostFelt_4 : decode cX5_mostFelt 4 = .ok (.iload_n 2, 1) := by decide +kernel
theorem dX5_mostFelt_5 : decode cX5_mostFelt 5 = .ok (.aload_n 0, 1) := by decide +kernel
theorem dX5_mostFelt_6 : decode cX5_mostFelt 6 = .ok (.getfield 7, 3) := by decide +kernel
theorem dX5_mostFelt_9 : decode cX5_mostFelt 9 = .ok (.iconst 1, 1) := by decide +kernel
theorem dX5_mostFelt_10 : decode cX5_mostFelt 10 = .ok (.iaload, 1) := by decide +kernel
theorem dX5_mostFelt_11 : decode cX5_mostFelt 11 = .ok (.if_icmp .ge 32, 3) := by decide +kernel
theorem dX5_mostFelt_14 : decode cX5_mostFelt 14 = .ok (.iload_n 1, 1) := by decide +kernel
theorem dX5_mostFelt_15 : decode cX5_mostFelt 15 = .ok (.ifCond .lt 16, 3) := by decide +kernel
theorem dX5_mostFelt_18 : decode cX5_mostFelt 18 = .ok (.aload_n 0, 1) := by decide +kernel
theorem dX5_mostFelt_19 : decode cX5_mostFelt 19 = .ok (.iload_n 2, 1) := by decide +kernel
theorem dX5_mostFelt_20 : decode cX5_mostFelt 20 = .ok (.invokevirtual 103, 3) := by decide +kernel
theorem dX5_mostFelt_23 : decode cX5_mostFelt 23 = .ok (.aload_n 0, 1) := by decide +kernel
theorem dX5_mostFelt_24 : decode cX5_mostFelt 24 = .ok (.iload_n 1, 1) := by decide +kernel
theorem dX5_mostFelt_25 : decode cX5_mostFelt 25 = .ok (.invokevirtual 103, 3) := by decide +kernel
theorem dX5_mostFelt_28 : decode cX5_mostFelt 28 = .ok (.if_icmp .le 7, 3) := by decide +kernel
theorem dX5_mostFelt_31 : decode cX5_mostFelt 31 = .ok (.iload_n 2, 1) := by decide +kernel
theorem dX5_mostFelt_32 : decode cX5_mostFelt 32 = .ok (.goto 4, 3) := by decide +kernel
theorem dX5_mostFelt_35 : decode cX5_mostFelt 35 = .ok (.iload_n 1, 1) := by decide +kernel
theorem dX5_mostFelt_36 : decode cX5_mostFelt 36 = .ok (.istore_n 1, 1) := by decide +kernel
theorem dX5_mostFelt_37 : decode cX5_mostFelt 37 = .ok (.iinc 2 1, 3) := by decide +kernel
theorem dX5_mostFelt_40 : decode cX5_mostFelt 40 = .ok (.goto (-36), 3) := by decide +kernel
theorem dX5_mostFelt_43 : decode cX5_mostFelt 43 = .ok (.iload_n 1, 1) := by decide +kernel
theorem dX5_mostFelt_44 : decode cX5_mostFelt 44 = .ok (.ireturn, 1) := by decide +kernel
theorem dX5_now_0 : decode cX5_now 0 = .ok (.iload_n 1, 1) := by decide +kernel
theorem dX5_now_1 : decode cX5_now 1 = .ok (.tableswitch 96 0 7 #[47, 54, 61, 67, 73, 79, 86, 91], 47) := by decide +kernel
theorem dX5_now_48 : decode cX5_now 48 = .ok (.aload_n 0, 1) := by decide +kernel
theorem dX5_now_49 : decode cX5_now 49 = .ok (.getfield 7, 3) := by decide +kernel
theorem dX5_now_52 : decode cX5_now 52 = .ok (.iconst 0, 1) := by decide +kernel
theorem dX5_now_53 : decode cX5_now 53 = .ok (.iaload, 1) := by decide +kernel
theorem dX5_now_54 : decode cX5_now 54 = .ok (.ireturn, 1) := by decide +kernel
theorem dX5_now_55 : decode cX5_now 55 = .ok (.aload_n 0, 1) := by decide +kernel
theorem dX5_now_56 : decode cX5_now 56 = .ok (.getfield 7, 3) := by decide +kernel
theorem dX5_now_59 : decode cX5_now 59 = .ok (.iconst 2, 1) := by decide +kernel
theorem dX5_now_60 : decode cX5_now 60 = .ok (.iaload, 1) := by decide +kernel
theorem dX5_now_61 : decode cX5_now 61 = .ok (.ireturn, 1) := by decide +kernel
theorem dX5_now_62 : decode cX5_now 62 = .ok (.aload_n 0, 1) := by decide +kernel
theorem dX5_now_63 : decode cX5_now 63 = .ok (.iconst 1, 1) := by decide +kernel
theorem dX5_now_64 : decode cX5_now 64 = .ok (.invokevirtual 124, 3) := by decide +kernel
theorem dX5_now_67 : decode cX5_now 67 = .ok (.ireturn, 1) := by decide +kernel
theorem dX5_now_68 : decode cX5_now 68 = .ok (.aload_n 0, 1) := by decide +kernel
theorem dX5_now_69 : decode cX5_now 69 = .ok (.iconst (-1), 1) := by decide +kernel
theorem dX5_now_70 : decode cX5_now 70 = .ok (.invokevirtual 124, 3) := by decide +kernel
theorem dX5_now_73 : decode cX5_now 73 = .ok (.ireturn, 1) := by decide +kernel
theorem dX5_now_74 : decode cX5_now 74 = .ok (.aload_n 0, 1) := by decide +kernel
theorem dX5_now_75 : decode cX5_now 75 = .ok (.iconst 0, 1) := by decide +kernel
theorem dX5_now_76 : decode cX5_now 76 = .ok (.invokevirtual 92, 3) := by decide +kernel
theorem dX5_now_79 : decode cX5_now 79 = .ok (.ireturn, 1) := by decide +kernel
theorem dX5_now_80 : decode cX5_now 80 = .ok (.aload_n 0, 1) := by decide +kernel
theorem dX5_now_81 : decode cX5_now 81 = .ok (.getfield 7, 3) := by decide +kernel
theorem dX5_now_84 : decode cX5_now 84 = .ok (.iconst 4, 1) := by decide +kernel
theorem dX5_now_85 : decode cX5_now 85 = .ok (.iaload, 1) := by decide +kernel
theorem dX5_now_86 : decode cX5_now 86 = .ok (.ireturn, 1) := by decide +kernel
theorem dX5_now_87 : decode cX5_now 87 = .ok (.aload_n 0, 1) := by decide +kernel
theorem dX5_now_88 : decode cX5_now 88 = .ok (.invokevirtual 142, 3) := by decide +kernel
theorem dX5_now_91 : decode cX5_now 91 = .ok (.ireturn, 1) := by decide +kernel
theorem dX5_now_92 : decode cX5_now 92 = .ok (.aload_n 0, 1) := by decide +kernel
theorem dX5_now_93 : decode cX5_now 93 = .ok (.invokevirtual 146, 3) := by decide +kernel
theorem dX5_now_96 : decode cX5_now 96 = .ok (.ireturn, 1) := by decide +kernel
theorem dX5_now_97 : decode cX5_now 97 = .ok (.aload_n 0, 1) := by decide +kernel
theorem dX5_now_98 : decode cX5_now 98 = .ok (.ldc 40, 2) := by decide +kernel
theorem dX5_now_100 : decode cX5_now 100 = .ok (.invokevirtual 60, 3) := by decide +kernel
theorem dX5_now_103 : decode cX5_now 103 = .ok (.ireturn, 1) := by decide +kernel
theorem dX5_ahead_0 : decode cX5_ahead 0 = .ok (.aload_n 0, 1) := by decide +kernel
theorem dX5_ahead_1 : decode cX5_ahead 1 = .ok (.iload_n 1, 1) := by decide +kernel
theorem dX5_ahead_2 : decode cX5_ahead 2 = .ok (.invokevirtual 95, 3) := by decide +kernel
theorem dX5_ahead_5 : decode cX5_ahead 5 = .ok (.ifCond .eq 35, 3) := by decide +kernel
theorem dX5_ahead_8 : decode cX5_ahead 8 = .ok (.iload_n 2, 1) := by decide +kernel
theorem dX5_ahead_9 : decode cX5_ahead 9 = .ok (.i2l, 1) := by decide +kernel
theorem dX5_ahead_10 : decode cX5_ahead 10 = .ok (.ldc2_w 149, 3) := by decide +kernel
theorem dX5_ahead_13 : decode cX5_ahead 13 = .ok (.ldc2_w 108, 3) := by decide +kernel
theorem dX5_ahead_16 : decode cX5_ahead 16 = .ok (.invokestatic 43, 3) := by decide +kernel
theorem dX5_ahead_19 : decode cX5_ahead 19 = .ok (.ifCond .ne 9, 3) := by decide +kernel
theorem dX5_ahead_22 : decode cX5_ahead 22 = .ok (.iload_n 2, 1) := by decide +kernel
theorem dX5_ahead_23 : decode cX5_ahead 23 = .ok (.bipush 9, 2) := by decide +kernel
theorem dX5_ahead_25 : decode cX5_ahead 25 = .ok (.if_icmp .ne 15, 3) := by decide +kernel
theorem dX5_ahead_28 : decode cX5_ahead 28 = .ok (.iload_n 3, 1) := by decide +kernel
theorem dX5_ahead_29 : decode cX5_ahead 29 = .ok (.i2l, 1) := by decide +kernel
theorem dX5_ahead_30 : decode cX5_ahead 30 = .ok (.lconst 0, 1) := by decide +kernel
theorem dX5_ahead_31 : decode cX5_ahead 31 = .ok (.ldc2_w 151, 3) := by decide +kernel
theorem dX5_ahead_34 : decode cX5_ahead 34 = .ok (.invokestatic 43, 3) := by decide +kernel
theorem dX5_ahead_37 : decode cX5_ahead 37 = .ok (.ifCond .ne 10, 3) := by decide +kernel
theorem dX5_ahead_40 : decode cX5_ahead 40 = .ok (.aload_n 0, 1) := by decide +kernel
theorem dX5_ahead_41 : decode cX5_ahead 41 = .ok (.ldc 40, 2) := by decide +kernel
theorem dX5_ahead_43 : decode cX5_ahead 43 = .ok (.invokevirtual 60, 3) := by decide +kernel
theorem dX5_ahead_46 : decode cX5_ahead 46 = .ok (.ireturn, 1) := by decide +kernel
theorem dX5_ahead_47 : decode cX5_ahead 47 = .ok (.aload_n 0, 1) := by decide +kernel
theorem dX5_ahead_48 : decode cX5_ahead 48 = .ok (.invokevirtual 153, 3) := by decide +kernel
theorem dX5_ahead_51 : decode cX5_ahead 51 = .ok (.aload_n 0, 1) := by decide +kernel
theorem dX5_ahead_52 : decode cX5_ahead 52 = .ok (.iload_n 3, 1) := by decide +kernel
theorem dX5_ahead_53 : decode cX5_ahead 53 = .ok (.invokevirtual 139, 3) := by decide +kernel
theorem dX5_ahead_56 : decode cX5_ahead 56 = .ok (.aload_n 0, 1) := by decide +kernel
theorem dX5_ahead_57 : decode cX5_ahead 57 = .ok (.iload_n 2, 1) := by decide +kernel
theorem dX5_ahead_58 : decode cX5_ahead 58 = .ok (.bipush 9, 2) := by decide +kernel
theorem dX5_ahead_60 : decode cX5_ahead 60 = .ok (.if_icmp .ne 11, 3) := by decide +kernel
theorem dX5_ahead_63 : decode cX5_ahead 63 = .ok (.aload_n 0, 1) := by decide +kernel
theorem dX5_ahead_64 : decode cX5_ahead 64 = .ok (.iload_n 1, 1) := by decide +kernel
theorem dX5_ahead_65 : decode cX5_ahead 65 = .ok (.invokevirtual 103, 3) := by decide +kernel
theorem dX5_ahead_68 : decode cX5_ahead 68 = .ok (.goto 9, 3) := by decide +kernel
theorem dX5_ahead_71 : decode cX5_ahead 71 = .ok (.aload_n 0, 1) := by decide +kernel
theorem dX5_ahead_72 : decode cX5_ahead 72 = .ok (.iload_n 1, 1) := by decide +kernel
theorem dX5_ahead_73 : decode cX5_ahead 73 = .ok (.iload_n 2, 1) := by decide +kernel
theorem dX5_ahead_74 : decode cX5_ahead 74 = .ok (.invokevirtual 73, 3) := by decide +kernel
theorem dX5_ahead_77 : decode cX5_ahead 77 = .ok (.invokevirtual 156, 3) := by decide +kernel
theorem dX5_ahead_80 : decode cX5_ahead 80 = .ok (.ireturn, 1) := by decide +kernel
theorem dX5_behind_0 : decode cX5_behind 0 = .ok (.aload_n 0, 1) := by decide +kernel
theorem dX5_behind_1 : decode cX5_behind 1 = .ok (.invokevirtual 153, 3) := by decide +kernel
theorem dX5_behind_4 : decode cX5_behind 4 = .ok (.aload_n 0, 1) := by decide +kernel
theorem dX5_behind_5 : decode cX5_behind 5 = .ok (.iload_n 2, 1) := by decide +kernel
theorem dX5_behind_6 : decode cX5_behind 6 = .ok (.invokevirtual 139, 3) := by decide +kernel
theorem dX5_behind_9 : decode cX5_behind 9 = .ok (.aload_n 0, 1) := by decide +kernel
theorem dX5_behind_10 : decode cX5_behind 10 = .ok (.aload_n 0, 1) := by decide +kernel
theorem dX5_behind_11 : decode cX5_behind 11 = .ok (.getfield 7, 3) := by decide +kernel
theorem dX5_behind_14 : decode cX5_behind 14 = .ok (.iload_n 1, 1) := by decide +kernel
theorem dX5_behind_15 : decode cX5_behind 15 = .ok (.iaload, 1) := by decide +kernel
theorem dX5_behind_16 : decode cX5_behind 16 = .ok (.invokevirtual 156, 3) := by decide +kernel
theorem dX5_behind_19 : decode cX5_behind 19 = .ok (.ireturn, 1) := by decide +kernel
theorem dX5_where_0 : decode cX5_where 0 = .ok (.iload_n 1, 1) := by decide +kernel
theorem dX5_where_1 : decode cX5_where 1 = .ok (.i2l, 1) := by decide +kernel
theorem dX5_where_2 : decode cX5_where 2 = .ok (.lconst 0, 1) := by decide +kernel
theorem dX5_where_3 : decode cX5_where 3 = .ok (.ldc2_w 151, 3) := by decide +kernel
theorem dX5_where_6 : decode cX5_where 6 = .ok (.invokestatic 43, 3) := by decide +kernel
theorem dX5_where_9 : decode cX5_where 9 = .ok (.ifCond .eq 12, 3) := by decide +kernel
theorem dX5_where_12 : decode cX5_where 12 = .ok (.aload_n 0, 1) := by decide +kernel
theorem dX5_where_13 : decode cX5_where 13 = .ok (.iconst 2, 1) := by decide +kernel
theorem dX5_where_14 : decode cX5_where 14 = .ok (.iload_n 1, 1) := by decide +kernel
theorem dX5_where_15 : decode cX5_where 15 = .ok (.invokevirtual 159, 3) := by decide +kernel
theorem dX5_where_18 : decode cX5_where 18 = .ok (.goto 9, 3) := by decide +kernel
theorem dX5_where_21 : decode cX5_where 21 = .ok (.aload_n 0, 1) := by decide +kernel
theorem dX5_where_22 : decode cX5_where 22 = .ok (.ldc 40, 2) := by decide +kernel
theorem dX5_where_24 : decode cX5_where 24 = .ok (.invokevirtual 60, 3) := by decide +kernel
theorem dX5_where_27 : decode cX5_where 27 = .ok (.ireturn, 1) := by decide +kernel
theorem dX5_orNone_0 : decode cX5_orNone 0 = .ok (.iload_n 1, 1) := by decide +kernel
theorem dX5_orNone_1 : decode cX5_orNone 1 = .ok (.sipush 200, 3) := by decide +kernel
theorem dX5_orNone_4 : decode cX5_orNone 4 = .ok (.if_icmp .le 12, 3) := by decide +kernel
theorem dX5_orNone_7 : decode cX5_orNone 7 = .ok (.aload_n 0, 1) := by decide +kernel
theorem dX5_orNone_8 : decode cX5_orNone 8 = .ok (.ldc 162, 2) := by decide +kernel
theorem dX5_orNone_10 : decode cX5_orNone 10 = .ok (.invokevirtual 60, 3) := by decide +kernel
theorem dX5_orNone_13 : decode cX5_orNone 13 = .ok (.goto 4, 3) := by decide +kernel
theorem dX5_orNone_16 : decode cX5_orNone 16 = .ok (.iload_n 1, 1) := by decide +kernel
theorem dX5_orNone_17 : decode cX5_orNone 17 = .ok (.ireturn, 1) := by decide +kernel
theorem dX5_when_0 : decode cX5_when 0 = .ok (.iload_n 1, 1) := by decide +kernel
theorem dX5_when_1 : decode cX5_when 1 = .ok (.invokestatic 53, 3) := by decide +kernel
theorem dX5_when_4 : decode cX5_when 4 = .ok (.ifCond .ne 10, 3) := by decide +kernel
theorem dX5_when_7 : decode cX5_when 7 = .ok (.aload_n 0, 1) := by decide +kernel
theorem dX5_when_8 : decode cX5_when 8 = .ok (.ldc 40, 2) := by decide +kernel
theorem dX5_when_10 : decode cX5_when 10 = .ok (.invokevirtual 60, 3) := by decide +kernel
theorem dX5_when_13 : decode cX5_when 13 = .ok (.ireturn, 1) := by decide +kernel
theorem dX5_when_14 : decode cX5_when 14 = .ok (.aload_n 0, 1) := by decide +kernel
theorem dX5_when_15 : decode cX5_when 15 = .ok (.invokevirtual 153, 3) := by decide +kernel
theorem dX5_when_18 : decode cX5_when 18 = .ok (.iconst 0, 1) := by decide +kernel
theorem dX5_when_19 : decode cX5_when 19 = .ok (.istore_n 2, 1) := by decide +kernel
theorem dX5_when_20 : decode cX5_when 20 = .ok (.iload_n 2, 1) := by decide +kernel
theorem dX5_when_21 : decode cX5_when 21 = .ok (.sipush 200, 3) := by decide +kernel
theorem dX5_when_24 : decode cX5_when 24 = .ok (.if_icmp .gt 23, 3) := by decide +kernel
theorem dX5_when_27 : decode cX5_when 27 = .ok (.aload_n 0, 1) := by decide +kernel
theorem dX5_when_28 : decode cX5_when 28 = .ok (.getfield 7, 3) := by decide +kernel
theorem dX5_when_31 : decode cX5_when 31 = .ok (.iconst 2, 1) := by decide +kernel
theorem dX5_when_32 : decode cX5_when 32 = .ok (.iaload, 1) := by decide +kernel
theorem dX5_when_33 : decode cX5_when 33 = .ok (.iload_n 1, 1) := by decide +kernel
theorem dX5_when_34 : decode cX5_when 34 = .ok (.if_icmp .eq 13, 3) := by decide +kernel
theorem dX5_when_37 : decode cX5_when 37 = .ok (.aload_n 0, 1) := by decide +kernel
theorem dX5_when_38 : decode cX5_when 38 = .ok (.invokevirtual 134, 3) := by decide +kernel
theorem dX5_when_41 : decode cX5_when 41 = .ok (.iinc 2 1, 3) := by decide +kernel
theorem dX5_when_44 : decode cX5_when 44 = .ok (.goto (-24), 3) := by decide +kernel
theorem dX5_when_47 : decode cX5_when 47 = .ok (.aload_n 0, 1) := by decide +kernel
theorem dX5_when_48 : decode cX5_when 48 = .ok (.aload_n 0, 1) := by decide +kernel
theorem dX5_when_49 : decode cX5_when 49 = .ok (.iload_n 2, 1) := by decide +kernel
theorem dX5_when_50 : decode cX5_when 50 = .ok (.invokevirtual 156, 3) := by decide +kernel
theorem dX5_when_53 : decode cX5_when 53 = .ok (.invokevirtual 163, 3) := by decide +kernel
theorem dX5_when_56 : decode cX5_when 56 = .ok (.ireturn, 1) := by decide +kernel
theorem dX5_moreIn_0 : decode cX5_moreIn 0 = .ok (.aload_n 0, 1) := by decide +kernel
theorem dX5_moreIn_1 : decode cX5_moreIn 1 = .ok (.getfield 7, 3) := by decide +kernel
theorem dX5_moreIn_4 : decode cX5_moreIn 4 = .ok (.iload_n 1, 1) := by decide +kernel
theorem dX5_moreIn_5 : decode cX5_moreIn 5 = .ok (.iaload, 1) := by decide +kernel
theorem dX5_moreIn_6 : decode cX5_moreIn 6 = .ok (.istore_n 2, 1) := by decide +kernel
theorem dX5_moreIn_7 : decode cX5_moreIn 7 = .ok (.aload_n 0, 1) := by decide +kernel
theorem dX5_moreIn_8 : decode cX5_moreIn 8 = .ok (.invokevirtual 153, 3) := by decide +kernel
theorem dX5_moreIn_11 : decode cX5_moreIn 11 = .ok (.iconst 0, 1) := by decide +kernel
theorem dX5_moreIn_12 : decode cX5_moreIn 12 = .ok (.istore_n 3, 1) := by decide +kernel
theorem dX5_moreIn_13 : decode cX5_moreIn 13 = .ok (.iload_n 3, 1) := by decide +kernel
theorem dX5_moreIn_14 : decode cX5_moreIn 14 = .ok (.sipush 200, 3) := by decide +kernel
theorem dX5_moreIn_17 : decode cX5_moreIn 17 = .ok (.if_icmp .gt 23, 3) := by decide +kernel
theorem dX5_moreIn_20 : decode cX5_moreIn 20 = .ok (.aload_n 0, 1) := by decide +kernel
theorem dX5_moreIn_21 : decode cX5_moreIn 21 = .ok (.getfield 7, 3) := by decide +kernel
theorem dX5_moreIn_24 : decode cX5_moreIn 24 = .ok (.iload_n 1, 1) := by decide +kernel
theorem dX5_moreIn_25 : decode cX5_moreIn 25 = .ok (.iaload, 1) := by decide +kernel
theorem dX5_moreIn_26 : decode cX5_moreIn 26 = .ok (.iload_n 2, 1) := by decide +kernel
theorem dX5_moreIn_27 : decode cX5_moreIn 27 = .ok (.if_icmp .gt 13, 3) := by decide +kernel
theorem dX5_moreIn_30 : decode cX5_moreIn 30 = .ok (.aload_n 0, 1) := by decide +kernel
theorem dX5_moreIn_31 : decode cX5_moreIn 31 = .ok (.invokevirtual 134, 3) := by decide +kernel
theorem dX5_moreIn_34 : decode cX5_moreIn 34 = .ok (.iinc 3 1, 3) := by decide +kernel
theorem dX5_moreIn_37 : decode cX5_moreIn 37 = .ok (.goto (-24), 3) := by decide +kernel
theorem dX5_moreIn_40 : decode cX5_moreIn 40 = .ok (.aload_n 0, 1) := by decide +kernel
theorem dX5_moreIn_41 : decode cX5_moreIn 41 = .ok (.aload_n 0, 1) := by decide +kernel
theorem dX5_moreIn_42 : decode cX5_moreIn 42 = .ok (.iload_n 3, 1) := by decide +kernel
theorem dX5_moreIn_43 : decode cX5_moreIn 43 = .ok (.invokevirtual 156, 3) := by decide +kernel
theorem dX5_moreIn_46 : decode cX5_moreIn 46 = .ok (.invokevirtual 163, 3) := by decide +kernel
theorem dX5_moreIn_49 : decode cX5_moreIn 49 = .ok (.ireturn, 1) := by decide +kernel
theorem dX5_comes_0 : decode cX5_comes 0 = .ok (.aload_n 0, 1) := by decide +kernel
theorem dX5_comes_1 : decode cX5_comes 1 = .ok (.iload_n 1, 1) := by decide +kernel
theorem dX5_comes_2 : decode cX5_comes 2 = .ok (.invokevirtual 95, 3) := by decide +kernel
theorem dX5_comes_5 : decode cX5_comes 5 = .ok (.ifCond .eq 15, 3) := by decide +kernel
theorem dX5_comes_8 : decode cX5_comes 8 = .ok (.aload_n 0, 1) := by decide +kernel
theorem dX5_comes_9 : decode cX5_comes 9 = .ok (.iload_n 1, 1) := by decide +kernel
theorem dX5_comes_10 : decode cX5_comes 10 = .ok (.iconst 5, 1) := by decide +kernel
theorem dX5_comes_11 : decode cX5_comes 11 = .ok (.invokestatic 49, 3) := by decide +kernel
theorem dX5_comes_14 : decode cX5_comes 14 = .ok (.invokevirtual 166, 3) := by decide +kernel
theorem dX5_comes_17 : decode cX5_comes 17 = .ok (.goto 9, 3) := by decide +kernel
theorem dX5_comes_20 : decode cX5_comes 20 = .ok (.aload_n 0, 1) := by decide +kernel
theorem dX5_comes_21 : decode cX5_comes 21 = .ok (.ldc 40, 2) := by decide +kernel
theorem dX5_comes_23 : decode cX5_comes 23 = .ok (.invokevirtual 60, 3) := by decide +kernel
theorem dX5_comes_26 : decode cX5_comes 26 = .ok (.ireturn, 1) := by decide +kernel
theorem dX5_off_0 : decode cX5_off 0 = .ok (.aload_n 0, 1) := by decide +kernel
theorem dX5_off_1 : decode cX5_off 1 = .ok (.iconst 4, 1) := by decide +kernel
theorem dX5_off_2 : decode cX5_off 2 = .ok (.invokevirtual 166, 3) := by decide +kernel
theorem dX5_off_5 : decode cX5_off 5 = .ok (.ireturn, 1) := by decide +kernel
theorem dX5_unwind_0 : decode cX5_unwind 0 = .ok (.iload_n 1, 1) := by decide +kernel
theorem dX5_unwind_1 : decode cX5_unwind 1 = .ok (.i2l, 1) := by decide +kernel
theorem dX5_unwind_2 : decode cX5_unwind 2 = .ok (.lconst 0, 1) := by decide +kernel
theorem dX5_unwind_3 : decode cX5_unwind 3 = .ok (.iconst 1, 1) := by decide +kernel
theorem dX5_unwind_4 : decode cX5_unwind 4 = .ok (.aload_n 0, 1) := by decide +kernel
theorem dX5_unwind_5 : decode cX5_unwind 5 = .ok (.getfield 7, 3) := by decide +kernel
theorem dX5_unwind_8 : decode cX5_unwind 8 = .ok (.iconst 1, 1) := by decide +kernel
theorem dX5_unwind_9 : decode cX5_unwind 9 = .ok (.iaload, 1) := by decide +kernel
theorem dX5_unwind_10 : decode cX5_unwind 10 = .ok (.ishl, 1) := by decide +kernel
theorem dX5_unwind_11 : decode cX5_unwind 11 = .ok (.iconst 1, 1) := by decide +kernel
theorem dX5_unwind_12 : decode cX5_unwind 12 = .ok (.isub, 1) := by decide +kernel
theorem dX5_unwind_13 : decode cX5_unwind 13 = .ok (.i2l, 1) := by decide +kernel
theorem dX5_unwind_14 : decode cX5_unwind 14 = .ok (.invokestatic 43, 3) := by decide +kernel
theorem dX5_unwind_17 : decode cX5_unwind 17 = .ok (.ifCond .ne 10, 3) := by decide +kernel
theorem dX5_unwind_20 : decode cX5_unwind 20 = .ok (.aload_n 0, 1) := by decide +kernel
theorem dX5_unwind_21 : decode cX5_unwind 21 = .ok (.ldc 40, 2) := by decide +kernel
theorem dX5_unwind_23 : decode cX5_unwind 23 = .ok (.invokevirtual 60, 3) := by decide +kernel
theorem dX5_unwind_26 : decode cX5_unwind 26 = .ok (.ireturn, 1) := by decide +kernel
theorem dX5_unwind_27 : decode cX5_unwind 27 = .ok (.iconst 0, 1) := by decide +kernel
theorem dX5_unwind_28 : decode cX5_unwind 28 = .ok (.istore_n 2, 1) := by decide +kernel
theorem dX5_unwind_29 : decode cX5_unwind 29 = .ok (.iload_n 2, 1) := by decide +kernel
theorem dX5_unwind_30 : decode cX5_unwind 30 = .ok (.aload_n 0, 1) := by decide +kernel
theorem dX5_unwind_31 : decode cX5_unwind 31 = .ok (.getfield 7, 3) := by decide +kernel
theorem dX5_unwind_34 : decode cX5_unwind 34 = .ok (.iconst 1, 1) := by decide +kernel
theorem dX5_unwind_35 : decode cX5_unwind 35 = .ok (.iaload, 1) := by decide +kernel
theorem dX5_unwind_36 : decode cX5_unwind 36 = .ok (.if_icmp .ge 17, 3) := by decide +kernel
theorem dX5_unwind_39 : decode cX5_unwind 39 = .ok (.iload_n 1, 1) := by decide +kernel
theorem dX5_unwind_40 : decode cX5_unwind 40 = .ok (.iload_n 2, 1) := by decide +kernel
theorem dX5_unwind_41 : decode cX5_unwind 41 = .ok (.ishr, 1) := by decide +kernel
theorem dX5_unwind_42 : decode cX5_unwind 42 = .ok (.iconst 1, 1) := by decide +kernel
theorem dX5_unwind_43 : decode cX5_unwind 43 = .ok (.iand, 1) := by decide +kernel
theorem dX5_unwind_44 : decode cX5_unwind 44 = .ok (.ifCond .ne 9, 3) := by decide +kernel
theorem dX5_unwind_47 : decode cX5_unwind 47 = .ok (.iinc 2 1, 3) := by decide +kernel
theorem dX5_unwind_50 : decode cX5_unwind 50 = .ok (.goto (-21), 3) := by decide +kernel
theorem dX5_unwind_53 : decode cX5_unwind 53 = .ok (.aload_n 0, 1) := by decide +kernel
theorem dX5_unwind_54 : decode cX5_unwind 54 = .ok (.iload_n 2, 1) := by decide +kernel
theorem dX5_unwind_55 : decode cX5_unwind 55 = .ok (.invokevirtual 92, 3) := by decide +kernel
theorem dX5_unwind_58 : decode cX5_unwind 58 = .ok (.ireturn, 1) := by decide +kernel
theorem dX5_had_0 : decode cX5_had 0 = .ok (.iload_n 1, 1) := by decide +kernel
theorem dX5_had_1 : decode cX5_had 1 = .ok (.i2l, 1) := by decide +kernel
theorem dX5_had_2 : decode cX5_had 2 = .ok (.lconst 0, 1) := by decide +kernel
theorem dX5_had_3 : decode cX5_had 3 = .ok (.ldc2_w 169, 3) := by decide +kernel
theorem dX5_had_6 : decode cX5_had 6 = .ok (.invokestatic 43, 3) := by decide +kernel
theorem dX5_had_9 : decode cX5_had 9 = .ok (.ifCond .ne 10, 3) := by decide +kernel
theorem dX5_had_12 : decode cX5_had 12 = .ok (.aload_n 0, 1) := by decide +kernel
theorem dX5_had_13 : decode cX5_had 13 = .ok (.ldc 40, 2) := by decide +kernel
