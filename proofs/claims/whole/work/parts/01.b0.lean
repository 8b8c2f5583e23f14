theorem dJ6_bitCount_0f7a4_0 : decode cJ6_bitCount_0f7a4 0 = .ok (.iload_n 0, 1) := by decide +kernel
theorem dJ6_bitCount_0f7a4_1 : decode cJ6_bitCount_0f7a4 1 = .ok (.iload_n 0, 1) := by decide +kernel
theorem dJ6_bitCount_0f7a4_2 : decode cJ6_bitCount_0f7a4 2 = .ok (.iconst 1, 1) := by decide +kernel
theorem dJ6_bitCount_0f7a4_3 : decode cJ6_bitCount_0f7a4 3 = .ok (.iushr, 1) := by decide +kernel
theorem dJ6_bitCount_0f7a4_4 : decode cJ6_bitCount_0f7a4 4 = .ok (.ldc_w 265, 3) := by decide +kernel
theorem dJ6_bitCount_0f7a4_7 : decode cJ6_bitCount_0f7a4 7 = .ok (.iand, 1) := by decide +kernel
theorem dJ6_bitCount_0f7a4_8 : decode cJ6_bitCount_0f7a4 8 = .ok (.isub, 1) := by decide +kernel
theorem dJ6_bitCount_0f7a4_9 : decode cJ6_bitCount_0f7a4 9 = .ok (.istore_n 0, 1) := by decide +kernel
theorem dJ6_bitCount_0f7a4_10 : decode cJ6_bitCount_0f7a4 10 = .ok (.iload_n 0, 1) := by decide +kernel
theorem dJ6_bitCount_0f7a4_11 : decode cJ6_bitCount_0f7a4 11 = .ok (.ldc_w 266, 3) := by decide +kernel
theorem dJ6_bitCount_0f7a4_14 : decode cJ6_bitCount_0f7a4 14 = .ok (.iand, 1) := by decide +kernel
theorem dJ6_bitCount_0f7a4_15 : decode cJ6_bitCount_0f7a4 15 = .ok (.iload_n 0, 1) := by decide +kernel
theorem dJ6_bitCount_0f7a4_16 : decode cJ6_bitCount_0f7a4 16 = .ok (.iconst 2, 1) := by decide +kernel
theorem dJ6_bitCount_0f7a4_17 : decode cJ6_bitCount_0f7a4 17 = .ok (.iushr, 1) := by decide +kernel
theorem dJ6_bitCount_0f7a4_18 : decode cJ6_bitCount_0f7a4 18 = .ok (.ldc_w 266, 3) := by decide +kernel
theorem dJ6_bitCount_0f7a4_21 : decode cJ6_bitCount_0f7a4 21 = .ok (.iand, 1) := by decide +kernel
theorem dJ6_bitCount_0f7a4_22 : decode cJ6_bitCount_0f7a4 22 = .ok (.iadd, 1) := by decide +kernel
theorem dJ6_bitCount_0f7a4_23 : decode cJ6_bitCount_0f7a4 23 = .ok (.istore_n 0, 1) := by decide +kernel
theorem dJ6_bitCount_0f7a4_24 : decode cJ6_bitCount_0f7a4 24 = .ok (.iload_n 0, 1) := by decide +kernel
theorem dJ6_bitCount_0f7a4_25 : decode cJ6_bitCount_0f7a4 25 = .ok (.iload_n 0, 1) := by decide +kernel
theorem dJ6_bitCount_0f7a4_26 : decode cJ6_bitCount_0f7a4 26 = .ok (.iconst 4, 1) := by decide +kernel
theorem dJ6_bitCount_0f7a4_27 : decode cJ6_bitCount_0f7a4 27 = .ok (.iushr, 1) := by decide +kernel
theorem dJ6_bitCount_0f7a4_28 : decode cJ6_bitCount_0f7a4 28 = .ok (.iadd, 1) := by decide +kernel
theorem dJ6_bitCount_0f7a4_29 : decode cJ6_bitCount_0f7a4 29 = .ok (.ldc_w 267, 3) := by decide +kernel
theorem dJ6_bitCount_0f7a4_32 : decode cJ6_bitCount_0f7a4 32 = .ok (.iand, 1) := by decide +kernel
theorem dJ6_bitCount_0f7a4_33 : decode cJ6_bitCount_0f7a4 33 = .ok (.istore_n 0, 1) := by decide +kernel
theorem dJ6_bitCount_0f7a4_34 : decode cJ6_bitCount_0f7a4 34 = .ok (.iload_n 0, 1) := by decide +kernel
theorem dJ6_bitCount_0f7a4_35 : decode cJ6_bitCount_0f7a4 35 = .ok (.iload_n 0, 1) := by decide +kernel
theorem dJ6_bitCount_0f7a4_36 : decode cJ6_bitCount_0f7a4 36 = .ok (.bipush 8, 2) := by decide +kernel
theorem dJ6_bitCount_0f7a4_38 : decode cJ6_bitCount_0f7a4 38 = .ok (.iushr, 1) := by decide +kernel
theorem dJ6_bitCount_0f7a4_39 : decode cJ6_bitCount_0f7a4 39 = .ok (.iadd, 1) := by decide +kernel
theorem dJ6_bitCount_0f7a4_40 : decode cJ6_bitCount_0f7a4 40 = .ok (.istore_n 0, 1) := by decide +kernel
theorem dJ6_bitCount_0f7a4_41 : decode cJ6_bitCount_0f7a4 41 = .ok (.iload_n 0, 1) := by decide +kernel
theorem dJ6_bitCount_0f7a4_42 : decode cJ6_bitCount_0f7a4 42 = .ok (.iload_n 0, 1) := by decide +kernel
theorem dJ6_bitCount_0f7a4_43 : decode cJ6_bitCount_0f7a4 43 = .ok (.bipush 16, 2) := by decide +kernel
theorem dJ6_bitCount_0f7a4_45 : decode cJ6_bitCount_0f7a4 45 = .ok (.iushr, 1) := by decide +kernel
theorem dJ6_bitCount_0f7a4_46 : decode cJ6_bitCount_0f7a4 46 = .ok (.iadd, 1) := by decide +kernel
theorem dJ6_bitCount_0f7a4_47 : decode cJ6_bitCount_0f7a4 47 = .ok (.istore_n 0, 1) := by decide +kernel
theorem dJ6_bitCount_0f7a4_48 : decode cJ6_bitCount_0f7a4 48 = .ok (.iload_n 0, 1) := by decide +kernel
theorem dJ6_bitCount_0f7a4_49 : decode cJ6_bitCount_0f7a4 49 = .ok (.bipush 63, 2) := by decide +kernel
theorem dJ6_bitCount_0f7a4_51 : decode cJ6_bitCount_0f7a4 51 = .ok (.iand, 1) := by decide +kernel
theorem dJ6_bitCount_0f7a4_52 : decode cJ6_bitCount_0f7a4 52 = .ok (.ireturn, 1) := by decide +kernel
theorem dJ9_abs_0f7a4_0 : decode cJ9_abs_0f7a4 0 = .ok (.iload_n 0, 1) := by decide +kernel
theorem dJ9_abs_0f7a4_1 : decode cJ9_abs_0f7a4 1 = .ok (.ifCond .ge 8, 3) := by decide +kernel
theorem dJ9_abs_0f7a4_4 : decode cJ9_abs_0f7a4 4 = .ok (.iload_n 0, 1) := by decide +kernel
theorem dJ9_abs_0f7a4_5 : decode cJ9_abs_0f7a4 5 = .ok (.ineg, 1) := by decide +kernel
theorem dJ9_abs_0f7a4_6 : decode cJ9_abs_0f7a4 6 = .ok (.goto 4, 3) := by decide +kernel
theorem dJ9_abs_0f7a4_9 : decode cJ9_abs_0f7a4 9 = .ok (.iload_n 0, 1) := by decide +kernel
theorem dJ9_abs_0f7a4_10 : decode cJ9_abs_0f7a4 10 = .ok (.ireturn, 1) := by decide +kernel
theorem dJ9_max_7cf53_0 : decode cJ9_max_7cf53 0 = .ok (.iload_n 0, 1) := by decide +kernel
theorem dJ9_max_7cf53_1 : decode cJ9_max_7cf53 1 = .ok (.iload_n 1, 1) := by decide +kernel
theorem dJ9_max_7cf53_2 : decode cJ9_max_7cf53 2 = .ok (.if_icmp .lt 7, 3) := by decide +kernel
theorem dJ9_max_7cf53_5 : decode cJ9_max_7cf53 5 = .ok (.iload_n 0, 1) := by decide +kernel
theorem dJ9_max_7cf53_6 : decode cJ9_max_7cf53 6 = .ok (.goto 4, 3) := by decide +kernel
theorem dJ9_max_7cf53_9 : decode cJ9_max_7cf53 9 = .ok (.iload_n 1, 1) := by decide +kernel
theorem dJ9_max_7cf53_10 : decode cJ9_max_7cf53 10 = .ok (.ireturn, 1) := by decide +kernel
theorem dJ9_min_7cf53_0 : decode cJ9_min_7cf53 0 = .ok (.iload_n 0, 1) := by decide +kernel
theorem dJ9_min_7cf53_1 : decode cJ9_min_7cf53 1 = .ok (.iload_n 1, 1) := by decide +kernel
theorem dJ9_min_7cf53_2 : decode cJ9_min_7cf53 2 = .ok (.if_icmp .gt 7, 3) := by decide +kernel
theorem dJ9_min_7cf53_5 : decode cJ9_min_7cf53 5 = .ok (.iload_n 0, 1) := by decide +kernel
theorem dJ9_min_7cf53_6 : decode cJ9_min_7cf53 6 = .ok (.goto 4, 3) := by decide +kernel
theorem dJ9_min_7cf53_9 : decode cJ9_min_7cf53 9 = .ok (.iload_n 1, 1) := by decide +kernel
theorem dJ9_min_7cf53_10 : decode cJ9_min_7cf53 10 = .ok (.ireturn, 1) := by decide +kernel
theorem dJ0_length_8abf5_0 : decode cJ0_length_8abf5 0 = .ok (.aload_n 0, 1) := by decide +kernel
theorem dJ0_length_8abf5_1 : decode cJ0_length_8abf5 1 = .ok (.getfield 9, 3) := by decide +kernel
theorem dJ0_length_8abf5_4 : decode cJ0_length_8abf5 4 = .ok (.arraylength, 1) := by decide +kernel
theorem dJ0_length_8abf5_5 : decode cJ0_length_8abf5 5 = .ok (.aload_n 0, 1) := by decide +kernel
theorem dJ0_length_8abf5_6 : decode cJ0_length_8abf5 6 = .ok (.invokevirtual 335, 3) := by decide +kernel
theorem dJ0_length_8abf5_9 : decode cJ0_length_8abf5 9 = .ok (.ishr, 1) := by decide +kernel
theorem dJ0_length_8abf5_10 : decode cJ0_length_8abf5 10 = .ok (.ireturn, 1) := by decide +kernel
theorem dJ0_charAt_5068e_0 : decode cJ0_charAt_5068e 0 = .ok (.aload_n 0, 1) := by decide +kernel
theorem dJ0_charAt_5068e_1 : decode cJ0_charAt_5068e 1 = .ok (.invokevirtual 492, 3) := by decide +kernel
theorem dJ0_charAt_5068e_4 : decode cJ0_charAt_5068e 4 = .ok (.ifCond .eq 12, 3) := by decide +kernel
theorem dJ0_charAt_5068e_7 : decode cJ0_charAt_5068e 7 = .ok (.aload_n 0, 1) := by decide +kernel
theorem dJ0_charAt_5068e_8 : decode cJ0_charAt_5068e 8 = .ok (.getfield 9, 3) := by decide +kernel
theorem dJ0_charAt_5068e_11 : decode cJ0_charAt_5068e 11 = .ok (.iload_n 1, 1) := by decide +kernel
theorem dJ0_charAt_5068e_12 : decode cJ0_charAt_5068e 12 = .ok (.invokestatic 495, 3) := by decide +kernel
theorem dJ0_charAt_5068e_15 : decode cJ0_charAt_5068e 15 = .ok (.ireturn, 1) := by decide +kernel
theorem dJ0_charAt_5068e_16 : decode cJ0_charAt_5068e 16 = .ok (.aload_n 0, 1) := by decide +kernel
theorem dJ0_charAt_5068e_17 : decode cJ0_charAt_5068e 17 = .ok (.getfield 9, 3) := by decide +kernel
theorem dJ0_charAt_5068e_20 : decode cJ0_charAt_5068e 20 = .ok (.iload_n 1, 1) := by decide +kernel
theorem dJ0_charAt_5068e_21 : decode cJ0_charAt_5068e 21 = .ok (.invokestatic 498, 3) := by decide +kernel
theorem dJ0_charAt_5068e_24 : decode cJ0_charAt_5068e 24 = .ok (.ireturn, 1) := by decide +kernel
theorem dJ0_coder_7d493_0 : decode cJ0_coder_7d493 0 = .ok (.getstatic 38, 3) := by decide +kernel
theorem dJ0_coder_7d493_3 : decode cJ0_coder_7d493 3 = .ok (.ifCond .eq 10, 3) := by decide +kernel
theorem dJ0_coder_7d493_6 : decode cJ0_coder_7d493 6 = .ok (.aload_n 0, 1) := by decide +kernel
theorem dJ0_coder_7d493_7 : decode cJ0_coder_7d493 7 = .ok (.getfield 15, 3) := by decide +kernel
theorem dJ0_coder_7d493_10 : decode cJ0_coder_7d493 10 = .ok (.goto 4, 3) := by decide +kernel
theorem dJ0_coder_7d493_13 : decode cJ0_coder_7d493 13 = .ok (.iconst 1, 1) := by decide +kernel
theorem dJ0_coder_7d493_14 : decode cJ0_coder_7d493 14 = .ok (.ireturn, 1) := by decide +kernel
theorem dJ0_isLatin1_aae02_0 : decode cJ0_isLatin1_aae02 0 = .ok (.getstatic 38, 3) := by decide +kernel
theorem dJ0_isLatin1_aae02_3 : decode cJ0_isLatin1_aae02 3 = .ok (.ifCond .eq 14, 3) := by decide +kernel
theorem dJ0_isLatin1_aae02_6 : decode cJ0_isLatin1_aae02 6 = .ok (.aload_n 0, 1) := by decide +kernel
theorem dJ0_isLatin1_aae02_7 : decode cJ0_isLatin1_aae02 7 = .ok (.getfield 15, 3) := by decide +kernel
theorem dJ0_isLatin1_aae02_10 : decode cJ0_isLatin1_aae02 10 = .ok (.ifCond .ne 7, 3) := by decide +kernel
theorem dJ0_isLatin1_aae02_13 : decode cJ0_isLatin1_aae02 13 = .ok (.iconst 1, 1) := by decide +kernel
theorem dJ0_isLatin1_aae02_14 : decode cJ0_isLatin1_aae02 14 = .ok (.goto 4, 3) := by decide +kernel
theorem dJ0_isLatin1_aae02_17 : decode cJ0_isLatin1_aae02 17 = .ok (.iconst 0, 1) := by decide +kernel
theorem dJ0_isLatin1_aae02_18 : decode cJ0_isLatin1_aae02 18 = .ok (.ireturn, 1) := by decide +kernel
theorem dJ0_checkIndex_df160_0 : decode cJ0_checkIndex_df160 0 = .ok (.iload_n 0, 1) := by decide +kernel
theorem dJ0_checkIndex_df160_1 : decode cJ0_checkIndex_df160 1 = .ok (.iload_n 1, 1) := by decide +kernel
theorem dJ0_checkIndex_df160_2 : decode cJ0_checkIndex_df160 2 = .ok (.getstatic 1053, 3) := by decide +kernel
theorem dJ0_checkIndex_df160_5 : decode cJ0_checkIndex_df160 5 = .ok (.invokestatic 1059, 3) := by decide +kernel
theorem dJ0_checkIndex_df160_8 : decode cJ0_checkIndex_df160 8 = .ok (.pop, 1) := by decide +kernel
theorem dJ0_checkIndex_df160_9 : decode cJ0_checkIndex_df160 9 = .ok (.return_, 1) := by decide +kernel
theorem dJ1_charAt_3b067_0 : decode cJ1_charAt_3b067 0 = .ok (.iload_n 1, 1) := by decide +kernel
theorem dJ1_charAt_3b067_1 : decode cJ1_charAt_3b067 1 = .ok (.aload_n 0, 1) := by decide +kernel
theorem dJ1_charAt_3b067_2 : decode cJ1_charAt_3b067 2 = .ok (.arraylength, 1) := by decide +kernel
theorem dJ1_charAt_3b067_3 : decode cJ1_charAt_3b067 3 = .ok (.invokestatic 9, 3) := by decide +kernel
theorem dJ1_charAt_3b067_6 : decode cJ1_charAt_3b067 6 = .ok (.aload_n 0, 1) := by decide +kernel
theorem dJ1_charAt_3b067_7 : decode cJ1_charAt_3b067 7 = .ok (.iload_n 1, 1) := by decide +kernel
theorem dJ1_charAt_3b067_8 : decode cJ1_charAt_3b067 8 = .ok (.baload, 1) := by decide +kernel
theorem dJ1_charAt_3b067_9 : decode cJ1_charAt_3b067 9 = .ok (.sipush 255, 3) := by decide +kernel
theorem dJ1_charAt_3b067_12 : decode cJ1_charAt_3b067 12 = .ok (.iand, 1) := by decide +kernel
theorem dJ1_charAt_3b067_13 : decode cJ1_charAt_3b067 13 = .ok (.i2c, 1) := by decide +kernel
theorem dJ1_charAt_3b067_14 : decode cJ1_charAt_3b067 14 = .ok (.ireturn, 1) := by decide +kernel
theorem dJ2_getChar_3b067_0 : decode cJ2_getChar_3b067 0 = .ok (.getstatic 44, 3) := by decide +kernel
theorem dJ2_getChar_3b067_3 : decode cJ2_getChar_3b067 3 = .ok (.ifCond .ne 25, 3) := by decide +kernel
theorem dJ2_getChar_3b067_6 : decode cJ2_getChar_3b067 6 = .ok (.iload_n 1, 1) := by decide +kernel
theorem dJ2_getChar_3b067_7 : decode cJ2_getChar_3b067 7 = .ok (.ifCond .lt 11, 3) := by decide +kernel
theorem dJ2_getChar_3b067_10 : decode cJ2_getChar_3b067 10 = .ok (.iload_n 1, 1) := by decide +kernel
theorem dJ2_getChar_3b067_11 : decode cJ2_getChar_3b067 11 = .ok (.aload_n 0, 1) := by decide +kernel
theorem dJ2_getChar_3b067_12 : decode cJ2_getChar_3b067 12 = .ok (.invokestatic 48, 3) := by decide +kernel
theorem dJ2_getChar_3b067_15 : decode cJ2_getChar_3b067 15 = .ok (.if_icmp .lt 13, 3) := by decide +kernel
theorem dJ2_getChar_3b067_18 : decode cJ2_getChar_3b067 18 = .ok (.new 52, 3) := by decide +kernel
theorem dJ2_getChar_3b067_21 : decode cJ2_getChar_3b067 21 = .ok (.dup, 1) := by decide +kernel
theorem dJ2_getChar_3b067_22 : decode cJ2_getChar_3b067 22 = .ok (.ldc 54, 2) := by decide +kernel
theorem dJ2_getChar_3b067_24 : decode cJ2_getChar_3b067 24 = .ok (.invokespecial 56, 3) := by decide +kernel
theorem dJ2_getChar_3b067_27 : decode cJ2_getChar_3b067 27 = .ok (.athrow, 1) := by decide +kernel
theorem dJ2_getChar_3b067_28 : decode cJ2_getChar_3b067 28 = .ok (.iload_n 1, 1) := by decide +kernel
theorem dJ2_getChar_3b067_29 : decode cJ2_getChar_3b067 29 = .ok (.iconst 1, 1) := by decide +kernel
theorem dJ2_getChar_3b067_30 : decode cJ2_getChar_3b067 30 = .ok (.ishl, 1) := by decide +kernel
theorem dJ2_getChar_3b067_31 : decode cJ2_getChar_3b067 31 = .ok (.istore_n 1, 1) := by decide +kernel
theorem dJ2_getChar_3b067_32 : decode cJ2_getChar_3b067 32 = .ok (.aload_n 0, 1) := by decide +kernel
theorem dJ2_getChar_3b067_33 : decode cJ2_getChar_3b067 33 = .ok (.iload_n 1, 1) := by decide +kernel
theorem dJ2_getChar_3b067_34 : decode cJ2_getChar_3b067 34 = .ok (.iinc 1 1, 3) := by decide +kernel
theorem dJ2_getChar_3b067_37 : decode cJ2_getChar_3b067 37 = .ok (.baload, 1) := by decide +kernel
theorem dJ2_getChar_3b067_38 : decode cJ2_getChar_3b067 38 = .ok (.sipush 255, 3) := by decide +kernel
theorem dJ2_getChar_3b067_41 : decode cJ2_getChar_3b067 41 = .ok (.iand, 1) := by decide +kernel
theorem dJ2_getChar_3b067_42 : decode cJ2_getChar_3b067 42 = .ok (.getstatic 59, 3) := by decide +kernel
theorem dJ2_getChar_3b067_45 : decode cJ2_getChar_3b067 45 = .ok (.ishl, 1) := by decide +kernel
theorem dJ2_getChar_3b067_46 : decode cJ2_getChar_3b067 46 = .ok (.aload_n 0, 1) := by decide +kernel
theorem dJ2_getChar_3b067_47 : decode cJ2_getChar_3b067 47 = .ok (.iload_n 1, 1) := by decide +kernel
theorem dJ2_getChar_3b067_48 : decode cJ2_getChar_3b067 48 = .ok (.baload, 1) := by decide +kernel
theorem dJ2_getChar_3b067_49 : decode cJ2_getChar_3b067 49 = .ok (.sipush 255, 3) := by decide +kernel
theorem dJ2_getChar_3b067_52 : decode cJ2_getChar_3b067 52 = .ok (.iand, 1) := by decide +kernel
theorem dJ2_getChar_3b067_53 : decode cJ2_getChar_3b067 53 = .ok (.getstatic 63, 3) := by decide +kernel
theorem dJ2_getChar_3b067_56 : decode cJ2_getChar_3b067 56 = .ok (.ishl, 1) := by decide +kernel
theorem dJ2_getChar_3b067_57 : decode cJ2_getChar_3b067 57 = .ok (.ior, 1) := by decide +kernel
theorem dJ2_getChar_3b067_58 : decode cJ2_getChar_3b067 58 = .ok (.i2c, 1) := by decide +kernel
theorem dJ2_getChar_3b067_59 : decode cJ2_getChar_3b067 59 = .ok (.ireturn, 1) := by decide +kernel
theorem dJ2_length_9d52b_0 : decode cJ2_length_9d52b 0 = .ok (.aload_n 0, 1) := by decide +kernel
theorem dJ2_length_9d52b_1 : decode cJ2_length_9d52b 1 = .ok (.arraylength, 1) := by decide +kernel
theorem dJ2_length_9d52b_2 : decode cJ2_length_9d52b 2 = .ok (.iconst 1, 1) := by decide +kernel
theorem dJ2_length_9d52b_3 : decode cJ2_length_9d52b 3 = .ok (.ishr, 1) := by decide +kernel
theorem dJ2_length_9d52b_4 : decode cJ2_length_9d52b 4 = .ok (.ireturn, 1) := by decide +kernel
theorem dJ2_charAt_3b067_0 : decode cJ2_charAt_3b067 0 = .ok (.iload_n 1, 1) := by decide +kernel
theorem dJ2_charAt_3b067_1 : decode cJ2_charAt_3b067 1 = .ok (.aload_n 0, 1) := by decide +kernel
theorem dJ2_charAt_3b067_2 : decode cJ2_charAt_3b067 2 = .ok (.invokestatic 67, 3) := by decide +kernel
theorem dJ2_charAt_3b067_5 : decode cJ2_charAt_3b067 5 = .ok (.aload_n 0, 1) := by decide +kernel
theorem dJ2_charAt_3b067_6 : decode cJ2_charAt_3b067 6 = .ok (.iload_n 1, 1) := by decide +kernel
theorem dJ2_charAt_3b067_7 : decode cJ2_charAt_3b067 7 = .ok (.invokestatic 71, 3) := by decide +kernel
theorem dJ2_charAt_3b067_10 : decode cJ2_charAt_3b067 10 = .ok (.ireturn, 1) := by decide +kernel
theorem dJ2_checkIndex_2214a_0 : decode cJ2_checkIndex_2214a 0 = .ok (.iload_n 0, 1) := by decide +kernel
theorem dJ2_checkIndex_2214a_1 : decode cJ2_checkIndex_2214a 1 = .ok (.aload_n 1, 1) := by decide +kernel
theorem dJ2_checkIndex_2214a_2 : decode cJ2_checkIndex_2214a 2 = .ok (.invokestatic 48, 3) := by decide +kernel
theorem dJ2_checkIndex_2214a_5 : decode cJ2_checkIndex_2214a 5 = .ok (.invokestatic 414, 3) := by decide +kernel
theorem dJ2_checkIndex_2214a_8 : decode cJ2_checkIndex_2214a 8 = .ok (.return_, 1) := by decide +kernel
theorem dJ3_checkIndex_8e157_0 : decode cJ3_checkIndex_8e157 0 = .ok (.iload_n 0, 1) := by decide +kernel
theorem dJ3_checkIndex_8e157_1 : decode cJ3_checkIndex_8e157 1 = .ok (.ifCond .lt 8, 3) := by decide +kernel
theorem dJ3_checkIndex_8e157_4 : decode cJ3_checkIndex_8e157 4 = .ok (.iload_n 0, 1) := by decide +kernel
theorem dJ3_checkIndex_8e157_5 : decode cJ3_checkIndex_8e157 5 = .ok (.iload_n 1, 1) := by decide +kernel
theorem dJ3_checkIndex_8e157_6 : decode cJ3_checkIndex_8e157 6 = .ok (.if_icmp .lt 10, 3) := by decide +kernel
theorem dJ3_checkIndex_8e157_9 : decode cJ3_checkIndex_8e157 9 = .ok (.aload_n 2, 1) := by decide +kernel
theorem dJ3_checkIndex_8e157_10 : decode cJ3_checkIndex_8e157 10 = .ok (.iload_n 0, 1) := by decide +kernel
theorem dJ3_checkIndex_8e157_11 : decode cJ3_checkIndex_8e157 11 = .ok (.iload_n 1, 1) := by decide +kernel
theorem dJ3_checkIndex_8e157_12 : decode cJ3_checkIndex_8e157 12 = .ok (.invokestatic 95, 3) := by decide +kernel
theorem dJ3_checkIndex_8e157_15 : decode cJ3_checkIndex_8e157 15 = .ok (.athrow, 1) := by decide +kernel
theorem dJ3_checkIndex_8e157_16 : decode cJ3_checkIndex_8e157 16 = .ok (.iload_n 0, 1) := by decide +kernel
theorem dJ3_checkIndex_8e157_17 : decode cJ3_checkIndex_8e157 17 = .ok (.ireturn, 1) := by decide +kernel
theorem dX0_init_0 : decode cX0_init 0 = .ok (.aload_n 0, 1) := by decide +kernel
theorem dX0_init_1 : decode cX0_init 1 = .ok (.invokespecial 3, 3) := by decide +kernel
theorem dX0_init_4 : decode cX0_init 4 = .ok (.aload_n 0, 1) := by decide +kernel
theorem dX0_init_5 : decode cX0_init 5 = .ok (.iconst 4, 1) := by decide +kernel
theorem dX0_init_6 : decode cX0_init 6 = .ok (.newarray .int, 2) := by decide +kernel
theorem dX0_init_8 : decode cX0_init 8 = .ok (.putfield 9, 3) := by decide +kernel
theorem dX0_init_11 : decode cX0_init 11 = .ok (.aload_n 0, 1) := by decide +kernel
theorem dX0_init_12 : decode cX0_init 12 = .ok (.iconst 4, 1) := by decide +kernel
theorem dX0_init_13 : decode cX0_init 13 = .ok (.newarray .int, 2) := by decide +kernel
theorem dX0_init_15 : decode cX0_init 15 = .ok (.putfield 15, 3) := by decide +kernel
theorem dX0_init_18 : decode cX0_init 18 = .ok (.aload_n 0, 1) := by decide +kernel
theorem dX0_init_19 : decode cX0_init 19 = .ok (.sipush 160, 3) := by decide +kernel
theorem dX0_init_22 : decode cX0_init 22 = .ok (.newarray .int, 2) := by decide +kernel
theorem dX0_init_24 : decode cX0_init 24 = .ok (.putfield 18, 3) := by decide +kernel
theorem dX0_init_27 : decode cX0_init 27 = .ok (.return_, 1) := by decide +kernel
theorem dX0_lay_0 : decode cX0_lay 0 = .ok (.iload_n 1, 1) := by decide +kernel
theorem dX0_lay_1 : decode cX0_lay 1 = .ok (.invokestatic 21, 3) := by decide +kernel
theorem dX0_lay_4 : decode cX0_lay 4 = .ok (.ifCond .ne 4, 3) := by decide +kernel
theorem dX0_lay_7 : decode cX0_lay 7 = .ok (.return_, 1) := by decide +kernel
theorem dX0_lay_8 : decode cX0_lay 8 = .ok (.aload_n 0, 1) := by decide +kernel
theorem dX0_lay_9 : decode cX0_lay 9 = .ok (.getfield 9, 3) := by decide +kernel
theorem dX0_lay_12 : decode cX0_lay 12 = .ok (.iload_n 1, 1) := by decide +kernel
theorem dX0_lay_13 : decode cX0_lay 13 = .ok (.iload_n 2, 1) := by decide +kernel
theorem dX0_lay_14 : decode cX0_lay 14 = .ok (.iastore, 1) := by decide +kernel
theorem dX0_lay_15 : decode cX0_lay 15 = .ok (.aload_n 0, 1) := by decide +kernel
theorem dX0_lay_16 : decode cX0_lay 16 = .ok (.getfield 15, 3) := by decide +kernel
theorem dX0_lay_19 : decode cX0_lay 19 = .ok (.iload_n 1, 1) := by decide +kernel
theorem dX0_lay_20 : decode cX0_lay 20 = .ok (.iload_n 3, 1) := by decide +kernel
theorem dX0_lay_21 : decode cX0_lay 21 = .ok (.iastore, 1) := by decide +kernel
theorem dX0_lay_22 : decode cX0_lay 22 = .ok (.iconst 0, 1) := by decide +kernel
theorem dX0_lay_23 : decode cX0_lay 23 = .ok (.istore 4, 2) := by decide +kernel
theorem dX0_lay_25 : decode cX0_lay 25 = .ok (.iload 4, 2) := by decide +kernel
theorem dX0_lay_27 : decode cX0_lay 27 = .ok (.bipush 40, 2) := by decide +kernel
theorem dX0_lay_29 : decode cX0_lay 29 = .ok (.if_icmp .ge 22, 3) := by decide +kernel
theorem dX0_lay_32 : decode cX0_lay 32 = .ok (.aload_n 0, 1) := by decide +kernel
theorem dX0_lay_33 : decode cX0_lay 33 = .ok (.getfield 18, 3) := by decide +kernel
theorem dX0_lay_36 : decode cX0_lay 36 = .ok (.iload_n 1, 1) := by decide +kernel
theorem dX0_lay_37 : decode cX0_lay 37 = .ok (.bipush 40, 2) := by decide +kernel
theorem dX0_lay_39 : decode cX0_lay 39 = .ok (.imul, 1) := by decide +kernel
theorem dX0_lay_40 : decode cX0_lay 40 = .ok (.iload 4, 2) := by decide +kernel
theorem dX0_lay_42 : decode cX0_lay 42 = .ok (.iadd, 1) := by decide +kernel
theorem dX0_lay_43 : decode cX0_lay 43 = .ok (.iconst 0, 1) := by decide +kernel
theorem dX0_lay_44 : decode cX0_lay 44 = .ok (.iastore, 1) := by decide +kernel
theorem dX0_lay_45 : decode cX0_lay 45 = .ok (.iinc 4 1, 3) := by decide +kernel
theorem dX0_lay_48 : decode cX0_lay 48 = .ok (.goto (-23), 3) := by decide +kernel
theorem dX0_lay_51 : decode cX0_lay 51 = .ok (.return_, 1) := by decide +kernel
theorem dX0_bitsOf_0 : decode cX0_bitsOf 0 = .ok (.iload_n 1, 1) := by decide +kernel
theorem dX0_bitsOf_1 : decode cX0_bitsOf 1 = .ok (.invokestatic 21, 3) := by decide +kernel
theorem dX0_bitsOf_4 : decode cX0_bitsOf 4 = .ok (.ifCond .eq 12, 3) := by decide +kernel
theorem dX0_bitsOf_7 : decode cX0_bitsOf 7 = .ok (.aload_n 0, 1) := by decide +kernel
theorem dX0_bitsOf_8 : decode cX0_bitsOf 8 = .ok (.getfield 9, 3) := by decide +kernel
theorem dX0_bitsOf_11 : decode cX0_bitsOf 11 = .ok (.iload_n 1, 1) := by decide +kernel
theorem dX0_bitsOf_12 : decode cX0_bitsOf 12 = .ok (.iaload, 1) := by decide +kernel
theorem dX0_bitsOf_13 : decode cX0_bitsOf 13 = .ok (.goto 4, 3) := by decide +kernel
theorem dX0_bitsOf_16 : decode cX0_bitsOf 16 = .ok (.iconst 0, 1) := by decide +kernel
theorem dX0_bitsOf_17 : decode cX0_bitsOf 17 = .ok (.ireturn, 1) := by decide +kernel
theorem dX0_sizeOf_0 : decode cX0_sizeOf 0 = .ok (.iload_n 1, 1) := by decide +kernel
theorem dX0_sizeOf_1 : decode cX0_sizeOf 1 = .ok (.invokestatic 21, 3) := by decide +kernel
theorem dX0_sizeOf_4 : decode cX0_sizeOf 4 = .ok (.ifCond .eq 12, 3) := by decide +kernel
theorem dX0_sizeOf_7 : decode cX0_sizeOf 7 = .ok (.aload_n 0, 1) := by decide +kernel
theorem dX0_sizeOf_8 : decode cX0_sizeOf 8 = .ok (.getfield 15, 3) := by decide +kernel
theorem dX0_sizeOf_11 : decode cX0_sizeOf 11 = .ok (.iload_n 1, 1) := by decide +kernel
theorem dX0_sizeOf_12 : decode cX0_sizeOf 12 = .ok (.iaload, 1) := by decide +kernel
theorem dX0_sizeOf_13 : decode cX0_sizeOf 13 = .ok (.goto 4, 3) := by decide +kernel
theorem dX0_sizeOf_16 : decode cX0_sizeOf 16 = .ok (.iconst 0, 1) := by decide +kernel
theorem dX0_sizeOf_17 : decode cX0_sizeOf 17 = .ok (.ireturn, 1) := by decide +kernel
theorem dX0_isMissing_0 : decode cX0_isMissing 0 = .ok (.aload_n 0, 1) := by decide +kernel
theorem dX0_isMissing_1 : decode cX0_isMissing 1 = .ok (.iload_n 1, 1) := by decide +kernel
theorem dX0_isMissing_2 : decode cX0_isMissing 2 = .ok (.invokevirtual 25, 3) := by decide +kernel
theorem dX0_isMissing_5 : decode cX0_isMissing 5 = .ok (.ifCond .ne 7, 3) := by decide +kernel
theorem dX0_isMissing_8 : decode cX0_isMissing 8 = .ok (.iconst 1, 1) := by decide +kernel
theorem dX0_isMissing_9 : decode cX0_isMissing 9 = .ok (.goto 4, 3) := by decide +kernel
theorem dX0_isMissing_12 : decode cX0_isMissing 12 = .ok (.iconst 0, 1) := by decide +kernel
theorem dX0_isMissing_13 : decode cX0_isMissing 13 = .ok (.ireturn, 1) := by decide +kernel
theorem dX0_number_0 : decode cX0_number 0 = .ok (.aload_n 0, 1) := by decide +kernel
theorem dX0_number_1 : decode cX0_number 1 = .ok (.iload_n 1, 1) := by decide +kernel
theorem dX0_number_2 : decode cX0_number 2 = .ok (.iload_n 2, 1) := by decide +kernel
theorem dX0_number_3 : decode cX0_number 3 = .ok (.iconst 1, 1) := by decide +kernel
theorem dX0_number_4 : decode cX0_number 4 = .ok (.invokevirtual 29, 3) := by decide +kernel
theorem dX0_number_7 : decode cX0_number 7 = .ok (.ifCond .eq 17, 3) := by decide +kernel
theorem dX0_number_10 : decode cX0_number 10 = .ok (.aload_n 0, 1) := by decide +kernel
theorem dX0_number_11 : decode cX0_number 11 = .ok (.getfield 18, 3) := by decide +kernel
theorem dX0_number_14 : decode cX0_number 14 = .ok (.iload_n 1, 1) := by decide +kernel
theorem dX0_number_15 : decode cX0_number 15 = .ok (.bipush 40, 2) := by decide +kernel
theorem dX0_number_17 : decode cX0_number 17 = .ok (.imul, 1) := by decide +kernel
theorem dX0_number_18 : decode cX0_number 18 = .ok (.iload_n 2, 1) := by decide +kernel
theorem dX0_number_19 : decode cX0_number 19 = .ok (.iadd, 1) := by decide +kernel
theorem dX0_number_20 : decode cX0_number 20 = .ok (.iaload, 1) := by decide +kernel
theorem dX0_number_21 : decode cX0_number 21 = .ok (.goto 4, 3) := by decide +kernel
theorem dX0_number_24 : decode cX0_number 24 = .ok (.iconst 0, 1) := by decide +kernel
theorem dX0_number_25 : decode cX0_number 25 = .ok (.ireturn, 1) := by decide +kernel
theorem dX0_put_0 : decode cX0_put 0 = .ok (.aload_n 0, 1) := by decide +kernel
theorem dX0_put_1 : decode cX0_put 1 = .ok (.iload_n 1, 1) := by decide +kernel
theorem dX0_put_2 : decode cX0_put 2 = .ok (.iload_n 2, 1) := by decide +kernel
theorem dX0_put_3 : decode cX0_put 3 = .ok (.iconst 1, 1) := by decide +kernel
theorem dX0_put_4 : decode cX0_put 4 = .ok (.invokevirtual 29, 3) := by decide +kernel
theorem dX0_put_7 : decode cX0_put 7 = .ok (.ifCond .eq 24, 3) := by decide +kernel
theorem dX0_put_10 : decode cX0_put 10 = .ok (.aload_n 0, 1) := by decide +kernel
theorem dX0_put_11 : decode cX0_put 11 = .ok (.getfield 18, 3) := by decide +kernel
theorem dX0_put_14 : decode cX0_put 14 = .ok (.iload_n 1, 1) := by decide +kernel
theorem dX0_put_15 : decode cX0_put 15 = .ok (.bipush 40, 2) := by decide +kernel
theorem dX0_put_17 : decode cX0_put 17 = .ok (.imul, 1) := by decide +kernel
theorem dX0_put_18 : decode cX0_put 18 = .ok (.iload_n 2, 1) := by decide +kernel
theorem dX0_put_19 : decode cX0_put 19 = .ok (.iadd, 1) := by decide +kernel
theorem dX0_put_20 : decode cX0_put 20 = .ok (.iload_n 3, 1) := by decide +kernel
theorem dX0_put_21 : decode cX0_put 21 = .ok (.aload_n 0, 1) := by decide +kernel
theorem dX0_put_22 : decode cX0_put 22 = .ok (.getfield 9, 3) := by decide +kernel
theorem dX0_put_25 : decode cX0_put 25 = .ok (.iload_n 1, 1) := by decide +kernel
theorem dX0_put_26 : decode cX0_put 26 = .ok (.iaload, 1) := by decide +kernel
theorem dX0_put_27 : decode cX0_put 27 = .ok (.invokestatic 33, 3) := by decide +kernel
theorem dX0_put_30 : decode cX0_put 30 = .ok (.iastore, 1) := by decide +kernel
theorem dX0_put_31 : decode cX0_put 31 = .ok (.return_, 1) := by decide +kernel
theorem dX0_hasRange_0 : decode cX0_hasRange 0 = .ok (.bipush 40, 2) := by decide +kernel
theorem dX0_hasRange_2 : decode cX0_hasRange 2 = .ok (.aload_n 0, 1) := by decide +kernel
theorem dX0_hasRange_3 : decode cX0_hasRange 3 = .ok (.iload_n 1, 1) := by decide +kernel
theorem dX0_hasRange_4 : decode cX0_hasRange 4 = .ok (.invokevirtual 37, 3) := by decide +kernel
theorem dX0_hasRange_7 : decode cX0_hasRange 7 = .ok (.invokestatic 40, 3) := by decide +kernel
theorem dX0_hasRange_10 : decode cX0_hasRange 10 = .ok (.istore 4, 2) := by decide +kernel
theorem dX0_hasRange_12 : decode cX0_hasRange 12 = .ok (.iload_n 2, 1) := by decide +kernel
theorem dX0_hasRange_13 : decode cX0_hasRange 13 = .ok (.ifCond .lt 25, 3) := by decide +kernel
theorem dX0_hasRange_16 : decode cX0_hasRange 16 = .ok (.iload_n 3, 1) := by decide +kernel
theorem dX0_hasRange_17 : decode cX0_hasRange 17 = .ok (.ifCond .lt 21, 3) := by decide +kernel
theorem dX0_hasRange_20 : decode cX0_hasRange 20 = .ok (.iload_n 3, 1) := by decide +kernel
theorem dX0_hasRange_21 : decode cX0_hasRange 21 = .ok (.iload 4, 2) := by decide +kernel
theorem dX0_hasRange_23 : decode cX0_hasRange 23 = .ok (.if_icmp .gt 15, 3) := by decide +kernel
theorem dX0_hasRange_26 : decode cX0_hasRange 26 = .ok (.iload_n 2, 1) := by decide +kernel
theorem dX0_hasRange_27 : decode cX0_hasRange 27 = .ok (.iload 4, 2) := by decide +kernel
theorem dX0_hasRange_29 : decode cX0_hasRange 29 = .ok (.iload_n 3, 1) := by decide +kernel
theorem dX0_hasRange_30 : decode cX0_hasRange 30 = .ok (.isub, 1) := by decide +kernel
theorem dX0_hasRange_31 : decode cX0_hasRange 31 = .ok (.if_icmp .gt 7, 3) := by decide +kernel
theorem dX0_hasRange_34 : decode cX0_hasRange 34 = .ok (.iconst 1, 1) := by decide +kernel
theorem dX0_hasRange_35 : decode cX0_hasRange 35 = .ok (.goto 4, 3) := by decide +kernel
theorem dX0_hasRange_38 : decode cX0_hasRange 38 = .ok (.iconst 0, 1) := by decide +kernel
theorem dX0_hasRange_39 : decode cX0_hasRange 39 = .ok (.ireturn, 1) := by decide +kernel
theorem dX0_move_0 : decode cX0_move 0 = .ok (.aload_n 0, 1) := by decide +kernel
theorem dX0_move_1 : decode cX0_move 1 = .ok (.iload_n 1, 1) := by decide +kernel
theorem dX0_move_2 : decode cX0_move 2 = .ok (.iload_n 2, 1) := by decide +kernel
theorem dX0_move_3 : decode cX0_move 3 = .ok (.iload 5, 2) := by decide +kernel
theorem dX0_move_5 : decode cX0_move 5 = .ok (.invokevirtual 29, 3) := by decide +kernel
theorem dX0_move_8 : decode cX0_move 8 = .ok (.ifCond .eq 41, 3) := by decide +kernel
theorem dX0_move_11 : decode cX0_move 11 = .ok (.aload_n 0, 1) := by decide +kernel
theorem dX0_move_12 : decode cX0_move 12 = .ok (.iload_n 3, 1) := by decide +kernel
theorem dX0_move_13 : decode cX0_move 13 = .ok (.iload 4, 2) := by decide +kernel
theorem dX0_move_15 : decode cX0_move 15 = .ok (.iload 5, 2) := by decide +kernel
theorem dX0_move_17 : decode cX0_move 17 = .ok (.invokevirtual 29, 3) := by decide +kernel
theorem dX0_move_20 : decode cX0_move 20 = .ok (.ifCond .eq 29, 3) := by decide +kernel
theorem dX0_move_23 : decode cX0_move 23 = .ok (.aload_n 0, 1) := by decide +kernel
theorem dX0_move_24 : decode cX0_move 24 = .ok (.getfield 18, 3) := by decide +kernel
theorem dX0_move_27 : decode cX0_move 27 = .ok (.iload_n 1, 1) := by decide +kernel
theorem dX0_move_28 : decode cX0_move 28 = .ok (.bipush 40, 2) := by decide +kernel
theorem dX0_move_30 : decode cX0_move 30 = .ok (.imul, 1) := by decide +kernel
theorem dX0_move_31 : decode cX0_move 31 = .ok (.iload_n 2, 1) := by decide +kernel
theorem dX0_move_32 : decode cX0_move 32 = .ok (.iadd, 1) := by decide +kernel
theorem dX0_move_33 : decode cX0_move 33 = .ok (.aload_n 0, 1) := by decide +kernel
theorem dX0_move_34 : decode cX0_move 34 = .ok (.getfield 18, 3) := by decide +kernel
theorem dX0_move_37 : decode cX0_move 37 = .ok (.iload_n 3, 1) := by decide +kernel
theorem dX0_move_38 : decode cX0_move 38 = .ok (.bipush 40, 2) := by decide +kernel
theorem dX0_move_40 : decode cX0_move 40 = .ok (.imul, 1) := by decide +kernel
theorem dX0_move_41 : decode cX0_move 41 = .ok (.iload 4, 2) := by decide +kernel
theorem dX0_move_43 : decode cX0_move 43 = .ok (.iadd, 1) := by decide +kernel
theorem dX0_move_44 : decode cX0_move 44 = .ok (.iload 5, 2) := by decide +kernel
theorem dX0_move_46 : decode cX0_move 46 = .ok (.invokestatic 45, 3) := by decide +kernel
theorem dX0_move_49 : decode cX0_move 49 = .ok (.return_, 1) := by decide +kernel
theorem dX0_lowestBits_0 : decode cX0_lowestBits 0 = .ok (.iload_n 1, 1) := by decide +kernel
theorem dX0_lowestBits_1 : decode cX0_lowestBits 1 = .ok (.lookupswitch 33 #[(8, 27), (16, 30)], 27) := by decide +kernel
theorem dX0_lowestBits_28 : decode cX0_lowestBits 28 = .ok (.iload_n 0, 1) := by decide +kernel
theorem dX0_lowestBits_29 : decode cX0_lowestBits 29 = .ok (.i2b, 1) := by decide +kernel
theorem dX0_lowestBits_30 : decode cX0_lowestBits 30 = .ok (.ireturn, 1) := by decide +kernel
theorem dX0_lowestBits_31 : decode cX0_lowestBits 31 = .ok (.iload_n 0, 1) := by decide +kernel
theorem dX0_lowestBits_32 : decode cX0_lowestBits 32 = .ok (.i2s, 1) := by decide +kernel
theorem dX0_lowestBits_33 : decode cX0_lowestBits 33 = .ok (.ireturn, 1) := by decide +kernel
theorem dX0_lowestBits_34 : decode cX0_lowestBits 34 = .ok (.iload_n 0, 1) := by decide +kernel
theorem dX0_lowestBits_35 : decode cX0_lowestBits 35 = .ok (.ireturn, 1) := by decide +kernel
theorem dX1_init_0 : decode cX1_init 0 = .ok (.aload_n 0, 1) := by decide +kernel
theorem dX1_init_1 : decode cX1_init 1 = .ok (.invokespecial 3, 3) := by decide +kernel
theorem dX1_init_4 : decode cX1_init 4 = .ok (.aload_n 0, 1) := by decide +kernel
theorem dX1_init_5 : decode cX1_init 5 = .ok (.iconst 0, 1) := by decide +kernel
theorem dX1_init_6 : decode cX1_init 6 = .ok (.putfield 9, 3) := by decide +kernel
theorem dX1_init_9 : decode cX1_init 9 = .ok (.aload_n 0, 1) := by decide +kernel
theorem dX1_init_10 : decode cX1_init 10 = .ok (.bipush 120, 2) := by decide +kernel
theorem dX1_init_12 : decode cX1_init 12 = .ok (.newarray .int, 2) := by decide +kernel
theorem dX1_init_14 : decode cX1_init 14 = .ok (.putfield 15, 3) := by decide +kernel
theorem dX1_init_17 : decode cX1_init 17 = .ok (.return_, 1) := by decide +kernel
theorem dX1_add_0 : decode cX1_add 0 = .ok (.aload_n 0, 1) := by decide +kernel
theorem dX1_add_1 : decode cX1_add 1 = .ok (.getfield 9, 3) := by decide +kernel
theorem dX1_add_4 : decode cX1_add 4 = .ok (.ifCond .lt 32, 3) := by decide +kernel
theorem dX1_add_7 : decode cX1_add 7 = .ok (.aload_n 0, 1) := by decide +kernel
theorem dX1_add_8 : decode cX1_add 8 = .ok (.getfield 9, 3) := by decide +kernel
theorem dX1_add_11 : decode cX1_add 11 = .ok (.bipush 120, 2) := by decide +kernel
theorem dX1_add_13 : decode cX1_add 13 = .ok (.if_icmp .ge 23, 3) := by decide +kernel
theorem dX1_add_16 : decode cX1_add 16 = .ok (.aload_n 0, 1) := by decide +kernel
theorem dX1_add_17 : decode cX1_add 17 = .ok (.getfield 15, 3) := by decide +kernel
theorem dX1_add_20 : decode cX1_add 20 = .ok (.aload_n 0, 1) := by decide +kernel
theorem dX1_add_21 : decode cX1_add 21 = .ok (.getfield 9, 3) := by decide +kernel
theorem dX1_add_24 : decode cX1_add 24 = .ok (.iload_n 1, 1) := by decide +kernel
theorem dX1_add_25 : decode cX1_add 25 = .ok (.iastore, 1) := by decide +kernel
theorem dX1_add_26 : decode cX1_add 26 = .ok (.aload_n 0, 1) := by decide +kernel
theorem dX1_add_27 : decode cX1_add 27 = .ok (.dup, 1) := by decide +kernel
theorem dX1_add_28 : decode cX1_add 28 = .ok (.getfield 9, 3) := by decide +kernel
theorem dX1_add_31 : decode cX1_add 31 = .ok (.iconst 1, 1) := by decide +kernel
theorem dX1_add_32 : decode cX1_add 32 = .ok (.iadd, 1) := by decide +kernel
theorem dX1_add_33 : decode cX1_add 33 = .ok (.putfield 9, 3) := by decide +kernel
theorem dX1_add_36 : decode cX1_add 36 = .ok (.return_, 1) := by decide +kernel
theorem dX1_byteAt_0 : decode cX1_byteAt 0 = .ok (.iload_n 1, 1) := by decide +kernel
theorem dX1_byteAt_1 : decode cX1_byteAt 1 = .ok (.ifCond .lt 26, 3) := by decide +kernel
theorem dX1_byteAt_4 : decode cX1_byteAt 4 = .ok (.iload_n 1, 1) := by decide +kernel
theorem dX1_byteAt_5 : decode cX1_byteAt 5 = .ok (.aload_n 0, 1) := by decide +kernel
theorem dX1_byteAt_6 : decode cX1_byteAt 6 = .ok (.getfield 9, 3) := by decide +kernel
theorem dX1_byteAt_9 : decode cX1_byteAt 9 = .ok (.if_icmp .ge 18, 3) := by decide +kernel
theorem dX1_byteAt_12 : decode cX1_byteAt 12 = .ok (.iload_n 1, 1) := by decide +kernel
theorem dX1_byteAt_13 : decode cX1_byteAt 13 = .ok (.bipush 120, 2) := by decide +kernel
theorem dX1_byteAt_15 : decode cX1_byteAt 15 = .ok (.if_icmp .ge 12, 3) := by decide +kernel
theorem dX1_byteAt_18 : decode cX1_byteAt 18 = .ok (.aload_n 0, 1) := by decide +kernel
theorem dX1_byteAt_19 : decode cX1_byteAt 19 = .ok (.getfield 15, 3) := by decide +kernel
theorem dX1_byteAt_22 : decode cX1_byteAt 22 = .ok (.iload_n 1, 1) := by decide +kernel
theorem dX1_byteAt_23 : decode cX1_byteAt 23 = .ok (.iaload, 1) := by decide +kernel
theorem dX1_byteAt_24 : decode cX1_byteAt 24 = .ok (.goto 4, 3) := by decide +kernel
theorem dX1_byteAt_27 : decode cX1_byteAt 27 = .ok (.iconst (-1), 1) := by decide +kernel
theorem dX1_byteAt_28 : decode cX1_byteAt 28 = .ok (.ireturn, 1) := by decide +kernel
theorem dX2_init_0 : decode cX2_init 0 = .ok (.aload_n 0, 1) := by decide +kernel
theorem dX2_init_1 : decode cX2_init 1 = .ok (.invokespecial 3, 3) := by decide +kernel
theorem dX2_init_4 : decode cX2_init 4 = .ok (.aload_n 0, 1) := by decide +kernel
theorem dX2_init_5 : decode cX2_init 5 = .ok (.iconst 0, 1) := by decide +kernel
theorem dX2_init_6 : decode cX2_init 6 = .ok (.putfield 11, 3) := by decide +kernel
theorem dX2_init_9 : decode cX2_init 9 = .ok (.aload_n 0, 1) := by decide +kernel
theorem dX2_init_10 : decode cX2_init 10 = .ok (.iconst 0, 1) := by decide +kernel
theorem dX2_init_11 : decode cX2_init 11 = .ok (.putfield 15, 3) := by decide +kernel
theorem dX2_init_14 : decode cX2_init 14 = .ok (.aload_n 0, 1) := by decide +kernel
theorem dX2_init_15 : decode cX2_init 15 = .ok (.iconst 0, 1) := by decide +kernel
theorem dX2_init_16 : decode cX2_init 16 = .ok (.putfield 18, 3) := by decide +kernel
theorem dX2_init_19 : decode cX2_init 19 = .ok (.aload_n 0, 1) := by decide +kernel
theorem dX2_init_20 : decode cX2_init 20 = .ok (.iconst 0, 1) := by decide +kernel
theorem dX2_init_21 : decode cX2_init 21 = .ok (.putfield 21, 3) := by decide +kernel
theorem dX2_init_24 : decode cX2_init 24 = .ok (.aload_n 0, 1) := by decide +kernel
theorem dX2_init_25 : decode cX2_init 25 = .ok (.aload_n 1, 1) := by decide +kernel
theorem dX2_init_26 : decode cX2_init 26 = .ok (.putfield 24, 3) := by decide +kernel
theorem dX2_init_29 : decode cX2_init 29 = .ok (.aload_n 0, 1) := by decide +kernel
theorem dX2_init_30 : decode cX2_init 30 = .ok (.aload_n 2, 1) := by decide +kernel
theorem dX2_init_31 : decode cX2_init 31 = .ok (.putfield 28, 3) := by decide +kernel
theorem dX2_init_34 : decode cX2_init 34 = .ok (.return_, 1) := by decide +kernel
theorem dX2_readText_0 : decode cX2_readText 0 = .ok (.aload_n 0, 1) := by decide +kernel
theorem dX2_readText_1 : decode cX2_readText 1 = .ok (.iconst 0, 1) := by decide +kernel
theorem dX2_readText_2 : decode cX2_readText 2 = .ok (.putfield 18, 3) := by decide +kernel
theorem dX2_readText_5 : decode cX2_readText 5 = .ok (.aload_n 0, 1) := by decide +kernel
theorem dX2_readText_6 : decode cX2_readText 6 = .ok (.invokevirtual 32, 3) := by decide +kernel
theorem dX2_readText_9 : decode cX2_readText 9 = .ok (.iconst 1, 1) := by decide +kernel
theorem dX2_readText_10 : decode cX2_readText 10 = .ok (.istore_n 1, 1) := by decide +kernel
theorem dX2_readText_11 : decode cX2_readText 11 = .ok (.iload_n 1, 1) := by decide +kernel
theorem dX2_readText_12 : decode cX2_readText 12 = .ok (.bipush 120, 2) := by decide +kernel
theorem dX2_readText_14 : decode cX2_readText 14 = .ok (.if_icmp .gt 51, 3) := by decide +kernel
theorem dX2_readText_17 : decode cX2_readText 17 = .ok (.aload_n 0, 1) := by decide +kernel
theorem dX2_readText_18 : decode cX2_readText 18 = .ok (.invokevirtual 35, 3) := by decide +kernel
theorem dX2_readText_21 : decode cX2_readText 21 = .ok (.ifCond .ne 10, 3) := by decide +kernel
theorem dX2_readText_24 : decode cX2_readText 24 = .ok (.iconst (-1), 1) := by decide +kernel
theorem dX2_readText_25 : decode cX2_readText 25 = .ok (.aload_n 0, 1) := by decide +kernel
theorem dX2_readText_26 : decode cX2_readText 26 = .ok (.getfield 15, 3) := by decide +kernel
theorem dX2_readText_29 : decode cX2_readText 29 = .ok (.isub, 1) := by decide +kernel
theorem dX2_readText_30 : decode cX2_readText 30 = .ok (.ireturn, 1) := by decide +kernel
theorem dX2_readText_31 : decode cX2_readText 31 = .ok (.aload_n 0, 1) := by decide +kernel
theorem dX2_readText_32 : decode cX2_readText 32 = .ok (.getfield 11, 3) := by decide +kernel
theorem dX2_readText_35 : decode cX2_readText 35 = .ok (.ifCond .ne 5, 3) := by decide +kernel
theorem dX2_readText_38 : decode cX2_readText 38 = .ok (.iload_n 1, 1) := by decide +kernel
theorem dX2_readText_39 : decode cX2_readText 39 = .ok (.ireturn, 1) := by decide +kernel
theorem dX2_readText_40 : decode cX2_readText 40 = .ok (.aload_n 0, 1) := by decide +kernel
theorem dX2_readText_41 : decode cX2_readText 41 = .ok (.getfield 11, 3) := by decide +kernel
theorem dX2_readText_44 : decode cX2_readText 44 = .ok (.iconst 3, 1) := by decide +kernel
theorem dX2_readText_45 : decode cX2_readText 45 = .ok (.if_icmp .eq 10, 3) := by decide +kernel
theorem dX2_readText_48 : decode cX2_readText 48 = .ok (.iconst (-1), 1) := by decide +kernel
theorem dX2_readText_49 : decode cX2_readText 49 = .ok (.aload_n 0, 1) := by decide +kernel
theorem dX2_readText_50 : decode cX2_readText 50 = .ok (.getfield 15, 3) := by decide +kernel
theorem dX2_readText_53 : decode cX2_readText 53 = .ok (.isub, 1) := by decide +kernel
theorem dX2_readText_54 : decode cX2_readText 54 = .ok (.ireturn, 1) := by decide +kernel
theorem dX2_readText_55 : decode cX2_readText 55 = .ok (.aload_n 0, 1) := by decide +kernel
theorem dX2_readText_56 : decode cX2_readText 56 = .ok (.invokevirtual 32, 3) := by decide +kernel
theorem dX2_readText_59 : decode cX2_readText 59 = .ok (.iinc 1 1, 3) := by decide +kernel
theorem dX2_readText_62 : decode cX2_readText 62 = .ok (.goto (-51), 3) := by decide +kernel
theorem dX2_readText_65 : decode cX2_readText 65 = .ok (.iconst (-1), 1) := by decide +kernel
theorem dX2_readText_66 : decode cX2_readText 66 = .ok (.aload_n 0, 1) := by decide +kernel
theorem dX2_readText_67 : decode cX2_readText 67 = .ok (.getfield 15, 3) := by decide +kernel
theorem dX2_readText_70 : decode cX2_readText 70 = .ok (.isub, 1) := by decide +kernel
theorem dX2_readText_71 : decode cX2_readText 71 = .ok (.ireturn, 1) := by decide +kernel
theorem dX2_readItem_0 : decode cX2_readItem 0 = .ok (.iconst 0, 1) := by decide +kernel
theorem dX2_readItem_1 : decode cX2_readItem 1 = .ok (.istore_n 1, 1) := by decide +kernel
theorem dX2_readItem_2 : decode cX2_readItem 2 = .ok (.iload_n 1, 1) := by decide +kernel
theorem dX2_readItem_3 : decode cX2_readItem 3 = .ok (.bipush 7, 2) := by decide +kernel
theorem dX2_readItem_5 : decode cX2_readItem 5 = .ok (.if_icmp .ge 26, 3) := by decide +kernel
theorem dX2_readItem_8 : decode cX2_readItem 8 = .ok (.aload_n 0, 1) := by decide +kernel
theorem dX2_readItem_9 : decode cX2_readItem 9 = .ok (.iload_n 1, 1) := by decide +kernel
theorem dX2_readItem_10 : decode cX2_readItem 10 = .ok (.invokestatic 39, 3) := by decide +kernel
theorem dX2_readItem_13 : decode cX2_readItem 13 = .ok (.invokevirtual 43, 3) := by decide +kernel
theorem dX2_readItem_16 : decode cX2_readItem 16 = .ok (.ifCond .eq 9, 3) := by decide +kernel
theorem dX2_readItem_19 : decode cX2_readItem 19 = .ok (.aload_n 0, 1) := by decide +kernel
theorem dX2_readItem_20 : decode cX2_readItem 20 = .ok (.iload_n 1, 1) := by decide +kernel
theorem dX2_readItem_21 : decode cX2_readItem 21 = .ok (.invokevirtual 47, 3) := by decide +kernel
theorem dX2_readItem_24 : decode cX2_readItem 24 = .ok (.ireturn, 1) := by decide +kernel
theorem dX2_readItem_25 : decode cX2_readItem 25 = .ok (.iinc 1 1, 3) := by decide +kernel
theorem dX2_readItem_28 : decode cX2_readItem 28 = .ok (.goto (-26), 3) := by decide +kernel
theorem dX2_readItem_31 : decode cX2_readItem 31 = .ok (.aload_n 0, 1) := by decide +kernel
theorem dX2_readItem_32 : decode cX2_readItem 32 = .ok (.ldc 51, 2) := by decide +kernel
theorem dX2_readItem_34 : decode cX2_readItem 34 = .ok (.invokevirtual 43, 3) := by decide +kernel
theorem dX2_readItem_37 : decode cX2_readItem 37 = .ok (.ifCond .eq 12, 3) := by decide +kernel
theorem dX2_readItem_40 : decode cX2_readItem 40 = .ok (.aload_n 0, 1) := by decide +kernel
theorem dX2_readItem_41 : decode cX2_readItem 41 = .ok (.invokevirtual 32, 3) := by decide +kernel
theorem dX2_readItem_44 : decode cX2_readItem 44 = .ok (.aload_n 0, 1) := by decide +kernel
theorem dX2_readItem_45 : decode cX2_readItem 45 = .ok (.invokevirtual 53, 3) := by decide +kernel
theorem dX2_readItem_48 : decode cX2_readItem 48 = .ok (.ireturn, 1) := by decide +kernel
theorem dX2_readItem_49 : decode cX2_readItem 49 = .ok (.aload_n 0, 1) := by decide +kernel
theorem dX2_readItem_50 : decode cX2_readItem 50 = .ok (.ldc 56, 2) := by decide +kernel
theorem dX2_readItem_52 : decode cX2_readItem 52 = .ok (.invokevirtual 43, 3) := by decide +kernel
theorem dX2_readItem_55 : decode cX2_readItem 55 = .ok (.ifCond .eq 12, 3) := by decide +kernel
theorem dX2_readItem_58 : decode cX2_readItem 58 = .ok (.aload_n 0, 1) := by decide +kernel
theorem dX2_readItem_59 : decode cX2_readItem 59 = .ok (.invokevirtual 32, 3) := by decide +kernel
theorem dX2_readItem_62 : decode cX2_readItem 62 = .ok (.aload_n 0, 1) := by decide +kernel
theorem dX2_readItem_63 : decode cX2_readItem 63 = .ok (.invokevirtual 58, 3) := by decide +kernel
theorem dX2_readItem_66 : decode cX2_readItem 66 = .ok (.ireturn, 1) := by decide +kernel
theorem dX2_readItem_67 : decode cX2_readItem 67 = .ok (.iconst 0, 1) := by decide +kernel
theorem dX2_readItem_68 : decode cX2_readItem 68 = .ok (.ireturn, 1) := by decide +kernel
theorem dX2_readBall_0 : decode cX2_readBall 0 = .ok (.aload_n 0, 1) := by decide +kernel
theorem dX2_readBall_1 : decode cX2_readBall 1 = .ok (.iconst 0, 1) := by decide +kernel
theorem dX2_readBall_2 : decode cX2_readBall 2 = .ok (.bipush 11, 2) := by decide +kernel
theorem dX2_readBall_4 : decode cX2_readBall 4 = .ok (.invokevirtual 61, 3) := by decide +kernel
theorem dX2_readBall_7 : decode cX2_readBall 7 = .ok (.ifCond .ne 5, 3) := by decide +kernel
theorem dX2_readBall_10 : decode cX2_readBall 10 = .ok (.iconst 0, 1) := by decide +kernel
theorem dX2_readBall_11 : decode cX2_readBall 11 = .ok (.ireturn, 1) := by decide +kernel
theorem dX2_readBall_12 : decode cX2_readBall 12 = .ok (.aload_n 0, 1) := by decide +kernel
theorem dX2_readBall_13 : decode cX2_readBall 13 = .ok (.getfield 28, 3) := by decide +kernel
theorem dX2_readBall_16 : decode cX2_readBall 16 = .ok (.aload_n 0, 1) := by decide +kernel
theorem dX2_readBall_17 : decode cX2_readBall 17 = .ok (.getfield 21, 3) := by decide +kernel
theorem dX2_readBall_20 : decode cX2_readBall 20 = .ok (.putfield 65, 3) := by decide +kernel
theorem dX2_readBall_23 : decode cX2_readBall 23 = .ok (.aload_n 0, 1) := by decide +kernel
theorem dX2_readBall_24 : decode cX2_readBall 24 = .ok (.invokevirtual 32, 3) := by decide +kernel
theorem dX2_readBall_27 : decode cX2_readBall 27 = .ok (.iconst 1, 1) := by decide +kernel
theorem dX2_readBall_28 : decode cX2_readBall 28 = .ok (.ireturn, 1) := by decide +kernel
theorem dX2_readDrag_0 : decode cX2_readDrag 0 = .ok (.aload_n 0, 1) := by decide +kernel
theorem dX2_readDrag_1 : decode cX2_readDrag 1 = .ok (.iconst 0, 1) := by decide +kernel
theorem dX2_readDrag_2 : decode cX2_readDrag 2 = .ok (.bipush 99, 2) := by decide +kernel
theorem dX2_readDrag_4 : decode cX2_readDrag 4 = .ok (.invokevirtual 61, 3) := by decide +kernel
theorem dX2_readDrag_7 : decode cX2_readDrag 7 = .ok (.ifCond .ne 5, 3) := by decide +kernel
theorem dX2_readDrag_10 : decode cX2_readDrag 10 = .ok (.iconst 0, 1) := by decide +kernel
theorem dX2_readDrag_11 : decode cX2_readDrag 11 = .ok (.ireturn, 1) := by decide +kernel
theorem dX2_readDrag_12 : decode cX2_readDrag 12 = .ok (.aload_n 0, 1) := by decide +kernel
theorem dX2_readDrag_13 : decode cX2_readDrag 13 = .ok (.getfield 28, 3) := by decide +kernel
theorem dX2_readDrag_16 : decode cX2_readDrag 16 = .ok (.aload_n 0, 1) := by decide +kernel
theorem dX2_readDrag_17 : decode cX2_readDrag 17 = .ok (.getfield 21, 3) := by decide +kernel
theorem dX2_readDrag_20 : decode cX2_readDrag 20 = .ok (.putfield 70, 3) := by decide +kernel
theorem dX2_readDrag_23 : decode cX2_readDrag 23 = .ok (.aload_n 0, 1) := by decide +kernel
theorem dX2_readDrag_24 : decode cX2_readDrag 24 = .ok (.invokevirtual 32, 3) := by decide +kernel
theorem dX2_readDrag_27 : decode cX2_readDrag 27 = .ok (.iconst 1, 1) := by decide +kernel
theorem dX2_readDrag_28 : decode cX2_readDrag 28 = .ok (.ireturn, 1) := by decide +kernel
theorem dX2_readPiece_0 : decode cX2_readPiece 0 = .ok (.aload_n 0, 1) := by decide +kernel
theorem dX2_readPiece_1 : decode cX2_readPiece 1 = .ok (.getfield 28, 3) := by decide +kernel
theorem dX2_readPiece_4 : decode cX2_readPiece 4 = .ok (.invokevirtual 72, 3) := by decide +kernel
theorem dX2_readPiece_7 : decode cX2_readPiece 7 = .ok (.ifCond .eq 5, 3) := by decide +kernel
theorem dX2_readPiece_10 : decode cX2_readPiece 10 = .ok (.iconst 0, 1) := by decide +kernel
theorem dX2_readPiece_11 : decode cX2_readPiece 11 = .ok (.ireturn, 1) := by decide +kernel
theorem dX2_readPiece_12 : decode cX2_readPiece 12 = .ok (.aload_n 0, 1) := by decide +kernel
theorem dX2_readPiece_13 : decode cX2_readPiece 13 = .ok (.getfield 28, 3) := by decide +kernel
theorem dX2_readPiece_16 : decode cX2_readPiece 16 = .ok (.iload_n 1, 1) := by decide +kernel
theorem dX2_readPiece_17 : decode cX2_readPiece 17 = .ok (.iconst 0, 1) := by decide +kernel
theorem dX2_readPiece_18 : decode cX2_readPiece 18 = .ok (.invokevirtual 75, 3) := by decide +kernel
theorem dX2_readPiece_21 : decode cX2_readPiece 21 = .ok (.istore_n 2, 1) := by decide +kernel
theorem dX2_readPiece_22 : decode cX2_readPiece 22 = .ok (.aload_n 0, 1) := by decide +kernel
theorem dX2_readPiece_23 : decode cX2_readPiece 23 = .ok (.invokevirtual 32, 3) := by decide +kernel
theorem dX2_readPiece_26 : decode cX2_readPiece 26 = .ok (.aload_n 0, 1) := by decide +kernel
theorem dX2_readPiece_27 : decode cX2_readPiece 27 = .ok (.ldc 79, 2) := by decide +kernel
theorem dX2_readPiece_29 : decode cX2_readPiece 29 = .ok (.iload_n 2, 1) := by decide +kernel
theorem dX2_readPiece_30 : decode cX2_readPiece 30 = .ok (.iconst 1, 1) := by decide +kernel
theorem dX2_readPiece_31 : decode cX2_readPiece 31 = .ok (.invokevirtual 81, 3) := by decide +kernel
theorem dX2_readPiece_34 : decode cX2_readPiece 34 = .ok (.ifCond .eq 29, 3) := by decide +kernel
theorem dX2_readPiece_37 : decode cX2_readPiece 37 = .ok (.aload_n 0, 1) := by decide +kernel
theorem dX2_readPiece_38 : decode cX2_readPiece 38 = .ok (.ldc 85, 2) := by decide +kernel
theorem dX2_readPiece_40 : decode cX2_readPiece 40 = .ok (.iload_n 2, 1) := by decide +kernel
theorem dX2_readPiece_41 : decode cX2_readPiece 41 = .ok (.iconst 2, 1) := by decide +kernel
theorem dX2_readPiece_42 : decode cX2_readPiece 42 = .ok (.invokevirtual 81, 3) := by decide +kernel
theorem dX2_readPiece_45 : decode cX2_readPiece 45 = .ok (.ifCond .eq 18, 3) := by decide +kernel
theorem dX2_readPiece_48 : decode cX2_readPiece 48 = .ok (.aload_n 0, 1) := by decide +kernel
theorem dX2_readPiece_49 : decode cX2_readPiece 49 = .ok (.ldc 87, 2) := by decide +kernel
theorem dX2_readPiece_51 : decode cX2_readPiece 51 = .ok (.iload_n 2, 1) := by decide +kernel
theorem dX2_readPiece_52 : decode cX2_readPiece 52 = .ok (.iconst 3, 1) := by decide +kernel
theorem dX2_readPiece_53 : decode cX2_readPiece 53 = .ok (.invokevirtual 81, 3) := by decide +kernel
theorem dX2_readPiece_56 : decode cX2_readPiece 56 = .ok (.ifCond .eq 7, 3) := by decide +kernel
theorem dX2_readPiece_59 : decode cX2_readPiece 59 = .ok (.iconst 1, 1) := by decide +kernel
theorem dX2_readPiece_60 : decode cX2_readPiece 60 = .ok (.goto 4, 3) := by decide +kernel
theorem dX2_readPiece_63 : decode cX2_readPiece 63 = .ok (.iconst 0, 1) := by decide +kernel
theorem dX2_readPiece_64 : decode cX2_readPiece 64 = .ok (.ireturn, 1) := by decide +kernel
theorem dX2_readFact_0 : decode cX2_readFact 0 = .ok (.aload_n 0, 1) := by decide +kernel
theorem dX2_readFact_1 : decode cX2_readFact 1 = .ok (.aload_n 1, 1) := by decide +kernel
theorem dX2_readFact_2 : decode cX2_readFact 2 = .ok (.invokevirtual 43, 3) := by decide +kernel
theorem dX2_readFact_5 : decode cX2_readFact 5 = .ok (.ifCond .ne 5, 3) := by decide +kernel
theorem dX2_readFact_8 : decode cX2_readFact 8 = .ok (.iconst 1, 1) := by decide +kernel
theorem dX2_readFact_9 : decode cX2_readFact 9 = .ok (.ireturn, 1) := by decide +kernel
theorem dX2_readFact_10 : decode cX2_readFact 10 = .ok (.aload_n 0, 1) := by decide +kernel
theorem dX2_readFact_11 : decode cX2_readFact 11 = .ok (.invokevirtual 32, 3) := by decide +kernel
theorem dX2_readFact_14 : decode cX2_readFact 14 = .ok (.aload_n 0, 1) := by decide +kernel
theorem dX2_readFact_15 : decode cX2_readFact 15 = .ok (.getfield 11, 3) := by decide +kernel
theorem dX2_readFact_18 : decode cX2_readFact 18 = .ok (.iconst 2, 1) := by decide +kernel
theorem dX2_readFact_19 : decode cX2_readFact 19 = .ok (.if_icmp .ne 14, 3) := by decide +kernel
theorem dX2_readFact_22 : decode cX2_readFact 22 = .ok (.iload_n 3, 1) := by decide +kernel
theorem dX2_readFact_23 : decode cX2_readFact 23 = .ok (.aload_n 0, 1) := by decide +kernel
theorem dX2_readFact_24 : decode cX2_readFact 24 = .ok (.getfield 21, 3) := by decide +kernel
theorem dX2_readFact_27 : decode cX2_readFact 27 = .ok (.invokestatic 89, 3) := by decide +kernel
theorem dX2_readFact_30 : decode cX2_readFact 30 = .ok (.ifCond .ne 5, 3) := by decide +kernel
theorem dX2_readFact_33 : decode cX2_readFact 33 = .ok (.iconst 0, 1) := by decide +kernel
theorem dX2_readFact_34 : decode cX2_readFact 34 = .ok (.ireturn, 1) := by decide +kernel
theorem dX2_readFact_35 : decode cX2_readFact 35 = .ok (.aload_n 0, 1) := by decide +kernel
theorem dX2_readFact_36 : decode cX2_readFact 36 = .ok (.getfield 28, 3) := by decide +kernel
theorem dX2_readFact_39 : decode cX2_readFact 39 = .ok (.iload_n 2, 1) := by decide +kernel
theorem dX2_readFact_40 : decode cX2_readFact 40 = .ok (.iload_n 3, 1) := by decide +kernel
theorem dX2_readFact_41 : decode cX2_readFact 41 = .ok (.aload_n 0, 1) := by decide +kernel
theorem dX2_readFact_42 : decode cX2_readFact 42 = .ok (.getfield 21, 3) := by decide +kernel
theorem dX2_readFact_45 : decode cX2_readFact 45 = .ok (.invokevirtual 92, 3) := by decide +kernel
theorem dX2_readFact_48 : decode cX2_readFact 48 = .ok (.aload_n 0, 1) := by decide +kernel
theorem dX2_readFact_49 : decode cX2_readFact 49 = .ok (.invokevirtual 32, 3) := by decide +kernel
theorem dX2_readFact_52 : decode cX2_readFact 52 = .ok (.iconst 1, 1) := by decide +kernel
theorem dX2_readFact_53 : decode cX2_readFact 53 = .ok (.ireturn, 1) := by decide +kernel
theorem dX2_isNumber_0 : decode cX2_isNumber 0 = .ok (.aload_n 0, 1) := by decide +kernel
theorem dX2_isNumber_1 : decode cX2_isNumber 1 = .ok (.getfield 11, 3) := by decide +kernel
theorem dX2_isNumber_4 : decode cX2_isNumber 4 = .ok (.iconst 2, 1) := by decide +kernel
theorem dX2_isNumber_5 : decode cX2_isNumber 5 = .ok (.if_icmp .ne 19, 3) := by decide +kernel
theorem dX2_isNumber_8 : decode cX2_isNumber 8 = .ok (.aload_n 0, 1) := by decide +kernel
theorem dX2_isNumber_9 : decode cX2_isNumber 9 = .ok (.getfield 21, 3) := by decide +kernel
theorem dX2_isNumber_12 : decode cX2_isNumber 12 = .ok (.iload_n 1, 1) := by decide +kernel
theorem dX2_isNumber_13 : decode cX2_isNumber 13 = .ok (.iload_n 2, 1) := by decide +kernel
theorem dX2_isNumber_14 : decode cX2_isNumber 14 = .ok (.invokestatic 96, 3) := by decide +kernel
theorem dX2_isNumber_17 : decode cX2_isNumber 17 = .ok (.ifCond .eq 7, 3) := by decide +kernel
theorem dX2_isNumber_20 : decode cX2_isNumber 20 = .ok (.iconst 1, 1) := by decide +kernel
theorem dX2_isNumber_21 : decode cX2_isNumber 21 = .ok (.goto 4, 3) := by decide +kernel
theorem dX2_isNumber_24 : decode cX2_isNumber 24 = .ok (.iconst 0, 1) := by decide +kernel
theorem dX2_isNumber_25 : decode cX2_isNumber 25 = .ok (.ireturn, 1) := by decide +kernel
theorem dX2_isWord_0 : decode cX2_isWord 0 = .ok (.aload_n 0, 1) := by decide +kernel
theorem dX2_isWord_1 : decode cX2_isWord 1 = .ok (.getfield 11, 3) := by decide +kernel
theorem dX2_isWord_4 : decode cX2_isWord 4 = .ok (.iconst 1, 1) := by decide +kernel
theorem dX2_isWord_5 : decode cX2_isWord 5 = .ok (.if_icmp .ne 19, 3) := by decide +kernel
theorem dX2_isWord_8 : decode cX2_isWord 8 = .ok (.aload_n 1, 1) := by decide +kernel
theorem dX2_isWord_9 : decode cX2_isWord 9 = .ok (.invokevirtual 100, 3) := by decide +kernel
theorem dX2_isWord_12 : decode cX2_isWord 12 = .ok (.aload_n 0, 1) := by decide +kernel
theorem dX2_isWord_13 : decode cX2_isWord 13 = .ok (.getfield 18, 3) := by decide +kernel
theorem dX2_isWord_16 : decode cX2_isWord 16 = .ok (.aload_n 0, 1) := by decide +kernel
theorem dX2_isWord_17 : decode cX2_isWord 17 = .ok (.getfield 15, 3) := by decide +kernel
theorem dX2_isWord_20 : decode cX2_isWord 20 = .ok (.isub, 1) := by decide +kernel
theorem dX2_isWord_21 : decode cX2_isWord 21 = .ok (.if_icmp .eq 5, 3) := by decide +kernel
theorem dX2_isWord_24 : decode cX2_isWord 24 = .ok (.iconst 0, 1) := by decide +kernel
theorem dX2_isWord_25 : decode cX2_isWord 25 = .ok (.ireturn, 1) := by decide +kernel
theorem dX2_isWord_26 : decode cX2_isWord 26 = .ok (.iconst 0, 1) := by decide +kernel
theorem dX2_isWord_27 : decode cX2_isWord 27 = .ok (.istore_n 2, 1) := by decide +kernel
theorem dX2_isWord_28 : decode cX2_isWord 28 = .ok (.iload_n 2, 1) := by decide +kernel
theorem dX2_isWord_29 : decode cX2_isWord 29 = .ok (.aload_n 1, 1) := by decide +kernel
theorem dX2_isWord_30 : decode cX2_isWord 30 = .ok (.invokevirtual 100, 3) := by decide +kernel
theorem dX2_isWord_33 : decode cX2_isWord 33 = .ok (.if_icmp .ge 32, 3) := by decide +kernel
theorem dX2_isWord_36 : decode cX2_isWord 36 = .ok (.aload_n 1, 1) := by decide +kernel
theorem dX2_isWord_37 : decode cX2_isWord 37 = .ok (.iload_n 2, 1) := by decide +kernel
theorem dX2_isWord_38 : decode cX2_isWord 38 = .ok (.invokevirtual 106, 3) := by decide +kernel
theorem dX2_isWord_41 : decode cX2_isWord 41 = .ok (.aload_n 0, 1) := by decide +kernel
theorem dX2_isWord_42 : decode cX2_isWord 42 = .ok (.getfield 24, 3) := by decide +kernel
theorem dX2_isWord_45 : decode cX2_isWord 45 = .ok (.aload_n 0, 1) := by decide +kernel
theorem dX2_isWord_46 : decode cX2_isWord 46 = .ok (.getfield 15, 3) := by decide +kernel
theorem dX2_isWord_49 : decode cX2_isWord 49 = .ok (.iload_n 2, 1) := by decide +kernel
theorem dX2_isWord_50 : decode cX2_isWord 50 = .ok (.iadd, 1) := by decide +kernel
theorem dX2_isWord_51 : decode cX2_isWord 51 = .ok (.invokevirtual 110, 3) := by decide +kernel
theorem dX2_isWord_54 : decode cX2_isWord 54 = .ok (.if_icmp .eq 5, 3) := by decide +kernel
theorem dX2_isWord_57 : decode cX2_isWord 57 = .ok (.iconst 0, 1) := by decide +kernel
theorem dX2_isWord_58 : decode cX2_isWord 58 = .ok (.ireturn, 1) := by decide +kernel
theorem dX2_isWord_59 : decode cX2_isWord 59 = .ok (.iinc 2 1, 3) := by decide +kernel
theorem dX2_isWord_62 : decode cX2_isWord 62 = .ok (.goto (-34), 3) := by decide +kernel
theorem dX2_isWord_65 : decode cX2_isWord 65 = .ok (.iconst 1, 1) := by decide +kernel
theorem dX2_isWord_66 : decode cX2_isWord 66 = .ok (.ireturn, 1) := by decide +kernel
theorem dX2_takeToken_0 : decode cX2_takeToken 0 = .ok (.aload_n 0, 1) := by decide +kernel
theorem dX2_takeToken_1 : decode cX2_takeToken 1 = .ok (.aload_n 0, 1) := by decide +kernel
theorem dX2_takeToken_2 : decode cX2_takeToken 2 = .ok (.getfield 18, 3) := by decide +kernel
theorem dX2_takeToken_5 : decode cX2_takeToken 5 = .ok (.putfield 15, 3) := by decide +kernel
theorem dX2_takeToken_8 : decode cX2_takeToken 8 = .ok (.aload_n 0, 1) := by decide +kernel
theorem dX2_takeToken_9 : decode cX2_takeToken 9 = .ok (.getfield 15, 3) := by decide +kernel
theorem dX2_takeToken_12 : decode cX2_takeToken 12 = .ok (.aload_n 0, 1) := by decide +kernel
theorem dX2_takeToken_13 : decode cX2_takeToken 13 = .ok (.getfield 24, 3) := by decide +kernel
theorem dX2_takeToken_16 : decode cX2_takeToken 16 = .ok (.getfield 116, 3) := by decide +kernel
theorem dX2_takeToken_19 : decode cX2_takeToken 19 = .ok (.if_icmp .ge 32, 3) := by decide +kernel
theorem dX2_takeToken_22 : decode cX2_takeToken 22 = .ok (.aload_n 0, 1) := by decide +kernel
theorem dX2_takeToken_23 : decode cX2_takeToken 23 = .ok (.getfield 24, 3) := by decide +kernel
theorem dX2_takeToken_26 : decode cX2_takeToken 26 = .ok (.aload_n 0, 1) := by decide +kernel
theorem dX2_takeToken_27 : decode cX2_takeToken 27 = .ok (.getfield 15, 3) := by decide +kernel
theorem dX2_takeToken_30 : decode cX2_takeToken 30 = .ok (.invokevirtual 110, 3) := by decide +kernel
theorem dX2_takeToken_33 : decode cX2_takeToken 33 = .ok (.bipush 32, 2) := by decide +kernel
theorem dX2_takeToken_35 : decode cX2_takeToken 35 = .ok (.if_icmp .ne 16, 3) := by decide +kernel
theorem dX2_takeToken_38 : decode cX2_takeToken 38 = .ok (.aload_n 0, 1) := by decide +kernel
theorem dX2_takeToken_39 : decode cX2_takeToken 39 = .ok (.dup, 1) := by decide +kernel
theorem dX2_takeToken_40 : decode cX2_takeToken 40 = .ok (.getfield 15, 3) := by decide +kernel
theorem dX2_takeToken_43 : decode cX2_takeToken 43 = .ok (.iconst 1, 1) := by decide +kernel
theorem dX2_takeToken_44 : decode cX2_takeToken 44 = .ok (.iadd, 1) := by decide +kernel
theorem dX2_takeToken_45 : decode cX2_takeToken 45 = .ok (.putfield 15, 3) := by decide +kernel
theorem dX2_takeToken_48 : decode cX2_takeToken 48 = .ok (.goto (-40), 3) := by decide +kernel
theorem dX2_takeToken_51 : decode cX2_takeToken 51 = .ok (.aload_n 0, 1) := by decide +kernel
theorem dX2_takeToken_52 : decode cX2_takeToken 52 = .ok (.getfield 24, 3) := by decide +kernel
theorem dX2_takeToken_55 : decode cX2_takeToken 55 = .ok (.aload_n 0, 1) := by decide +kernel
theorem dX2_takeToken_56 : decode cX2_takeToken 56 = .ok (.getfield 15, 3) := by decide +kernel
theorem dX2_takeToken_59 : decode cX2_takeToken 59 = .ok (.invokevirtual 110, 3) := by decide +kernel
theorem dX2_takeToken_62 : decode cX2_takeToken 62 = .ok (.istore_n 1, 1) := by decide +kernel
theorem dX2_takeToken_63 : decode cX2_takeToken 63 = .ok (.iload_n 1, 1) := by decide +kernel
theorem dX2_takeToken_64 : decode cX2_takeToken 64 = .ok (.iconst (-1), 1) := by decide +kernel
theorem dX2_takeToken_65 : decode cX2_takeToken 65 = .ok (.if_icmp .ne 19, 3) := by decide +kernel
theorem dX2_takeToken_68 : decode cX2_takeToken 68 = .ok (.aload_n 0, 1) := by decide +kernel
theorem dX2_takeToken_69 : decode cX2_takeToken 69 = .ok (.iconst 0, 1) := by decide +kernel
theorem dX2_takeToken_70 : decode cX2_takeToken 70 = .ok (.putfield 11, 3) := by decide +kernel
theorem dX2_takeToken_73 : decode cX2_takeToken 73 = .ok (.aload_n 0, 1) := by decide +kernel
theorem dX2_takeToken_74 : decode cX2_takeToken 74 = .ok (.aload_n 0, 1) := by decide +kernel
theorem dX2_takeToken_75 : decode cX2_takeToken 75 = .ok (.getfield 15, 3) := by decide +kernel
theorem dX2_takeToken_78 : decode cX2_takeToken 78 = .ok (.putfield 18, 3) := by decide +kernel
theorem dX2_takeToken_81 : decode cX2_takeToken 81 = .ok (.goto 56, 3) := by decide +kernel
theorem dX2_takeToken_84 : decode cX2_takeToken 84 = .ok (.iload_n 1, 1) := by decide +kernel
theorem dX2_takeToken_85 : decode cX2_takeToken 85 = .ok (.invokestatic 119, 3) := by decide +kernel
theorem dX2_takeToken_88 : decode cX2_takeToken 88 = .ok (.ifCond .eq 10, 3) := by decide +kernel
theorem dX2_takeToken_91 : decode cX2_takeToken 91 = .ok (.aload_n 0, 1) := by decide +kernel
theorem dX2_takeToken_92 : decode cX2_takeToken 92 = .ok (.invokevirtual 122, 3) := by decide +kernel
theorem dX2_takeToken_95 : decode cX2_takeToken 95 = .ok (.goto 42, 3) := by decide +kernel
theorem dX2_takeToken_98 : decode cX2_takeToken 98 = .ok (.iload_n 1, 1) := by decide +kernel
theorem dX2_takeToken_99 : decode cX2_takeToken 99 = .ok (.invokestatic 125, 3) := by decide +kernel
theorem dX2_takeToken_102 : decode cX2_takeToken 102 = .ok (.ifCond .eq 10, 3) := by decide +kernel
theorem dX2_takeToken_105 : decode cX2_takeToken 105 = .ok (.aload_n 0, 1) := by decide +kernel
theorem dX2_takeToken_106 : decode cX2_takeToken 106 = .ok (.invokevirtual 128, 3) := by decide +kernel
theorem dX2_takeToken_109 : decode cX2_takeToken 109 = .ok (.goto 28, 3) := by decide +kernel
theorem dX2_takeToken_112 : decode cX2_takeToken 112 = .ok (.aload_n 0, 1) := by decide +kernel
theorem dX2_takeToken_113 : decode cX2_takeToken 113 = .ok (.iload_n 1, 1) := by decide +kernel
theorem dX2_takeToken_114 : decode cX2_takeToken 114 = .ok (.bipush 59, 2) := by decide +kernel
theorem dX2_takeToken_116 : decode cX2_takeToken 116 = .ok (.if_icmp .ne 7, 3) := by decide +kernel
theorem dX2_takeToken_119 : decode cX2_takeToken 119 = .ok (.iconst 3, 1) := by decide +kernel
theorem dX2_takeToken_120 : decode cX2_takeToken 120 = .ok (.goto 4, 3) := by decide +kernel
theorem dX2_takeToken_123 : decode cX2_takeToken 123 = .ok (.iconst 4, 1) := by decide +kernel
theorem dX2_takeToken_124 : decode cX2_takeToken 124 = .ok (.putfield 11, 3) := by decide +kernel
theorem dX2_takeToken_127 : decode cX2_takeToken 127 = .ok (.aload_n 0, 1) := by decide +kernel
theorem dX2_takeToken_128 : decode cX2_takeToken 128 = .ok (.aload_n 0, 1) := by decide +kernel
theorem dX2_takeToken_129 : decode cX2_takeToken 129 = .ok (.getfield 15, 3) := by decide +kernel
theorem dX2_takeToken_132 : decode cX2_takeToken 132 = .ok (.iconst 1, 1) := by decide +kernel
theorem dX2_takeToken_133 : decode cX2_takeToken 133 = .ok (.iadd, 1) := by decide +kernel
theorem dX2_takeToken_134 : decode cX2_takeToken 134 = .ok (.putfield 18, 3) := by decide +kernel
theorem dX2_takeToken_137 : decode cX2_takeToken 137 = .ok (.return_, 1) := by decide +kernel
theorem dX2_takeWord_0 : decode cX2_takeWord 0 = .ok (.aload_n 0, 1) := by decide +kernel
theorem dX2_takeWord_1 : decode cX2_takeWord 1 = .ok (.iconst 1, 1) := by decide +kernel
theorem dX2_takeWord_2 : decode cX2_takeWord 2 = .ok (.putfield 11, 3) := by decide +kernel
theorem dX2_takeWord_5 : decode cX2_takeWord 5 = .ok (.aload_n 0, 1) := by decide +kernel
theorem dX2_takeWord_6 : decode cX2_takeWord 6 = .ok (.aload_n 0, 1) := by decide +kernel
theorem dX2_takeWord_7 : decode cX2_takeWord 7 = .ok (.getfield 15, 3) := by decide +kernel
theorem dX2_takeWord_10 : decode cX2_takeWord 10 = .ok (.putfield 18, 3) := by decide +kernel
theorem dX2_takeWord_13 : decode cX2_takeWord 13 = .ok (.aload_n 0, 1) := by decide +kernel
theorem dX2_takeWord_14 : decode cX2_takeWord 14 = .ok (.getfield 18, 3) := by decide +kernel
theorem dX2_takeWord_17 : decode cX2_takeWord 17 = .ok (.aload_n 0, 1) := by decide +kernel
theorem dX2_takeWord_18 : decode cX2_takeWord 18 = .ok (.getfield 24, 3) := by decide +kernel
theorem dX2_takeWord_21 : decode cX2_takeWord 21 = .ok (.getfield 116, 3) := by decide +kernel
theorem dX2_takeWord_24 : decode cX2_takeWord 24 = .ok (.if_icmp .ge 33, 3) := by decide +kernel
theorem dX2_takeWord_27 : decode cX2_takeWord 27 = .ok (.aload_n 0, 1) := by decide +kernel
theorem dX2_takeWord_28 : decode cX2_takeWord 28 = .ok (.getfield 24, 3) := by decide +kernel
theorem dX2_takeWord_31 : decode cX2_takeWord 31 = .ok (.aload_n 0, 1) := by decide +kernel
theorem dX2_takeWord_32 : decode cX2_takeWord 32 = .ok (.getfield 18, 3) := by decide +kernel
theorem dX2_takeWord_35 : decode cX2_takeWord 35 = .ok (.invokevirtual 110, 3) := by decide +kernel
theorem dX2_takeWord_38 : decode cX2_takeWord 38 = .ok (.invokestatic 119, 3) := by decide +kernel
theorem dX2_takeWord_41 : decode cX2_takeWord 41 = .ok (.ifCond .eq 16, 3) := by decide +kernel
theorem dX2_takeWord_44 : decode cX2_takeWord 44 = .ok (.aload_n 0, 1) := by decide +kernel
theorem dX2_takeWord_45 : decode cX2_takeWord 45 = .ok (.dup, 1) := by decide +kernel
theorem dX2_takeWord_46 : decode cX2_takeWord 46 = .ok (.getfield 18, 3) := by decide +kernel
theorem dX2_takeWord_49 : decode cX2_takeWord 49 = .ok (.iconst 1, 1) := by decide +kernel
theorem dX2_takeWord_50 : decode cX2_takeWord 50 = .ok (.iadd, 1) := by decide +kernel
theorem dX2_takeWord_51 : decode cX2_takeWord 51 = .ok (.putfield 18, 3) := by decide +kernel
theorem dX2_takeWord_54 : decode cX2_takeWord 54 = .ok (.goto (-41), 3) := by decide +kernel
theorem dX2_takeWord_57 : decode cX2_takeWord 57 = .ok (.return_, 1) := by decide +kernel
theorem dX2_takeNumber_0 : decode cX2_takeNumber 0 = .ok (.aload_n 0, 1) := by decide +kernel
theorem dX2_takeNumber_1 : decode cX2_takeNumber 1 = .ok (.iconst 2, 1) := by decide +kernel
theorem dX2_takeNumber_2 : decode cX2_takeNumber 2 = .ok (.putfield 11, 3) := by decide +kernel
theorem dX2_takeNumber_5 : decode cX2_takeNumber 5 = .ok (.aload_n 0, 1) := by decide +kernel
theorem dX2_takeNumber_6 : decode cX2_takeNumber 6 = .ok (.aload_n 0, 1) := by decide +kernel
theorem dX2_takeNumber_7 : decode cX2_takeNumber 7 = .ok (.getfield 15, 3) := by decide +kernel
theorem dX2_takeNumber_10 : decode cX2_takeNumber 10 = .ok (.putfield 18, 3) := by decide +kernel
theorem dX2_takeNumber_13 : decode cX2_takeNumber 13 = .ok (.aload_n 0, 1) := by decide +kernel
theorem dX2_takeNumber_14 : decode cX2_takeNumber 14 = .ok (.iconst 0, 1) := by decide +kernel
theorem dX2_takeNumber_15 : decode cX2_takeNumber 15 = .ok (.putfield 21, 3) := by decide +kernel
theorem dX2_takeNumber_18 : decode cX2_takeNumber 18 = .ok (.aload_n 0, 1) := by decide +kernel
theorem dX2_takeNumber_19 : decode cX2_takeNumber 19 = .ok (.getfield 18, 3) := by decide +kernel
theorem dX2_takeNumber_22 : decode cX2_takeNumber 22 = .ok (.aload_n 0, 1) := by decide +kernel
theorem dX2_takeNumber_23 : decode cX2_takeNumber 23 = .ok (.getfield 24, 3) := by decide +kernel
theorem dX2_takeNumber_26 : decode cX2_takeNumber 26 = .ok (.getfield 116, 3) := by decide +kernel
theorem dX2_takeNumber_29 : decode cX2_takeNumber 29 = .ok (.if_icmp .ge 65, 3) := by decide +kernel
theorem dX2_takeNumber_32 : decode cX2_takeNumber 32 = .ok (.aload_n 0, 1) := by decide +kernel
theorem dX2_takeNumber_33 : decode cX2_takeNumber 33 = .ok (.getfield 24, 3) := by decide +kernel
theorem dX2_takeNumber_36 : decode cX2_takeNumber 36 = .ok (.aload_n 0, 1) := by decide +kernel
theorem dX2_takeNumber_37 : decode cX2_takeNumber 37 = .ok (.getfield 18, 3) := by decide +kernel
theorem dX2_takeNumber_40 : decode cX2_takeNumber 40 = .ok (.invokevirtual 110, 3) := by decide +kernel
theorem dX2_takeNumber_43 : decode cX2_takeNumber 43 = .ok (.invokestatic 125, 3) := by decide +kernel
theorem dX2_takeNumber_46 : decode cX2_takeNumber 46 = .ok (.ifCond .eq 48, 3) := by decide +kernel
theorem dX2_takeNumber_49 : decode cX2_takeNumber 49 = .ok (.aload_n 0, 1) := by decide +kernel
theorem dX2_takeNumber_50 : decode cX2_takeNumber 50 = .ok (.sipush 1000, 3) := by decide +kernel
theorem dX2_takeNumber_53 : decode cX2_takeNumber 53 = .ok (.aload_n 0, 1) := by decide +kernel
theorem dX2_takeNumber_54 : decode cX2_takeNumber 54 = .ok (.getfield 21, 3) := by decide +kernel
theorem dX2_takeNumber_57 : decode cX2_takeNumber 57 = .ok (.bipush 10, 2) := by decide +kernel
theorem dX2_takeNumber_59 : decode cX2_takeNumber 59 = .ok (.imul, 1) := by decide +kernel
theorem dX2_takeNumber_60 : decode cX2_takeNumber 60 = .ok (.aload_n 0, 1) := by decide +kernel
theorem dX2_takeNumber_61 : decode cX2_takeNumber 61 = .ok (.getfield 24, 3) := by decide +kernel
theorem dX2_takeNumber_64 : decode cX2_takeNumber 64 = .ok (.aload_n 0, 1) := by decide +kernel
theorem dX2_takeNumber_65 : decode cX2_takeNumber 65 = .ok (.getfield 18, 3) := by decide +kernel
theorem dX2_takeNumber_68 : decode cX2_takeNumber 68 = .ok (.invokevirtual 110, 3) := by decide +kernel
theorem dX2_takeNumber_71 : decode cX2_takeNumber 71 = .ok (.iadd, 1) := by decide +kernel
theorem dX2_takeNumber_72 : decode cX2_takeNumber 72 = .ok (.bipush 48, 2) := by decide +kernel
theorem dX2_takeNumber_74 : decode cX2_takeNumber 74 = .ok (.isub, 1) := by decide +kernel
theorem dX2_takeNumber_75 : decode cX2_takeNumber 75 = .ok (.invokestatic 131, 3) := by decide +kernel
theorem dX2_takeNumber_78 : decode cX2_takeNumber 78 = .ok (.putfield 21, 3) := by decide +kernel
theorem dX2_takeNumber_81 : decode cX2_takeNumber 81 = .ok (.aload_n 0, 1) := by decide +kernel
theorem dX2_takeNumber_82 : decode cX2_takeNumber 82 = .ok (.dup, 1) := by decide +kernel
theorem dX2_takeNumber_83 : decode cX2_takeNumber 83 = .ok (.getfield 18, 3) := by decide +kernel
theorem dX2_takeNumber_86 : decode cX2_takeNumber 86 = .ok (.iconst 1, 1) := by decide +kernel
theorem dX2_takeNumber_87 : decode cX2_takeNumber 87 = .ok (.iadd, 1) := by decide +kernel
theorem dX2_takeNumber_88 : decode cX2_takeNumber 88 = .ok (.putfield 18, 3) := by decide +kernel
theorem dX2_takeNumber_91 : decode cX2_takeNumber 91 = .ok (.goto (-73), 3) := by decide +kernel
theorem dX2_takeNumber_94 : decode cX2_takeNumber 94 = .ok (.return_, 1) := by decide +kernel
theorem dX2_isLetter_0 : decode cX2_isLetter 0 = .ok (.iload_n 0, 1) := by decide +kernel
theorem dX2_isLetter_1 : decode cX2_isLetter 1 = .ok (.bipush 97, 2) := by decide +kernel
theorem dX2_isLetter_3 : decode cX2_isLetter 3 = .ok (.if_icmp .lt 13, 3) := by decide +kernel
theorem dX2_isLetter_6 : decode cX2_isLetter 6 = .ok (.iload_n 0, 1) := by decide +kernel
theorem dX2_isLetter_7 : decode cX2_isLetter 7 = .ok (.bipush 122, 2) := by decide +kernel
theorem dX2_isLetter_9 : decode cX2_isLetter 9 = .ok (.if_icmp .gt 7, 3) := by decide +kernel
theorem dX2_isLetter_12 : decode cX2_isLetter 12 = .ok (.iconst 1, 1) := by decide +kernel
theorem dX2_isLetter_13 : decode cX2_isLetter 13 = .ok (.goto 4, 3) := by decide +kernel
theorem dX2_isLetter_16 : decode cX2_isLetter 16 = .ok (.iconst 0, 1) := by decide +kernel
theorem dX2_isLetter_17 : decode cX2_isLetter 17 = .ok (.ireturn, 1) := by decide +kernel
theorem dX2_isDigit_0 : decode cX2_isDigit 0 = .ok (.iload_n 0, 1) := by decide +kernel
theorem dX2_isDigit_1 : decode cX2_isDigit 1 = .ok (.bipush 48, 2) := by decide +kernel
theorem dX2_isDigit_3 : decode cX2_isDigit 3 = .ok (.if_icmp .lt 13, 3) := by decide +kernel
theorem dX2_isDigit_6 : decode cX2_isDigit 6 = .ok (.iload_n 0, 1) := by decide +kernel
theorem dX2_isDigit_7 : decode cX2_isDigit 7 = .ok (.bipush 57, 2) := by decide +kernel
theorem dX2_isDigit_9 : decode cX2_isDigit 9 = .ok (.if_icmp .gt 7, 3) := by decide +kernel
theorem dX2_isDigit_12 : decode cX2_isDigit 12 = .ok (.iconst 1, 1) := by decide +kernel
theorem dX2_isDigit_13 : decode cX2_isDigit 13 = .ok (.goto 4, 3) := by decide +kernel
theorem dX2_isDigit_16 : decode cX2_isDigit 16 = .ok (.iconst 0, 1) := by decide +kernel
theorem dX2_isDigit_17 : decode cX2_isDigit 17 = .ok (.ireturn, 1) := by decide +kernel
theorem dX2_wordOf_0 : decode cX2_wordOf 0 = .ok (.iload_n 0, 1) := by decide +kernel
theorem dX2_wordOf_1 : decode cX2_wordOf 1 = .ok (.tableswitch 64 0 6 #[43, 46, 49, 52, 55, 58, 61], 43) := by decide +kernel
theorem dX2_wordOf_44 : decode cX2_wordOf 44 = .ok (.ldc 136, 2) := by decide +kernel
theorem dX2_wordOf_46 : decode cX2_wordOf 46 = .ok (.areturn, 1) := by decide +kernel
theorem dX2_wordOf_47 : decode cX2_wordOf 47 = .ok (.ldc 138, 2) := by decide +kernel
theorem dX2_wordOf_49 : decode cX2_wordOf 49 = .ok (.areturn, 1) := by decide +kernel
theorem dX2_wordOf_50 : decode cX2_wordOf 50 = .ok (.ldc 140, 2) := by decide +kernel
theorem dX2_wordOf_52 : decode cX2_wordOf 52 = .ok (.areturn, 1) := by decide +kernel
theorem dX2_wordOf_53 : decode cX2_wordOf 53 = .ok (.ldc 142, 2) := by decide +kernel
theorem dX2_wordOf_55 : decode cX2_wordOf 55 = .ok (.areturn, 1) := by decide +kernel
theorem dX2_wordOf_56 : decode cX2_wordOf 56 = .ok (.ldc 144, 2) := by decide +kernel
theorem dX2_wordOf_58 : decode cX2_wordOf 58 = .ok (.areturn, 1) := by decide +kernel
theorem dX2_wordOf_59 : decode cX2_wordOf 59 = .ok (.ldc 146, 2) := by decide +kernel
theorem dX2_wordOf_61 : decode cX2_wordOf 61 = .ok (.areturn, 1) := by decide +kernel
theorem dX2_wordOf_62 : decode cX2_wordOf 62 = .ok (.ldc 148, 2) := by decide +kernel
theorem dX2_wordOf_64 : decode cX2_wordOf 64 = .ok (.areturn, 1) := by decide +kernel
theorem dX2_wordOf_65 : decode cX2_wordOf 65 = .ok (.ldc 150, 2) := by decide +kernel
theorem dX2_wordOf_67 : decode cX2_wordOf 67 = .ok (.areturn, 1) := by decide +kernel
