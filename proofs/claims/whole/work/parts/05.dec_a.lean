theorem dJ0_length_8abf5_0 : decode cJ0_length_8abf5 0 = .ok (.aload_n 0, 1) := by decide +kernel
theorem dJ0_length_8abf5_1 : decode cJ0_length_8abf5 1 = .ok (.getfield 9, 3) := by decide +kernel
theorem dJ0_length_8abf5_4 : decode cJ0_length_8abf5 4 = .ok (.arraylength, 1) := by decide +kernel
theorem dJ0_length_8abf5_5 : decode cJ0_length_8abf5 5 = .ok (.aload_n 0, 1) := by decide +kernel
theorem dJ0_length_8abf5_6 : decode cJ0_length_8abf5 6 = .ok (.invokevirtual 335, 3) := by decide +kernel
theorem dJ0_length_8abf5_9 : decode cJ0_length_8abf5 9 = .ok (.ishr, 1) := by decide +kernel
theorem dJ0_length_8abf5_10 : decode cJ0_length_8abf5 10 = .ok (.ireturn, 1) := by decide +kernel
theorem dJ0_charAt_5068e_0 : decode cJ0_charAt_5068e 0 = .ok (.aload_n 0, 1) := by decide +kernel
theorem dJ0_charAt_5068e_1 : decode cJ0_charAt_5068e 1 = .ok (.invokevirtual 492, 3) := by decide +kernel
theorem dJ0_charAt_5068e_4 : decode cJ0_charAt_5068e 4 = .ok (.ifCond .eq 12, 3) := by decide +kernel
theorem dJ0_charAt_5068e_7 : decode cJ0_charAt_5068e 7 = .ok (.aload_n 0, 1) := by decide +kernel
theorem dJ0_charAt_5068e_8 : decode cJ0_charAt_5068e 8 = .ok (.getfield 9, 3) := by decide +kernel
theorem dJ0_charAt_5068e_11 : decode cJ0_charAt_5068e 11 = .ok (.iload_n 1, 1) := by decide +kernel
theorem dJ0_charAt_5068e_12 : decode cJ0_charAt_5068e 12 = .ok (.invokestatic 495, 3) := by decide +kernel
theorem dJ0_charAt_5068e_15 : decode cJ0_charAt_5068e 15 = .ok (.ireturn, 1) := by decide +kernel
theorem dJ0_charAt_5068e_16 : decode cJ0_charAt_5068e 16 = .ok (.aload_n 0, 1) := by decide +kernel
theorem dJ0_charAt_5068e_17 : decode cJ0_charAt_5068e 17 = .ok (.getfield 9, 3) := by decide +kernel
theorem dJ0_charAt_5068e_20 : decode cJ0_charAt_5068e 20 = .ok (.iload_n 1, 1) := by decide +kernel
theorem dJ0_charAt_5068e_21 : decode cJ0_charAt_5068e 21 = .ok (.invokestatic 498, 3) := by decide +kernel
theorem dJ0_charAt_5068e_24 : decode cJ0_charAt_5068e 24 = .ok (.ireturn, 1) := by decide +kernel
theorem dJ0_coder_7d493_0 : decode cJ0_coder_7d493 0 = .ok (.getstatic 38, 3) := by decide +kernel
theorem dJ0_coder_7d493_3 : decode cJ0_coder_7d493 3 = .ok (.ifCond .eq 10, 3) := by decide +kernel
theorem dJ0_coder_7d493_6 : decode cJ0_coder_7d493 6 = .ok (.aload_n 0, 1) := by decide +kernel
theorem dJ0_coder_7d493_7 : decode cJ0_coder_7d493 7 = .ok (.getfield 15, 3) := by decide +kernel
theorem dJ0_coder_7d493_10 : decode cJ0_coder_7d493 10 = .ok (.goto 4, 3) := by decide +kernel
theorem dJ0_coder_7d493_13 : decode cJ0_coder_7d493 13 = .ok (.iconst 1, 1) := by decide +kernel
theorem dJ0_coder_7d493_14 : decode cJ0_coder_7d493 14 = .ok (.ireturn, 1) := by decide +kernel
theorem dJ0_isLatin1_aae02_0 : decode cJ0_isLatin1_aae02 0 = .ok (.getstatic 38, 3) := by decide +kernel
theorem dJ0_isLatin1_aae02_3 : decode cJ0_isLatin1_aae02 3 = .ok (.ifCond .eq 14, 3) := by decide +kernel
theorem dJ0_isLatin1_aae02_6 : decode cJ0_isLatin1_aae02 6 = .ok (.aload_n 0, 1) := by decide +kernel
theorem dJ0_isLatin1_aae02_7 : decode cJ0_isLatin1_aae02 7 = .ok (.getfield 15, 3) := by decide +kernel
theorem dJ0_isLatin1_aae02_10 : decode cJ0_isLatin1_aae02 10 = .ok (.ifCond .ne 7, 3) := by decide +kernel
theorem dJ0_isLatin1_aae02_13 : decode cJ0_isLatin1_aae02 13 = .ok (.iconst 1, 1) := by decide +kernel
theorem dJ0_isLatin1_aae02_14 : decode cJ0_isLatin1_aae02 14 = .ok (.goto 4, 3) := by decide +kernel
theorem dJ0_isLatin1_aae02_17 : decode cJ0_isLatin1_aae02 17 = .ok (.iconst 0, 1) := by decide +kernel
theorem dJ0_isLatin1_aae02_18 : decode cJ0_isLatin1_aae02 18 = .ok (.ireturn, 1) := by decide +kernel
theorem dJ0_checkIndex_df160_0 : decode cJ0_checkIndex_df160 0 = .ok (.iload_n 0, 1) := by decide +kernel
theorem dJ0_checkIndex_df160_1 : decode cJ0_checkIndex_df160 1 = .ok (.iload_n 1, 1) := by decide +kernel
theorem dJ0_checkIndex_df160_2 : decode cJ0_checkIndex_df160 2 = .ok (.getstatic 1053, 3) := by decide +kernel
theorem dJ0_checkIndex_df160_5 : decode cJ0_checkIndex_df160 5 = .ok (.invokestatic 1059, 3) := by decide +kernel
theorem dJ0_checkIndex_df160_8 : decode cJ0_checkIndex_df160 8 = .ok (.pop, 1) := by decide +kernel
theorem dJ0_checkIndex_df160_9 : decode cJ0_checkIndex_df160 9 = .ok (.return_, 1) := by decide +kernel
theorem dJ1_charAt_3b067_0 : decode cJ1_charAt_3b067 0 = .ok (.iload_n 1, 1) := by decide +kernel
theorem dJ1_charAt_3b067_1 : decode cJ1_charAt_3b067 1 = .ok (.aload_n 0, 1) := by decide +kernel
theorem dJ1_charAt_3b067_2 : decode cJ1_charAt_3b067 2 = .ok (.arraylength, 1) := by decide +kernel
theorem dJ1_charAt_3b067_3 : decode cJ1_charAt_3b067 3 = .ok (.invokestatic 9, 3) := by decide +kernel
theorem dJ1_charAt_3b067_6 : decode cJ1_charAt_3b067 6 = .ok (.aload_n 0, 1) := by decide +kernel
theorem dJ1_charAt_3b067_7 : decode cJ1_charAt_3b067 7 = .ok (.iload_n 1, 1) := by decide +kernel
theorem dJ1_charAt_3b067_8 : decode cJ1_charAt_3b067 8 = .ok (.baload, 1) := by decide +kernel
theorem dJ1_charAt_3b067_9 : decode cJ1_charAt_3b067 9 = .ok (.sipush 255, 3) := by decide +kernel
theorem dJ1_charAt_3b067_12 : decode cJ1_charAt_3b067 12 = .ok (.iand, 1) := by decide +kernel
theorem dJ1_charAt_3b067_13 : decode cJ1_charAt_3b067 13 = .ok (.i2c, 1) := by decide +kernel
theorem dJ1_charAt_3b067_14 : decode cJ1_charAt_3b067 14 = .ok (.ireturn, 1) := by decide +kernel
theorem dJ2_getChar_3b067_0 : decode cJ2_getChar_3b067 0 = .ok (.getstatic 44, 3) := by decide +kernel
theorem dJ2_getChar_3b067_3 : decode cJ2_getChar_3b067 3 = .ok (.ifCond .ne 25, 3) := by decide +kernel
theorem dJ2_getChar_3b067_6 : decode cJ2_getChar_3b067 6 = .ok (.iload_n 1, 1) := by decide +kernel
theorem dJ2_getChar_3b067_7 : decode cJ2_getChar_3b067 7 = .ok (.ifCond .lt 11, 3) := by decide +kernel
theorem dJ2_getChar_3b067_10 : decode cJ2_getChar_3b067 10 = .ok (.iload_n 1, 1) := by decide +kernel
theorem dJ2_getChar_3b067_11 : decode cJ2_getChar_3b067 11 = .ok (.aload_n 0, 1) := by decide +kernel
theorem dJ2_getChar_3b067_12 : decode cJ2_getChar_3b067 12 = .ok (.invokestatic 48, 3) := by decide +kernel
theorem dJ2_getChar_3b067_15 : decode cJ2_getChar_3b067 15 = .ok (.if_icmp .lt 13, 3) := by decide +kernel
theorem dJ2_getChar_3b067_18 : decode cJ2_getChar_3b067 18 = .ok (.new 52, 3) := by decide +kernel
theorem dJ2_getChar_3b067_21 : decode cJ2_getChar_3b067 21 = .ok (.dup, 1) := by decide +kernel
theorem dJ2_getChar_3b067_22 : decode cJ2_getChar_3b067 22 = .ok (.ldc 54, 2) := by decide +kernel
theorem dJ2_getChar_3b067_24 : decode cJ2_getChar_3b067 24 = .ok (.invokespecial 56, 3) := by decide +kernel
theorem dJ2_getChar_3b067_27 : decode cJ2_getChar_3b067 27 = .ok (.athrow, 1) := by decide +kernel
theorem dJ2_getChar_3b067_28 : decode cJ2_getChar_3b067 28 = .ok (.iload_n 1, 1) := by decide +kernel
theorem dJ2_getChar_3b067_29 : decode cJ2_getChar_3b067 29 = .ok (.iconst 1, 1) := by decide +kernel
theorem dJ2_getChar_3b067_30 : decode cJ2_getChar_3b067 30 = .ok (.ishl, 1) := by decide +kernel
theorem dJ2_getChar_3b067_31 : decode cJ2_getChar_3b067 31 = .ok (.istore_n 1, 1) := by decide +kernel
theorem dJ2_getChar_3b067_32 : decode cJ2_getChar_3b067 32 = .ok (.aload_n 0, 1) := by decide +kernel
theorem dJ2_getChar_3b067_33 : decode cJ2_getChar_3b067 33 = .ok (.iload_n 1, 1) := by decide +kernel
theorem dJ2_getChar_3b067_34 : decode cJ2_getChar_3b067 34 = .ok (.iinc 1 1, 3) := by decide +kernel
theorem dJ2_getChar_3b067_37 : decode cJ2_getChar_3b067 37 = .ok (.baload, 1) := by decide +kernel
theorem dJ2_getChar_3b067_38 : decode cJ2_getChar_3b067 38 = .ok (.sipush 255, 3) := by decide +kernel
theorem dJ2_getChar_3b067_41 : decode cJ2_getChar_3b067 41 = .ok (.iand, 1) := by decide +kernel
theorem dJ2_getChar_3b067_42 : decode cJ2_getChar_3b067 42 = .ok (.getstatic 59, 3) := by decide +kernel
theorem dJ2_getChar_3b067_45 : decode cJ2_getChar_3b067 45 = .ok (.ishl, 1) := by decide +kernel
theorem dJ2_getChar_3b067_46 : decode cJ2_getChar_3b067 46 = .ok (.aload_n 0, 1) := by decide +kernel
theorem dJ2_getChar_3b067_47 : decode cJ2_getChar_3b067 47 = .ok (.iload_n 1, 1) := by decide +kernel
theorem dJ2_getChar_3b067_48 : decode cJ2_getChar_3b067 48 = .ok (.baload, 1) := by decide +kernel
theorem dJ2_getChar_3b067_49 : decode cJ2_getChar_3b067 49 = .ok (.sipush 255, 3) := by decide +kernel
theorem dJ2_getChar_3b067_52 : decode cJ2_getChar_3b067 52 = .ok (.iand, 1) := by decide +kernel
theorem dJ2_getChar_3b067_53 : decode cJ2_getChar_3b067 53 = .ok (.getstatic 63, 3) := by decide +kernel
theorem dJ2_getChar_3b067_56 : decode cJ2_getChar_3b067 56 = .ok (.ishl, 1) := by decide +kernel
theorem dJ2_getChar_3b067_57 : decode cJ2_getChar_3b067 57 = .ok (.ior, 1) := by decide +kernel
theorem dJ2_getChar_3b067_58 : decode cJ2_getChar_3b067 58 = .ok (.i2c, 1) := by decide +kernel
theorem dJ2_getChar_3b067_59 : decode cJ2_getChar_3b067 59 = .ok (.ireturn, 1) := by decide +kernel
theorem dJ2_length_9d52b_0 : decode cJ2_length_9d52b 0 = .ok (.aload_n 0, 1) := by decide +kernel
theorem dJ2_length_9d52b_1 : decode cJ2_length_9d52b 1 = .ok (.arraylength, 1) := by decide +kernel
theorem dJ2_length_9d52b_2 : decode cJ2_length_9d52b 2 = .ok (.iconst 1, 1) := by decide +kernel
theorem dJ2_length_9d52b_3 : decode cJ2_length_9d52b 3 = .ok (.ishr, 1) := by decide +kernel
theorem dJ2_length_9d52b_4 : decode cJ2_length_9d52b 4 = .ok (.ireturn, 1) := by decide +kernel
theorem dJ2_charAt_3b067_0 : decode cJ2_charAt_3b067 0 = .ok (.iload_n 1, 1) := by decide +kernel
theorem dJ2_charAt_3b067_1 : decode cJ2_charAt_3b067 1 = .ok (.aload_n 0, 1) := by decide +kernel
theorem dJ2_charAt_3b067_2 : decode cJ2_charAt_3b067 2 = .ok (.invokestatic 67, 3) := by decide +kernel
theorem dJ2_charAt_3b067_5 : decode cJ2_charAt_3b067 5 = .ok (.aload_n 0, 1) := by decide +kernel
theorem dJ2_charAt_3b067_6 : decode cJ2_charAt_3b067 6 = .ok (.iload_n 1, 1) := by decide +kernel
theorem dJ2_charAt_3b067_7 : decode cJ2_charAt_3b067 7 = .ok (.invokestatic 71, 3) := by decide +kernel
theorem dJ2_charAt_3b067_10 : decode cJ2_charAt_3b067 10 = .ok (.ireturn, 1) := by decide +kernel
theorem dJ2_checkIndex_2214a_0 : decode cJ2_checkIndex_2214a 0 = .ok (.iload_n 0, 1) := by decide +kernel
theorem dJ2_checkIndex_2214a_1 : decode cJ2_checkIndex_2214a 1 = .ok (.aload_n 1, 1) := by decide +kernel
theorem dJ2_checkIndex_2214a_2 : decode cJ2_checkIndex_2214a 2 = .ok (.invokestatic 48, 3) := by decide +kernel
theorem dJ2_checkIndex_2214a_5 : decode cJ2_checkIndex_2214a 5 = .ok (.invokestatic 414, 3) := by decide +kernel
theorem dJ2_checkIndex_2214a_8 : decode cJ2_checkIndex_2214a 8 = .ok (.return_, 1) := by decide +kernel
theorem dJ3_checkIndex_8e157_0 : decode cJ3_checkIndex_8e157 0 = .ok (.iload_n 0, 1) := by decide +kernel
theorem dJ3_checkIndex_8e157_1 : decode cJ3_checkIndex_8e157 1 = .ok (.ifCond .lt 8, 3) := by decide +kernel
theorem dJ3_checkIndex_8e157_4 : decode cJ3_checkIndex_8e157 4 = .ok (.iload_n 0, 1) := by decide +kernel
theorem dJ3_checkIndex_8e157_5 : decode cJ3_checkIndex_8e157 5 = .ok (.iload_n 1, 1) := by decide +kernel
theorem dJ3_checkIndex_8e157_6 : decode cJ3_checkIndex_8e157 6 = .ok (.if_icmp .lt 10, 3) := by decide +kernel
theorem dJ3_checkIndex_8e157_9 : decode cJ3_checkIndex_8e157 9 = .ok (.aload_n 2, 1) := by decide +kernel
theorem dJ3_checkIndex_8e157_10 : decode cJ3_checkIndex_8e157 10 = .ok (.iload_n 0, 1) := by decide +kernel
theorem dJ3_checkIndex_8e157_11 : decode cJ3_checkIndex_8e157 11 = .ok (.iload_n 1, 1) := by decide +kernel
theorem dJ3_checkIndex_8e157_12 : decode cJ3_checkIndex_8e157 12 = .ok (.invokestatic 95, 3) := by decide +kernel
theorem dJ3_checkIndex_8e157_15 : decode cJ3_checkIndex_8e157 15 = .ok (.athrow, 1) := by decide +kernel
theorem dJ3_checkIndex_8e157_16 : decode cJ3_checkIndex_8e157 16 = .ok (.iload_n 0, 1) := by decide +kernel
theorem dJ3_checkIndex_8e157_17 : decode cJ3_checkIndex_8e157 17 = .ok (.ireturn, 1) := by decide +kernel
theorem dJ6_bitCount_0f7a4_0 : decode cJ6_bitCount_0f7a4 0 = .ok (.iload_n 0, 1) := by decide +kernel
theorem dJ6_bitCount_0f7a4_1 : decode cJ6_bitCount_0f7a4 1 = .ok (.iload_n 0, 1) := by decide +kernel
theorem dJ6_bitCount_0f7a4_2 : decode cJ6_bitCount_0f7a4 2 = .ok (.iconst 1, 1) := by decide +kernel
theorem dJ6_bitCount_0f7a4_3 : decode cJ6_bitCount_0f7a4 3 = .ok (.iushr, 1) := by decide +kernel
theorem dJ6_bitCount_0f7a4_4 : decode cJ6_bitCount_0f7a4 4 = .ok (.ldc_w 265, 3) := by decide +kernel
theorem dJ6_bitCount_0f7a4_7 : decode cJ6_bitCount_0f7a4 7 = .ok (.iand, 1) := by decide +kernel
theorem dJ6_bitCount_0f7a4_8 : decode cJ6_bitCount_0f7a4 8 = .ok (.isub, 1) := by decide +kernel
theorem dJ6_bitCount_0f7a4_9 : decode cJ6_bitCount_0f7a4 9 = .ok (.istore_n 0, 1) := by decide +kernel
theorem dJ6_bitCount_0f7a4_10 : decode cJ6_bitCount_0f7a4 10 = .ok (.iload_n 0, 1) := by decide +kernel
theorem dJ6_bitCount_0f7a4_11 : decode cJ6_bitCount_0f7a4 11 = .ok (.ldc_w 266, 3) := by decide +kernel
theorem dJ6_bitCount_0f7a4_14 : decode cJ6_bitCount_0f7a4 14 = .ok (.iand, 1) := by decide +kernel
theorem dJ6_bitCount_0f7a4_15 : decode cJ6_bitCount_0f7a4 15 = .ok (.iload_n 0, 1) := by decide +kernel
theorem dJ6_bitCount_0f7a4_16 : decode cJ6_bitCount_0f7a4 16 = .ok (.iconst 2, 1) := by decide +kernel
theorem dJ6_bitCount_0f7a4_17 : decode cJ6_bitCount_0f7a4 17 = .ok (.iushr, 1) := by decide +kernel
theorem dJ6_bitCount_0f7a4_18 : decode cJ6_bitCount_0f7a4 18 = .ok (.ldc_w 266, 3) := by decide +kernel
theorem dJ6_bitCount_0f7a4_21 : decode cJ6_bitCount_0f7a4 21 = .ok (.iand, 1) := by decide +kernel
theorem dJ6_bitCount_0f7a4_22 : decode cJ6_bitCount_0f7a4 22 = .ok (.iadd, 1) := by decide +kernel
theorem dJ6_bitCount_0f7a4_23 : decode cJ6_bitCount_0f7a4 23 = .ok (.istore_n 0, 1) := by decide +kernel
theorem dJ6_bitCount_0f7a4_24 : decode cJ6_bitCount_0f7a4 24 = .ok (.iload_n 0, 1) := by decide +kernel
theorem dJ6_bitCount_0f7a4_25 : decode cJ6_bitCount_0f7a4 25 = .ok (.iload_n 0, 1) := by decide +kernel
theorem dJ6_bitCount_0f7a4_26 : decode cJ6_bitCount_0f7a4 26 = .ok (.iconst 4, 1) := by decide +kernel
theorem dJ6_bitCount_0f7a4_27 : decode cJ6_bitCount_0f7a4 27 = .ok (.iushr, 1) := by decide +kernel
theorem dJ6_bitCount_0f7a4_28 : decode cJ6_bitCount_0f7a4 28 = .ok (.iadd, 1) := by decide +kernel
theorem dJ6_bitCount_0f7a4_29 : decode cJ6_bitCount_0f7a4 29 = .ok (.ldc_w 267, 3) := by decide +kernel
theorem dJ6_bitCount_0f7a4_32 : decode cJ6_bitCount_0f7a4 32 = .ok (.iand, 1) := by decide +kernel
theorem dJ6_bitCount_0f7a4_33 : decode cJ6_bitCount_0f7a4 33 = .ok (.istore_n 0, 1) := by decide +kernel
theorem dJ6_bitCount_0f7a4_34 : decode cJ6_bitCount_0f7a4 34 = .ok (.iload_n 0, 1) := by decide +kernel
theorem dJ6_bitCount_0f7a4_35 : decode cJ6_bitCount_0f7a4 35 = .ok (.iload_n 0, 1) := by decide +kernel
theorem dJ6_bitCount_0f7a4_36 : decode cJ6_bitCount_0f7a4 36 = .ok (.bipush 8, 2) := by decide +kernel
theorem dJ6_bitCount_0f7a4_38 : decode cJ6_bitCount_0f7a4 38 = .ok (.iushr, 1) := by decide +kernel
theorem dJ6_bitCount_0f7a4_39 : decode cJ6_bitCount_0f7a4 39 = .ok (.iadd, 1) := by decide +kernel
theorem dJ6_bitCount_0f7a4_40 : decode cJ6_bitCount_0f7a4 40 = .ok (.istore_n 0, 1) := by decide +kernel
theorem dJ6_bitCount_0f7a4_41 : decode cJ6_bitCount_0f7a4 41 = .ok (.iload_n 0, 1) := by decide +kernel
theorem dJ6_bitCount_0f7a4_42 : decode cJ6_bitCount_0f7a4 42 = .ok (.iload_n 0, 1) := by decide +kernel
theorem dJ6_bitCount_0f7a4_43 : decode cJ6_bitCount_0f7a4 43 = .ok (.bipush 16, 2) := by decide +kernel
theorem dJ6_bitCount_0f7a4_45 : decode cJ6_bitCount_0f7a4 45 = .ok (.iushr, 1) := by decide +kernel
theorem dJ6_bitCount_0f7a4_46 : decode cJ6_bitCount_0f7a4 46 = .ok (.iadd, 1) := by decide +kernel
theorem dJ6_bitCount_0f7a4_47 : decode cJ6_bitCount_0f7a4 47 = .ok (.istore_n 0, 1) := by decide +kernel
theorem dJ6_bitCount_0f7a4_48 : decode cJ6_bitCount_0f7a4 48 = .ok (.iload_n 0, 1) := by decide +kernel
theorem dJ6_bitCount_0f7a4_49 : decode cJ6_bitCount_0f7a4 49 = .ok (.bipush 63, 2) := by decide +kernel
theorem dJ6_bitCount_0f7a4_51 : decode cJ6_bitCount_0f7a4 51 = .ok (.iand, 1) := by decide +kernel
theorem dJ6_bitCount_0f7a4_52 : decode cJ6_bitCount_0f7a4 52 = .ok (.ireturn, 1) := by decide +kernel
theorem dJ9_abs_0f7a4_0 : decode cJ9_abs_0f7a4 0 = .ok (.iload_n 0, 1) := by decide +kernel
theorem dJ9_abs_0f7a4_1 : decode cJ9_abs_0f7a4 1 = .ok (.ifCond .ge 8, 3) := by decide +kernel
theorem dJ9_abs_0f7a4_4 : decode cJ9_abs_0f7a4 4 = .ok (.iload_n 0, 1) := by decide +kernel
theorem dJ9_abs_0f7a4_5 : decode cJ9_abs_0f7a4 5 = .ok (.ineg, 1) := by decide +kernel
theorem dJ9_abs_0f7a4_6 : decode cJ9_abs_0f7a4 6 = .ok (.goto 4, 3) := by decide +kernel
theorem dJ9_abs_0f7a4_9 : decode cJ9_abs_0f7a4 9 = .ok (.iload_n 0, 1) := by decide +kernel
theorem dJ9_abs_0f7a4_10 : decode cJ9_abs_0f7a4 10 = .ok (.ireturn, 1) := by decide +kernel
theorem dJ9_max_7cf53_0 : decode cJ9_max_7cf53 0 = .ok (.iload_n 0, 1) := by decide +kernel
theorem dJ9_max_7cf53_1 : decode cJ9_max_7cf53 1 = .ok (.iload_n 1, 1) := by decide +kernel
theorem dJ9_max_7cf53_2 : decode cJ9_max_7cf53 2 = .ok (.if_icmp .lt 7, 3) := by decide +kernel
theorem dJ9_max_7cf53_5 : decode cJ9_max_7cf53 5 = .ok (.iload_n 0, 1) := by decide +kernel
theorem dJ9_max_7cf53_6 : decode cJ9_max_7cf53 6 = .ok (.goto 4, 3) := by decide +kernel
theorem dJ9_max_7cf53_9 : decode cJ9_max_7cf53 9 = .ok (.iload_n 1, 1) := by decide +kernel
theorem dJ9_max_7cf53_10 : decode cJ9_max_7cf53 10 = .ok (.ireturn, 1) := by decide +kernel
theorem dJ9_min_7cf53_0 : decode cJ9_min_7cf53 0 = .ok (.iload_n 0, 1) := by decide +kernel
theorem dJ9_min_7cf53_1 : decode cJ9_min_7cf53 1 = .ok (.iload_n 1, 1) := by decide +kernel
theorem dJ9_min_7cf53_2 : decode cJ9_min_7cf53 2 = .ok (.if_icmp .gt 7, 3) := by decide +kernel
theorem dJ9_min_7cf53_5 : decode cJ9_min_7cf53 5 = .ok (.iload_n 0, 1) := by decide +kernel
theorem dJ9_min_7cf53_6 : decode cJ9_min_7cf53 6 = .ok (.goto 4, 3) := by decide +kernel
theorem dJ9_min_7cf53_9 : decode cJ9_min_7cf53 9 = .ok (.iload_n 1, 1) := by decide +kernel
theorem dJ9_min_7cf53_10 : decode cJ9_min_7cf53 10 = .ok (.ireturn, 1) := by decide +kernel
theorem dL_law_0 : decode cL_law 0 = .ok (.new 7, 3) := by decide +kernel
theorem dL_law_3 : decode cL_law 3 = .ok (.dup, 1) := by decide +kernel
theorem dL_law_4 : decode cL_law 4 = .ok (.invokespecial 9, 3) := by decide +kernel
theorem dL_law_7 : decode cL_law 7 = .ok (.astore_n 1, 1) := by decide +kernel
theorem dL_law_8 : decode cL_law 8 = .ok (.new 10, 3) := by decide +kernel
theorem dL_law_11 : decode cL_law 11 = .ok (.dup, 1) := by decide +kernel
theorem dL_law_12 : decode cL_law 12 = .ok (.invokespecial 12, 3) := by decide +kernel
theorem dL_law_15 : decode cL_law 15 = .ok (.astore_n 2, 1) := by decide +kernel
theorem dL_law_16 : decode cL_law 16 = .ok (.iconst 0, 1) := by decide +kernel
theorem dL_law_17 : decode cL_law 17 = .ok (.istore_n 3, 1) := by decide +kernel
theorem dL_law_18 : decode cL_law 18 = .ok (.iload_n 3, 1) := by decide +kernel
theorem dL_law_19 : decode cL_law 19 = .ok (.aload_n 0, 1) := by decide +kernel
theorem dL_law_20 : decode cL_law 20 = .ok (.arraylength, 1) := by decide +kernel
theorem dL_law_21 : decode cL_law 21 = .ok (.bipush 6, 2) := by decide +kernel
theorem dL_law_23 : decode cL_law 23 = .ok (.isub, 1) := by decide +kernel
theorem dL_law_24 : decode cL_law 24 = .ok (.if_icmp .gt 1008, 3) := by decide +kernel
theorem dL_law_27 : decode cL_law 27 = .ok (.aload_n 0, 1) := by decide +kernel
theorem dL_law_28 : decode cL_law 28 = .ok (.iload_n 3, 1) := by decide +kernel
theorem dL_law_29 : decode cL_law 29 = .ok (.iaload, 1) := by decide +kernel
theorem dL_law_30 : decode cL_law 30 = .ok (.bipush 31, 2) := by decide +kernel
theorem dL_law_32 : decode cL_law 32 = .ok (.iand, 1) := by decide +kernel
theorem dL_law_33 : decode cL_law 33 = .ok (.tableswitch 993 0 27 #[127, 170, 213, 246, 269, 282, 305, 338, 361, 384, 418, 441, 454, 477, 500, 533, 556, 599, 642, 665, 709, 722, 735, 758, 801, 844, 907, 960], 127) := by decide +kernel
theorem dL_law_160 : decode cL_law 160 = .ok (.aload_n 1, 1) := by decide +kernel
theorem dL_law_161 : decode cL_law 161 = .ok (.aload_n 0, 1) := by decide +kernel
theorem dL_law_162 : decode cL_law 162 = .ok (.iload_n 3, 1) := by decide +kernel
theorem dL_law_163 : decode cL_law 163 = .ok (.iconst 1, 1) := by decide +kernel
theorem dL_law_164 : decode cL_law 164 = .ok (.iadd, 1) := by decide +kernel
theorem dL_law_165 : decode cL_law 165 = .ok (.iaload, 1) := by decide +kernel
theorem dL_law_166 : decode cL_law 166 = .ok (.aload_n 0, 1) := by decide +kernel
theorem dL_law_167 : decode cL_law 167 = .ok (.iload_n 3, 1) := by decide +kernel
theorem dL_law_168 : decode cL_law 168 = .ok (.iconst 2, 1) := by decide +kernel
theorem dL_law_169 : decode cL_law 169 = .ok (.iadd, 1) := by decide +kernel
theorem dL_law_170 : decode cL_law 170 = .ok (.iaload, 1) := by decide +kernel
theorem dL_law_171 : decode cL_law 171 = .ok (.aload_n 0, 1) := by decide +kernel
theorem dL_law_172 : decode cL_law 172 = .ok (.iload_n 3, 1) := by decide +kernel
theorem dL_law_173 : decode cL_law 173 = .ok (.iconst 3, 1) := by decide +kernel
theorem dL_law_174 : decode cL_law 174 = .ok (.iadd, 1) := by decide +kernel
theorem dL_law_175 : decode cL_law 175 = .ok (.iaload, 1) := by decide +kernel
theorem dL_law_176 : decode cL_law 176 = .ok (.invokevirtual 13, 3) := by decide +kernel
theorem dL_law_179 : decode cL_law 179 = .ok (.aload_n 2, 1) := by decide +kernel
theorem dL_law_180 : decode cL_law 180 = .ok (.aload_n 0, 1) := by decide +kernel
theorem dL_law_181 : decode cL_law 181 = .ok (.iload_n 3, 1) := by decide +kernel
theorem dL_law_182 : decode cL_law 182 = .ok (.iconst 1, 1) := by decide +kernel
theorem dL_law_183 : decode cL_law 183 = .ok (.iadd, 1) := by decide +kernel
theorem dL_law_184 : decode cL_law 184 = .ok (.iaload, 1) := by decide +kernel
theorem dL_law_185 : decode cL_law 185 = .ok (.aload_n 0, 1) := by decide +kernel
theorem dL_law_186 : decode cL_law 186 = .ok (.iload_n 3, 1) := by decide +kernel
theorem dL_law_187 : decode cL_law 187 = .ok (.iconst 2, 1) := by decide +kernel
theorem dL_law_188 : decode cL_law 188 = .ok (.iadd, 1) := by decide +kernel
theorem dL_law_189 : decode cL_law 189 = .ok (.iaload, 1) := by decide +kernel
theorem dL_law_190 : decode cL_law 190 = .ok (.aload_n 0, 1) := by decide +kernel
theorem dL_law_191 : decode cL_law 191 = .ok (.iload_n 3, 1) := by decide +kernel
theorem dL_law_192 : decode cL_law 192 = .ok (.iconst 3, 1) := by decide +kernel
theorem dL_law_193 : decode cL_law 193 = .ok (.iadd, 1) := by decide +kernel
theorem dL_law_194 : decode cL_law 194 = .ok (.iaload, 1) := by decide +kernel
theorem dL_law_195 : decode cL_law 195 = .ok (.invokevirtual 17, 3) := by decide +kernel
theorem dL_law_198 : decode cL_law 198 = .ok (.if_icmp .eq 828, 3) := by decide +kernel
theorem dL_law_201 : decode cL_law 201 = .ok (.iconst 0, 1) := by decide +kernel
theorem dL_law_202 : decode cL_law 202 = .ok (.ireturn, 1) := by decide +kernel
theorem dL_law_203 : decode cL_law 203 = .ok (.aload_n 1, 1) := by decide +kernel
theorem dL_law_204 : decode cL_law 204 = .ok (.aload_n 0, 1) := by decide +kernel
theorem dL_law_205 : decode cL_law 205 = .ok (.iload_n 3, 1) := by decide +kernel
theorem dL_law_206 : decode cL_law 206 = .ok (.iconst 1, 1) := by decide +kernel
theorem dL_law_207 : decode cL_law 207 = .ok (.iadd, 1) := by decide +kernel
theorem dL_law_208 : decode cL_law 208 = .ok (.iaload, 1) := by decide +kernel
theorem dL_law_209 : decode cL_law 209 = .ok (.aload_n 0, 1) := by decide +kernel
theorem dL_law_210 : decode cL_law 210 = .ok (.iload_n 3, 1) := by decide +kernel
theorem dL_law_211 : decode cL_law 211 = .ok (.iconst 2, 1) := by decide +kernel
theorem dL_law_212 : decode cL_law 212 = .ok (.iadd, 1) := by decide +kernel
theorem dL_law_213 : decode cL_law 213 = .ok (.iaload, 1) := by decide +kernel
theorem dL_law_214 : decode cL_law 214 = .ok (.aload_n 0, 1) := by decide +kernel
theorem dL_law_215 : decode cL_law 215 = .ok (.iload_n 3, 1) := by decide +kernel
theorem dL_law_216 : decode cL_law 216 = .ok (.iconst 3, 1) := by decide +kernel
theorem dL_law_217 : decode cL_law 217 = .ok (.iadd, 1) := by decide +kernel
theorem dL_law_218 : decode cL_law 218 = .ok (.iaload, 1) := by decide +kernel
theorem dL_law_219 : decode cL_law 219 = .ok (.invokevirtual 18, 3) := by decide +kernel
theorem dL_law_222 : decode cL_law 222 = .ok (.aload_n 2, 1) := by decide +kernel
theorem dL_law_223 : decode cL_law 223 = .ok (.aload_n 0, 1) := by decide +kernel
theorem dL_law_224 : decode cL_law 224 = .ok (.iload_n 3, 1) := by decide +kernel
theorem dL_law_225 : decode cL_law 225 = .ok (.iconst 1, 1) := by decide +kernel
theorem dL_law_226 : decode cL_law 226 = .ok (.iadd, 1) := by decide +kernel
theorem dL_law_227 : decode cL_law 227 = .ok (.iaload, 1) := by decide +kernel
theorem dL_law_228 : decode cL_law 228 = .ok (.aload_n 0, 1) := by decide +kernel
theorem dL_law_229 : decode cL_law 229 = .ok (.iload_n 3, 1) := by decide +kernel
theorem dL_law_230 : decode cL_law 230 = .ok (.iconst 2, 1) := by decide +kernel
theorem dL_law_231 : decode cL_law 231 = .ok (.iadd, 1) := by decide +kernel
theorem dL_law_232 : decode cL_law 232 = .ok (.iaload, 1) := by decide +kernel
theorem dL_law_233 : decode cL_law 233 = .ok (.aload_n 0, 1) := by decide +kernel
theorem dL_law_234 : decode cL_law 234 = .ok (.iload_n 3, 1) := by decide +kernel
theorem dL_law_235 : decode cL_law 235 = .ok (.iconst 3, 1) := by decide +kernel
theorem dL_law_236 : decode cL_law 236 = .ok (.iadd, 1) := by decide +kernel
theorem dL_law_237 : decode cL_law 237 = .ok (.iaload, 1) := by decide +kernel
theorem dL_law_238 : decode cL_law 238 = .ok (.invokevirtual 21, 3) := by decide +kernel
theorem dL_law_241 : decode cL_law 241 = .ok (.if_icmp .eq 785, 3) := by decide +kernel
theorem dL_law_244 : decode cL_law 244 = .ok (.iconst 0, 1) := by decide +kernel
theorem dL_law_245 : decode cL_law 245 = .ok (.ireturn, 1) := by decide +kernel
theorem dL_law_246 : decode cL_law 246 = .ok (.aload_n 1, 1) := by decide +kernel
theorem dL_law_247 : decode cL_law 247 = .ok (.aload_n 0, 1) := by decide +kernel
theorem dL_law_248 : decode cL_law 248 = .ok (.iload_n 3, 1) := by decide +kernel
theorem dL_law_249 : decode cL_law 249 = .ok (.iconst 1, 1) := by decide +kernel
theorem dL_law_250 : decode cL_law 250 = .ok (.iadd, 1) := by decide +kernel
theorem dL_law_251 : decode cL_law 251 = .ok (.iaload, 1) := by decide +kernel
theorem dL_law_252 : decode cL_law 252 = .ok (.aload_n 0, 1) := by decide +kernel
theorem dL_law_253 : decode cL_law 253 = .ok (.iload_n 3, 1) := by decide +kernel
theorem dL_law_254 : decode cL_law 254 = .ok (.iconst 2, 1) := by decide +kernel
theorem dL_law_255 : decode cL_law 255 = .ok (.iadd, 1) := by decide +kernel
theorem dL_law_256 : decode cL_law 256 = .ok (.iaload, 1) := by decide +kernel
theorem dL_law_257 : decode cL_law 257 = .ok (.invokevirtual 22, 3) := by decide +kernel
theorem dL_law_260 : decode cL_law 260 = .ok (.aload_n 2, 1) := by decide +kernel
theorem dL_law_261 : decode cL_law 261 = .ok (.aload_n 0, 1) := by decide +kernel
theorem dL_law_262 : decode cL_law 262 = .ok (.iload_n 3, 1) := by decide +kernel
theorem dL_law_263 : decode cL_law 263 = .ok (.iconst 1, 1) := by decide +kernel
theorem dL_law_264 : decode cL_law 264 = .ok (.iadd, 1) := by decide +kernel
theorem dL_law_265 : decode cL_law 265 = .ok (.iaload, 1) := by decide +kernel
theorem dL_law_266 : decode cL_law 266 = .ok (.aload_n 0, 1) := by decide +kernel
theorem dL_law_267 : decode cL_law 267 = .ok (.iload_n 3, 1) := by decide +kernel
theorem dL_law_268 : decode cL_law 268 = .ok (.iconst 2, 1) := by decide +kernel
theorem dL_law_269 : decode cL_law 269 = .ok (.iadd, 1) := by decide +kernel
theorem dL_law_270 : decode cL_law 270 = .ok (.iaload, 1) := by decide +kernel
theorem dL_law_271 : decode cL_law 271 = .ok (.invokevirtual 26, 3) := by decide +kernel
theorem dL_law_274 : decode cL_law 274 = .ok (.if_icmp .eq 752, 3) := by decide +kernel
theorem dL_law_277 : decode cL_law 277 = .ok (.iconst 0, 1) := by decide +kernel
theorem dL_law_278 : decode cL_law 278 = .ok (.ireturn, 1) := by decide +kernel
theorem dL_law_279 : decode cL_law 279 = .ok (.aload_n 1, 1) := by decide +kernel
theorem dL_law_280 : decode cL_law 280 = .ok (.aload_n 0, 1) := by decide +kernel
theorem dL_law_281 : decode cL_law 281 = .ok (.iload_n 3, 1) := by decide +kernel
theorem dL_law_282 : decode cL_law 282 = .ok (.iconst 1, 1) := by decide +kernel
theorem dL_law_283 : decode cL_law 283 = .ok (.iadd, 1) := by decide +kernel
theorem dL_law_284 : decode cL_law 284 = .ok (.iaload, 1) := by decide +kernel
theorem dL_law_285 : decode cL_law 285 = .ok (.invokevirtual 27, 3) := by decide +kernel
theorem dL_law_288 : decode cL_law 288 = .ok (.aload_n 2, 1) := by decide +kernel
theorem dL_law_289 : decode cL_law 289 = .ok (.aload_n 0, 1) := by decide +kernel
theorem dL_law_290 : decode cL_law 290 = .ok (.iload_n 3, 1) := by decide +kernel
theorem dL_law_291 : decode cL_law 291 = .ok (.iconst 1, 1) := by decide +kernel
theorem dL_law_292 : decode cL_law 292 = .ok (.iadd, 1) := by decide +kernel
theorem dL_law_293 : decode cL_law 293 = .ok (.iaload, 1) := by decide +kernel
theorem dL_law_294 : decode cL_law 294 = .ok (.invokevirtual 31, 3) := by decide +kernel
theorem dL_law_297 : decode cL_law 297 = .ok (.if_icmp .eq 729, 3) := by decide +kernel
theorem dL_law_300 : decode cL_law 300 = .ok (.iconst 0, 1) := by decide +kernel
theorem dL_law_301 : decode cL_law 301 = .ok (.ireturn, 1) := by decide +kernel
theorem dL_law_302 : decode cL_law 302 = .ok (.aload_n 1, 1) := by decide +kernel
theorem dL_law_303 : decode cL_law 303 = .ok (.invokevirtual 32, 3) := by decide +kernel
theorem dL_law_306 : decode cL_law 306 = .ok (.aload_n 2, 1) := by decide +kernel
theorem dL_law_307 : decode cL_law 307 = .ok (.invokevirtual 36, 3) := by decide +kernel
theorem dL_law_310 : decode cL_law 310 = .ok (.if_icmp .eq 716, 3) := by decide +kernel
theorem dL_law_313 : decode cL_law 313 = .ok (.iconst 0, 1) := by decide +kernel
theorem dL_law_314 : decode cL_law 314 = .ok (.ireturn, 1) := by decide +kernel
theorem dL_law_315 : decode cL_law 315 = .ok (.aload_n 1, 1) := by decide +kernel
theorem dL_law_316 : decode cL_law 316 = .ok (.aload_n 0, 1) := by decide +kernel
theorem dL_law_317 : decode cL_law 317 = .ok (.iload_n 3, 1) := by decide +kernel
theorem dL_law_318 : decode cL_law 318 = .ok (.iconst 1, 1) := by decide +kernel
theorem dL_law_319 : decode cL_law 319 = .ok (.iadd, 1) := by decide +kernel
theorem dL_law_320 : decode cL_law 320 = .ok (.iaload, 1) := by decide +kernel
theorem dL_law_321 : decode cL_law 321 = .ok (.invokevirtual 37, 3) := by decide +kernel
theorem dL_law_324 : decode cL_law 324 = .ok (.aload_n 2, 1) := by decide +kernel
theorem dL_law_325 : decode cL_law 325 = .ok (.aload_n 0, 1) := by decide +kernel
theorem dL_law_326 : decode cL_law 326 = .ok (.iload_n 3, 1) := by decide +kernel
theorem dL_law_327 : decode cL_law 327 = .ok (.iconst 1, 1) := by decide +kernel
theorem dL_law_328 : decode cL_law 328 = .ok (.iadd, 1) := by decide +kernel
theorem dL_law_329 : decode cL_law 329 = .ok (.iaload, 1) := by decide +kernel
theorem dL_law_330 : decode cL_law 330 = .ok (.invokevirtual 40, 3) := by decide +kernel
theorem dL_law_333 : decode cL_law 333 = .ok (.if_icmp .eq 693, 3) := by decide +kernel
theorem dL_law_336 : decode cL_law 336 = .ok (.iconst 0, 1) := by decide +kernel
theorem dL_law_337 : decode cL_law 337 = .ok (.ireturn, 1) := by decide +kernel
theorem dL_law_338 : decode cL_law 338 = .ok (.aload_n 1, 1) := by decide +kernel
theorem dL_law_339 : decode cL_law 339 = .ok (.aload_n 0, 1) := by decide +kernel
theorem dL_law_340 : decode cL_law 340 = .ok (.iload_n 3, 1) := by decide +kernel
theorem dL_law_341 : decode cL_law 341 = .ok (.iconst 1, 1) := by decide +kernel
theorem dL_law_342 : decode cL_law 342 = .ok (.iadd, 1) := by decide +kernel
theorem dL_law_343 : decode cL_law 343 = .ok (.iaload, 1) := by decide +kernel
theorem dL_law_344 : decode cL_law 344 = .ok (.aload_n 0, 1) := by decide +kernel
theorem dL_law_345 : decode cL_law 345 = .ok (.iload_n 3, 1) := by decide +kernel
theorem dL_law_346 : decode cL_law 346 = .ok (.iconst 2, 1) := by decide +kernel
theorem dL_law_347 : decode cL_law 347 = .ok (.iadd, 1) := by decide +kernel
theorem dL_law_348 : decode cL_law 348 = .ok (.iaload, 1) := by decide +kernel
theorem dL_law_349 : decode cL_law 349 = .ok (.invokevirtual 41, 3) := by decide +kernel
theorem dL_law_352 : decode cL_law 352 = .ok (.aload_n 2, 1) := by decide +kernel
theorem dL_law_353 : decode cL_law 353 = .ok (.aload_n 0, 1) := by decide +kernel
theorem dL_law_354 : decode cL_law 354 = .ok (.iload_n 3, 1) := by decide +kernel
theorem dL_law_355 : decode cL_law 355 = .ok (.iconst 1, 1) := by decide +kernel
theorem dL_law_356 : decode cL_law 356 = .ok (.iadd, 1) := by decide +kernel
theorem dL_law_357 : decode cL_law 357 = .ok (.iaload, 1) := by decide +kernel
theorem dL_law_358 : decode cL_law 358 = .ok (.aload_n 0, 1) := by decide +kernel
theorem dL_law_359 : decode cL_law 359 = .ok (.iload_n 3, 1) := by decide +kernel
theorem dL_law_360 : decode cL_law 360 = .ok (.iconst 2, 1) := by decide +kernel
theorem dL_law_361 : decode cL_law 361 = .ok (.iadd, 1) := by decide +kernel
theorem dL_law_362 : decode cL_law 362 = .ok (.iaload, 1) := by decide +kernel
theorem dL_law_363 : decode cL_law 363 = .ok (.invokevirtual 44, 3) := by decide +kernel
theorem dL_law_366 : decode cL_law 366 = .ok (.if_icmp .eq 660, 3) := by decide +kernel
theorem dL_law_369 : decode cL_law 369 = .ok (.iconst 0, 1) := by decide +kernel
theorem dL_law_370 : decode cL_law 370 = .ok (.ireturn, 1) := by decide +kernel
theorem dL_law_371 : decode cL_law 371 = .ok (.aload_n 1, 1) := by decide +kernel
theorem dL_law_372 : decode cL_law 372 = .ok (.aload_n 0, 1) := by decide +kernel
theorem dL_law_373 : decode cL_law 373 = .ok (.iload_n 3, 1) := by decide +kernel
theorem dL_law_374 : decode cL_law 374 = .ok (.iconst 1, 1) := by decide +kernel
theorem dL_law_375 : decode cL_law 375 = .ok (.iadd, 1) := by decide +kernel
theorem dL_law_376 : decode cL_law 376 = .ok (.iaload, 1) := by decide +kernel
theorem dL_law_377 : decode cL_law 377 = .ok (.invokevirtual 45, 3) := by decide +kernel
theorem dL_law_380 : decode cL_law 380 = .ok (.aload_n 2, 1) := by decide +kernel
theorem dL_law_381 : decode cL_law 381 = .ok (.aload_n 0, 1) := by decide +kernel
theorem dL_law_382 : decode cL_law 382 = .ok (.iload_n 3, 1) := by decide +kernel
theorem dL_law_383 : decode cL_law 383 = .ok (.iconst 1, 1) := by decide +kernel
theorem dL_law_384 : decode cL_law 384 = .ok (.iadd, 1) := by decide +kernel
theorem dL_law_385 : decode cL_law 385 = .ok (.iaload, 1) := by decide +kernel
theorem dL_law_386 : decode cL_law 386 = .ok (.invokevirtual 48, 3) := by decide +kernel
theorem dL_law_389 : decode cL_law 389 = .ok (.if_icmp .eq 637, 3) := by decide +kernel
theorem dL_law_392 : decode cL_law 392 = .ok (.iconst 0, 1) := by decide +kernel
theorem dL_law_393 : decode cL_law 393 = .ok (.ireturn, 1) := by decide +kernel
theorem dL_law_394 : decode cL_law 394 = .ok (.aload_n 1, 1) := by decide +kernel
theorem dL_law_395 : decode cL_law 395 = .ok (.aload_n 0, 1) := by decide +kernel
theorem dL_law_396 : decode cL_law 396 = .ok (.iload_n 3, 1) := by decide +kernel
theorem dL_law_397 : decode cL_law 397 = .ok (.iconst 1, 1) := by decide +kernel
theorem dL_law_398 : decode cL_law 398 = .ok (.iadd, 1) := by decide +kernel
theorem dL_law_399 : decode cL_law 399 = .ok (.iaload, 1) := by decide +kernel
theorem dL_law_400 : decode cL_law 400 = .ok (.invokevirtual 49, 3) := by decide +kernel
theorem dL_law_403 : decode cL_law 403 = .ok (.aload_n 2, 1) := by decide +kernel
theorem dL_law_404 : decode cL_law 404 = .ok (.aload_n 0, 1) := by decide +kernel
theorem dL_law_405 : decode cL_law 405 = .ok (.iload_n 3, 1) := by decide +kernel
theorem dL_law_406 : decode cL_law 406 = .ok (.iconst 1, 1) := by decide +kernel
theorem dL_law_407 : decode cL_law 407 = .ok (.iadd, 1) := by decide +kernel
theorem dL_law_408 : decode cL_law 408 = .ok (.iaload, 1) := by decide +kernel
theorem dL_law_409 : decode cL_law 409 = .ok (.invokevirtual 52, 3) := by decide +kernel
theorem dL_law_412 : decode cL_law 412 = .ok (.if_icmp .eq 614, 3) := by decide +kernel
theorem dL_law_415 : decode cL_law 415 = .ok (.iconst 0, 1) := by decide +kernel
theorem dL_law_416 : decode cL_law 416 = .ok (.ireturn, 1) := by decide +kernel
theorem dL_law_417 : decode cL_law 417 = .ok (.aload_n 1, 1) := by decide +kernel
theorem dL_law_418 : decode cL_law 418 = .ok (.aload_n 0, 1) := by decide +kernel
theorem dL_law_419 : decode cL_law 419 = .ok (.iload_n 3, 1) := by decide +kernel
theorem dL_law_420 : decode cL_law 420 = .ok (.iconst 1, 1) := by decide +kernel
theorem dL_law_421 : decode cL_law 421 = .ok (.iadd, 1) := by decide +kernel
theorem dL_law_422 : decode cL_law 422 = .ok (.iaload, 1) := by decide +kernel
theorem dL_law_423 : decode cL_law 423 = .ok (.aload_n 0, 1) := by decide +kernel
theorem dL_law_424 : decode cL_law 424 = .ok (.iload_n 3, 1) := by decide +kernel
theorem dL_law_425 : decode cL_law 425 = .ok (.iconst 2, 1) := by decide +kernel
theorem dL_law_426 : decode cL_law 426 = .ok (.iadd, 1) := by decide +kernel
theorem dL_law_427 : decode cL_law 427 = .ok (.iaload, 1) := by decide +kernel
theorem dL_law_428 : decode cL_law 428 = .ok (.invokevirtual 53, 3) := by decide +kernel
theorem dL_law_431 : decode cL_law 431 = .ok (.aload_n 2, 1) := by decide +kernel
theorem dL_law_432 : decode cL_law 432 = .ok (.aload_n 0, 1) := by decide +kernel
theorem dL_law_433 : decode cL_law 433 = .ok (.iload_n 3, 1) := by decide +kernel
theorem dL_law_434 : decode cL_law 434 = .ok (.iconst 1, 1) := by decide +kernel
theorem dL_law_435 : decode cL_law 435 = .ok (.iadd, 1) := by decide +kernel
theorem dL_law_436 : decode cL_law 436 = .ok (.iaload, 1) := by decide +kernel
theorem dL_law_437 : decode cL_law 437 = .ok (.aload_n 0, 1) := by decide +kernel
theorem dL_law_438 : decode cL_law 438 = .ok (.iload_n 3, 1) := by decide +kernel
theorem dL_law_439 : decode cL_law 439 = .ok (.iconst 2, 1) := by decide +kernel
theorem dL_law_440 : decode cL_law 440 = .ok (.iadd, 1) := by decide +kernel
theorem dL_law_441 : decode cL_law 441 = .ok (.iaload, 1) := by decide +kernel
theorem dL_law_442 : decode cL_law 442 = .ok (.invokevirtual 57, 3) := by decide +kernel
theorem dL_law_445 : decode cL_law 445 = .ok (.lcmp, 1) := by decide +kernel
theorem dL_law_446 : decode cL_law 446 = .ok (.ifCond .eq 580, 3) := by decide +kernel
theorem dL_law_449 : decode cL_law 449 = .ok (.iconst 0, 1) := by decide +kernel
theorem dL_law_450 : decode cL_law 450 = .ok (.ireturn, 1) := by decide +kernel
theorem dL_law_451 : decode cL_law 451 = .ok (.aload_n 1, 1) := by decide +kernel
theorem dL_law_452 : decode cL_law 452 = .ok (.aload_n 0, 1) := by decide +kernel
theorem dL_law_453 : decode cL_law 453 = .ok (.iload_n 3, 1) := by decide +kernel
theorem dL_law_454 : decode cL_law 454 = .ok (.iconst 1, 1) := by decide +kernel
theorem dL_law_455 : decode cL_law 455 = .ok (.iadd, 1) := by decide +kernel
theorem dL_law_456 : decode cL_law 456 = .ok (.iaload, 1) := by decide +kernel
theorem dL_law_457 : decode cL_law 457 = .ok (.invokevirtual 58, 3) := by decide +kernel
theorem dL_law_460 : decode cL_law 460 = .ok (.aload_n 2, 1) := by decide +kernel
theorem dL_law_461 : decode cL_law 461 = .ok (.aload_n 0, 1) := by decide +kernel
theorem dL_law_462 : decode cL_law 462 = .ok (.iload_n 3, 1) := by decide +kernel
theorem dL_law_463 : decode cL_law 463 = .ok (.iconst 1, 1) := by decide +kernel
theorem dL_law_464 : decode cL_law 464 = .ok (.iadd, 1) := by decide +kernel
theorem dL_law_465 : decode cL_law 465 = .ok (.iaload, 1) := by decide +kernel
theorem dL_law_466 : decode cL_law 466 = .ok (.invokevirtual 61, 3) := by decide +kernel
theorem dL_law_469 : decode cL_law 469 = .ok (.if_icmp .eq 557, 3) := by decide +kernel
theorem dL_law_472 : decode cL_law 472 = .ok (.iconst 0, 1) := by decide +kernel
theorem dL_law_473 : decode cL_law 473 = .ok (.ireturn, 1) := by decide +kernel
theorem dL_law_474 : decode cL_law 474 = .ok (.aload_n 1, 1) := by decide +kernel
theorem dL_law_475 : decode cL_law 475 = .ok (.invokevirtual 62, 3) := by decide +kernel
theorem dL_law_478 : decode cL_law 478 = .ok (.aload_n 2, 1) := by decide +kernel
theorem dL_law_479 : decode cL_law 479 = .ok (.invokevirtual 65, 3) := by decide +kernel
theorem dL_law_482 : decode cL_law 482 = .ok (.if_icmp .eq 544, 3) := by decide +kernel
theorem dL_law_485 : decode cL_law 485 = .ok (.iconst 0, 1) := by decide +kernel
theorem dL_law_486 : decode cL_law 486 = .ok (.ireturn, 1) := by decide +kernel
theorem dL_law_487 : decode cL_law 487 = .ok (.aload_n 1, 1) := by decide +kernel
theorem dL_law_488 : decode cL_law 488 = .ok (.aload_n 0, 1) := by decide +kernel
theorem dL_law_489 : decode cL_law 489 = .ok (.iload_n 3, 1) := by decide +kernel
theorem dL_law_490 : decode cL_law 490 = .ok (.iconst 1, 1) := by decide +kernel
theorem dL_law_491 : decode cL_law 491 = .ok (.iadd, 1) := by decide +kernel
theorem dL_law_492 : decode cL_law 492 = .ok (.iaload, 1) := by decide +kernel
theorem dL_law_493 : decode cL_law 493 = .ok (.invokevirtual 66, 3) := by decide +kernel
theorem dL_law_496 : decode cL_law 496 = .ok (.aload_n 2, 1) := by decide +kernel
theorem dL_law_497 : decode cL_law 497 = .ok (.aload_n 0, 1) := by decide +kernel
theorem dL_law_498 : decode cL_law 498 = .ok (.iload_n 3, 1) := by decide +kernel
theorem dL_law_499 : decode cL_law 499 = .ok (.iconst 1, 1) := by decide +kernel
theorem dL_law_500 : decode cL_law 500 = .ok (.iadd, 1) := by decide +kernel
theorem dL_law_501 : decode cL_law 501 = .ok (.iaload, 1) := by decide +kernel
theorem dL_law_502 : decode cL_law 502 = .ok (.invokevirtual 69, 3) := by decide +kernel
theorem dL_law_505 : decode cL_law 505 = .ok (.if_icmp .eq 521, 3) := by decide +kernel
theorem dL_law_508 : decode cL_law 508 = .ok (.iconst 0, 1) := by decide +kernel
theorem dL_law_509 : decode cL_law 509 = .ok (.ireturn, 1) := by decide +kernel
theorem dL_law_510 : decode cL_law 510 = .ok (.aload_n 1, 1) := by decide +kernel
theorem dL_law_511 : decode cL_law 511 = .ok (.aload_n 0, 1) := by decide +kernel
theorem dL_law_512 : decode cL_law 512 = .ok (.iload_n 3, 1) := by decide +kernel
theorem dL_law_513 : decode cL_law 513 = .ok (.iconst 1, 1) := by decide +kernel
theorem dL_law_514 : decode cL_law 514 = .ok (.iadd, 1) := by decide +kernel
theorem dL_law_515 : decode cL_law 515 = .ok (.iaload, 1) := by decide +kernel
theorem dL_law_516 : decode cL_law 516 = .ok (.invokevirtual 70, 3) := by decide +kernel
theorem dL_law_519 : decode cL_law 519 = .ok (.aload_n 2, 1) := by decide +kernel
theorem dL_law_520 : decode cL_law 520 = .ok (.aload_n 0, 1) := by decide +kernel
theorem dL_law_521 : decode cL_law 521 = .ok (.iload_n 3, 1) := by decide +kernel
theorem dL_law_522 : decode cL_law 522 = .ok (.iconst 1, 1) := by decide +kernel
theorem dL_law_523 : decode cL_law 523 = .ok (.iadd, 1) := by decide +kernel
theorem dL_law_524 : decode cL_law 524 = .ok (.iaload, 1) := by decide +kernel
theorem dL_law_525 : decode cL_law 525 = .ok (.invokevirtual 73, 3) := by decide +kernel
theorem dL_law_528 : decode cL_law 528 = .ok (.if_icmp .eq 498, 3) := by decide +kernel
theorem dL_law_531 : decode cL_law 531 = .ok (.iconst 0, 1) := by decide +kernel
theorem dL_law_532 : decode cL_law 532 = .ok (.ireturn, 1) := by decide +kernel
theorem dL_law_533 : decode cL_law 533 = .ok (.aload_n 1, 1) := by decide +kernel
theorem dL_law_534 : decode cL_law 534 = .ok (.aload_n 0, 1) := by decide +kernel
theorem dL_law_535 : decode cL_law 535 = .ok (.iload_n 3, 1) := by decide +kernel
theorem dL_law_536 : decode cL_law 536 = .ok (.iconst 1, 1) := by decide +kernel
theorem dL_law_537 : decode cL_law 537 = .ok (.iadd, 1) := by decide +kernel
theorem dL_law_538 : decode cL_law 538 = .ok (.iaload, 1) := by decide +kernel
theorem dL_law_539 : decode cL_law 539 = .ok (.aload_n 0, 1) := by decide +kernel
theorem dL_law_540 : decode cL_law 540 = .ok (.iload_n 3, 1) := by decide +kernel
theorem dL_law_541 : decode cL_law 541 = .ok (.iconst 2, 1) := by decide +kernel
theorem dL_law_542 : decode cL_law 542 = .ok (.iadd, 1) := by decide +kernel
theorem dL_law_543 : decode cL_law 543 = .ok (.iaload, 1) := by decide +kernel
theorem dL_law_544 : decode cL_law 544 = .ok (.invokevirtual 74, 3) := by decide +kernel
theorem dL_law_547 : decode cL_law 547 = .ok (.aload_n 2, 1) := by decide +kernel
theorem dL_law_548 : decode cL_law 548 = .ok (.aload_n 0, 1) := by decide +kernel
theorem dL_law_549 : decode cL_law 549 = .ok (.iload_n 3, 1) := by decide +kernel
theorem dL_law_550 : decode cL_law 550 = .ok (.iconst 1, 1) := by decide +kernel
theorem dL_law_551 : decode cL_law 551 = .ok (.iadd, 1) := by decide +kernel
theorem dL_law_552 : decode cL_law 552 = .ok (.iaload, 1) := by decide +kernel
theorem dL_law_553 : decode cL_law 553 = .ok (.aload_n 0, 1) := by decide +kernel
theorem dL_law_554 : decode cL_law 554 = .ok (.iload_n 3, 1) := by decide +kernel
theorem dL_law_555 : decode cL_law 555 = .ok (.iconst 2, 1) := by decide +kernel
theorem dL_law_556 : decode cL_law 556 = .ok (.iadd, 1) := by decide +kernel
theorem dL_law_557 : decode cL_law 557 = .ok (.iaload, 1) := by decide +kernel
theorem dL_law_558 : decode cL_law 558 = .ok (.invokevirtual 77, 3) := by decide +kernel
theorem dL_law_561 : decode cL_law 561 = .ok (.if_icmp .eq 465, 3) := by decide +kernel
theorem dL_law_564 : decode cL_law 564 = .ok (.iconst 0, 1) := by decide +kernel
theorem dL_law_565 : decode cL_law 565 = .ok (.ireturn, 1) := by decide +kernel
theorem dL_law_566 : decode cL_law 566 = .ok (.aload_n 1, 1) := by decide +kernel
theorem dL_law_567 : decode cL_law 567 = .ok (.aload_n 0, 1) := by decide +kernel
theorem dL_law_568 : decode cL_law 568 = .ok (.iload_n 3, 1) := by decide +kernel
theorem dL_law_569 : decode cL_law 569 = .ok (.iconst 1, 1) := by decide +kernel
theorem dL_law_570 : decode cL_law 570 = .ok (.iadd, 1) := by decide +kernel
theorem dL_law_571 : decode cL_law 571 = .ok (.iaload, 1) := by decide +kernel
theorem dL_law_572 : decode cL_law 572 = .ok (.invokevirtual 78, 3) := by decide +kernel
theorem dL_law_575 : decode cL_law 575 = .ok (.aload_n 2, 1) := by decide +kernel
theorem dL_law_576 : decode cL_law 576 = .ok (.aload_n 0, 1) := by decide +kernel
theorem dL_law_577 : decode cL_law 577 = .ok (.iload_n 3, 1) := by decide +kernel
theorem dL_law_578 : decode cL_law 578 = .ok (.iconst 1, 1) := by decide +kernel
theorem dL_law_579 : decode cL_law 579 = .ok (.iadd, 1) := by decide +kernel
theorem dL_law_580 : decode cL_law 580 = .ok (.iaload, 1) := by decide +kernel
theorem dL_law_581 : decode cL_law 581 = .ok (.invokevirtual 81, 3) := by decide +kernel
theorem dL_law_584 : decode cL_law 584 = .ok (.if_icmp .eq 442, 3) := by decide +kernel
theorem dL_law_587 : decode cL_law 587 = .ok (.iconst 0, 1) := by decide +kernel
theorem dL_law_588 : decode cL_law 588 = .ok (.ireturn, 1) := by decide +kernel
theorem dL_law_589 : decode cL_law 589 = .ok (.aload_n 1, 1) := by decide +kernel
theorem dL_law_590 : decode cL_law 590 = .ok (.aload_n 0, 1) := by decide +kernel
theorem dL_law_591 : decode cL_law 591 = .ok (.iload_n 3, 1) := by decide +kernel
theorem dL_law_592 : decode cL_law 592 = .ok (.iconst 1, 1) := by decide +kernel
theorem dL_law_593 : decode cL_law 593 = .ok (.iadd, 1) := by decide +kernel
theorem dL_law_594 : decode cL_law 594 = .ok (.iaload, 1) := by decide +kernel
theorem dL_law_595 : decode cL_law 595 = .ok (.aload_n 0, 1) := by decide +kernel
theorem dL_law_596 : decode cL_law 596 = .ok (.iload_n 3, 1) := by decide +kernel
theorem dL_law_597 : decode cL_law 597 = .ok (.iconst 2, 1) := by decide +kernel
theorem dL_law_598 : decode cL_law 598 = .ok (.iadd, 1) := by decide +kernel
theorem dL_law_599 : decode cL_law 599 = .ok (.iaload, 1) := by decide +kernel
theorem dL_law_600 : decode cL_law 600 = .ok (.aload_n 0, 1) := by decide +kernel
theorem dL_law_601 : decode cL_law 601 = .ok (.iload_n 3, 1) := by decide +kernel
theorem dL_law_602 : decode cL_law 602 = .ok (.iconst 3, 1) := by decide +kernel
theorem dL_law_603 : decode cL_law 603 = .ok (.iadd, 1) := by decide +kernel
theorem dL_law_604 : decode cL_law 604 = .ok (.iaload, 1) := by decide +kernel
theorem dL_law_605 : decode cL_law 605 = .ok (.invokevirtual 82, 3) := by decide +kernel
theorem dL_law_608 : decode cL_law 608 = .ok (.aload_n 2, 1) := by decide +kernel
theorem dL_law_609 : decode cL_law 609 = .ok (.aload_n 0, 1) := by decide +kernel
theorem dL_law_610 : decode cL_law 610 = .ok (.iload_n 3, 1) := by decide +kernel
theorem dL_law_611 : decode cL_law 611 = .ok (.iconst 1, 1) := by decide +kernel
theorem dL_law_612 : decode cL_law 612 = .ok (.iadd, 1) := by decide +kernel
theorem dL_law_613 : decode cL_law 613 = .ok (.iaload, 1) := by decide +kernel
theorem dL_law_614 : decode cL_law 614 = .ok (.aload_n 0, 1) := by decide +kernel
theorem dL_law_615 : decode cL_law 615 = .ok (.iload_n 3, 1) := by decide +kernel
theorem dL_law_616 : decode cL_law 616 = .ok (.iconst 2, 1) := by decide +kernel
theorem dL_law_617 : decode cL_law 617 = .ok (.iadd, 1) := by decide +kernel
theorem dL_law_618 : decode cL_law 618 = .ok (.iaload, 1) := by decide +kernel
theorem dL_law_619 : decode cL_law 619 = .ok (.aload_n 0, 1) := by decide +kernel
theorem dL_law_620 : decode cL_law 620 = .ok (.iload_n 3, 1) := by decide +kernel
theorem dL_law_621 : decode cL_law 621 = .ok (.iconst 3, 1) := by decide +kernel
theorem dL_law_622 : decode cL_law 622 = .ok (.iadd, 1) := by decide +kernel
theorem dL_law_623 : decode cL_law 623 = .ok (.iaload, 1) := by decide +kernel
theorem dL_law_624 : decode cL_law 624 = .ok (.invokevirtual 85, 3) := by decide +kernel
theorem dL_law_627 : decode cL_law 627 = .ok (.if_icmp .eq 399, 3) := by decide +kernel
theorem dL_law_630 : decode cL_law 630 = .ok (.iconst 0, 1) := by decide +kernel
theorem dL_law_631 : decode cL_law 631 = .ok (.ireturn, 1) := by decide +kernel
theorem dL_law_632 : decode cL_law 632 = .ok (.aload_n 1, 1) := by decide +kernel
theorem dL_law_633 : decode cL_law 633 = .ok (.aload_n 0, 1) := by decide +kernel
theorem dL_law_634 : decode cL_law 634 = .ok (.iload_n 3, 1) := by decide +kernel
theorem dL_law_635 : decode cL_law 635 = .ok (.iconst 1, 1) := by decide +kernel
theorem dL_law_636 : decode cL_law 636 = .ok (.iadd, 1) := by decide +kernel
theorem dL_law_637 : decode cL_law 637 = .ok (.iaload, 1) := by decide +kernel
theorem dL_law_638 : decode cL_law 638 = .ok (.aload_n 0, 1) := by decide +kernel
theorem dL_law_639 : decode cL_law 639 = .ok (.iload_n 3, 1) := by decide +kernel
theorem dL_law_640 : decode cL_law 640 = .ok (.iconst 2, 1) := by decide +kernel
theorem dL_law_641 : decode cL_law 641 = .ok (.iadd, 1) := by decide +kernel
theorem dL_law_642 : decode cL_law 642 = .ok (.iaload, 1) := by decide +kernel
theorem dL_law_643 : decode cL_law 643 = .ok (.aload_n 0, 1) := by decide +kernel
theorem dL_law_644 : decode cL_law 644 = .ok (.iload_n 3, 1) := by decide +kernel
theorem dL_law_645 : decode cL_law 645 = .ok (.iconst 3, 1) := by decide +kernel
theorem dL_law_646 : decode cL_law 646 = .ok (.iadd, 1) := by decide +kernel
theorem dL_law_647 : decode cL_law 647 = .ok (.iaload, 1) := by decide +kernel
theorem dL_law_648 : decode cL_law 648 = .ok (.invokevirtual 86, 3) := by decide +kernel
theorem dL_law_651 : decode cL_law 651 = .ok (.aload_n 2, 1) := by decide +kernel
theorem dL_law_652 : decode cL_law 652 = .ok (.aload_n 0, 1) := by decide +kernel
theorem dL_law_653 : decode cL_law 653 = .ok (.iload_n 3, 1) := by decide +kernel
theorem dL_law_654 : decode cL_law 654 = .ok (.iconst 1, 1) := by decide +kernel
theorem dL_law_655 : decode cL_law 655 = .ok (.iadd, 1) := by decide +kernel
theorem dL_law_656 : decode cL_law 656 = .ok (.iaload, 1) := by decide +kernel
theorem dL_law_657 : decode cL_law 657 = .ok (.aload_n 0, 1) := by decide +kernel
theorem dL_law_658 : decode cL_law 658 = .ok (.iload_n 3, 1) := by decide +kernel
theorem dL_law_659 : decode cL_law 659 = .ok (.iconst 2, 1) := by decide +kernel
theorem dL_law_660 : decode cL_law 660 = .ok (.iadd, 1) := by decide +kernel
theorem dL_law_661 : decode cL_law 661 = .ok (.iaload, 1) := by decide +kernel
theorem dL_law_662 : decode cL_law 662 = .ok (.aload_n 0, 1) := by decide +kernel
theorem dL_law_663 : decode cL_law 663 = .ok (.iload_n 3, 1) := by decide +kernel
theorem dL_law_664 : decode cL_law 664 = .ok (.iconst 3, 1) := by decide +kernel
theorem dL_law_665 : decode cL_law 665 = .ok (.iadd, 1) := by decide +kernel
theorem dL_law_666 : decode cL_law 666 = .ok (.iaload, 1) := by decide +kernel
theorem dL_law_667 : decode cL_law 667 = .ok (.invokevirtual 89, 3) := by decide +kernel
theorem dL_law_670 : decode cL_law 670 = .ok (.if_icmp .eq 356, 3) := by decide +kernel
theorem dL_law_673 : decode cL_law 673 = .ok (.iconst 0, 1) := by decide +kernel
theorem dL_law_674 : decode cL_law 674 = .ok (.ireturn, 1) := by decide +kernel
theorem dL_law_675 : decode cL_law 675 = .ok (.aload_n 1, 1) := by decide +kernel
theorem dL_law_676 : decode cL_law 676 = .ok (.aload_n 0, 1) := by decide +kernel
theorem dL_law_677 : decode cL_law 677 = .ok (.iload_n 3, 1) := by decide +kernel
theorem dL_law_678 : decode cL_law 678 = .ok (.iconst 1, 1) := by decide +kernel
theorem dL_law_679 : decode cL_law 679 = .ok (.iadd, 1) := by decide +kernel
theorem dL_law_680 : decode cL_law 680 = .ok (.iaload, 1) := by decide +kernel
theorem dL_law_681 : decode cL_law 681 = .ok (.invokevirtual 90, 3) := by decide +kernel
theorem dL_law_684 : decode cL_law 684 = .ok (.aload_n 2, 1) := by decide +kernel
theorem dL_law_685 : decode cL_law 685 = .ok (.aload_n 0, 1) := by decide +kernel
theorem dL_law_686 : decode cL_law 686 = .ok (.iload_n 3, 1) := by decide +kernel
theorem dL_law_687 : decode cL_law 687 = .ok (.iconst 1, 1) := by decide +kernel
theorem dL_law_688 : decode cL_law 688 = .ok (.iadd, 1) := by decide +kernel
theorem dL_law_689 : decode cL_law 689 = .ok (.iaload, 1) := by decide +kernel
theorem dL_law_690 : decode cL_law 690 = .ok (.invokevirtual 93, 3) := by decide +kernel
theorem dL_law_693 : decode cL_law 693 = .ok (.if_icmp .eq 333, 3) := by decide +kernel
theorem dL_law_696 : decode cL_law 696 = .ok (.iconst 0, 1) := by decide +kernel
theorem dL_law_697 : decode cL_law 697 = .ok (.ireturn, 1) := by decide +kernel
theorem dL_law_698 : decode cL_law 698 = .ok (.aload_n 1, 1) := by decide +kernel
theorem dL_law_699 : decode cL_law 699 = .ok (.aload_n 0, 1) := by decide +kernel
theorem dL_law_700 : decode cL_law 700 = .ok (.iload_n 3, 1) := by decide +kernel
theorem dL_law_701 : decode cL_law 701 = .ok (.iconst 1, 1) := by decide +kernel
theorem dL_law_702 : decode cL_law 702 = .ok (.iadd, 1) := by decide +kernel
theorem dL_law_703 : decode cL_law 703 = .ok (.iaload, 1) := by decide +kernel
theorem dL_law_704 : decode cL_law 704 = .ok (.aload_n 0, 1) := by decide +kernel
theorem dL_law_705 : decode cL_law 705 = .ok (.iload_n 3, 1) := by decide +kernel
theorem dL_law_706 : decode cL_law 706 = .ok (.iconst 2, 1) := by decide +kernel
theorem dL_law_707 : decode cL_law 707 = .ok (.iadd, 1) := by decide +kernel
theorem dL_law_708 : decode cL_law 708 = .ok (.iaload, 1) := by decide +kernel
theorem dL_law_709 : decode cL_law 709 = .ok (.aload_n 0, 1) := by decide +kernel
theorem dL_law_710 : decode cL_law 710 = .ok (.iload_n 3, 1) := by decide +kernel
theorem dL_law_711 : decode cL_law 711 = .ok (.iconst 3, 1) := by decide +kernel
theorem dL_law_712 : decode cL_law 712 = .ok (.iadd, 1) := by decide +kernel
theorem dL_law_713 : decode cL_law 713 = .ok (.iaload, 1) := by decide +kernel
theorem dL_law_714 : decode cL_law 714 = .ok (.invokevirtual 94, 3) := by decide +kernel
theorem dL_law_717 : decode cL_law 717 = .ok (.aload_n 2, 1) := by decide +kernel
theorem dL_law_718 : decode cL_law 718 = .ok (.aload_n 0, 1) := by decide +kernel
theorem dL_law_719 : decode cL_law 719 = .ok (.iload_n 3, 1) := by decide +kernel
theorem dL_law_720 : decode cL_law 720 = .ok (.iconst 1, 1) := by decide +kernel
theorem dL_law_721 : decode cL_law 721 = .ok (.iadd, 1) := by decide +kernel
theorem dL_law_722 : decode cL_law 722 = .ok (.iaload, 1) := by decide +kernel
theorem dL_law_723 : decode cL_law 723 = .ok (.aload_n 0, 1) := by decide +kernel
theorem dL_law_724 : decode cL_law 724 = .ok (.iload_n 3, 1) := by decide +kernel
theorem dL_law_725 : decode cL_law 725 = .ok (.iconst 2, 1) := by decide +kernel
theorem dL_law_726 : decode cL_law 726 = .ok (.iadd, 1) := by decide +kernel
theorem dL_law_727 : decode cL_law 727 = .ok (.iaload, 1) := by decide +kernel
theorem dL_law_728 : decode cL_law 728 = .ok (.aload_n 0, 1) := by decide +kernel
theorem dL_law_729 : decode cL_law 729 = .ok (.iload_n 3, 1) := by decide +kernel
theorem dL_law_730 : decode cL_law 730 = .ok (.iconst 3, 1) := by decide +kernel
theorem dL_law_731 : decode cL_law 731 = .ok (.iadd, 1) := by decide +kernel
theorem dL_law_732 : decode cL_law 732 = .ok (.iaload, 1) := by decide +kernel
theorem dL_law_733 : decode cL_law 733 = .ok (.invokevirtual 98, 3) := by decide +kernel
theorem dL_law_736 : decode cL_law 736 = .ok (.lcmp, 1) := by decide +kernel
theorem dL_law_737 : decode cL_law 737 = .ok (.ifCond .eq 289, 3) := by decide +kernel
theorem dL_law_740 : decode cL_law 740 = .ok (.iconst 0, 1) := by decide +kernel
theorem dL_law_741 : decode cL_law 741 = .ok (.ireturn, 1) := by decide +kernel
theorem dL_law_742 : decode cL_law 742 = .ok (.aload_n 1, 1) := by decide +kernel
theorem dL_law_743 : decode cL_law 743 = .ok (.invokevirtual 99, 3) := by decide +kernel
theorem dL_law_746 : decode cL_law 746 = .ok (.aload_n 2, 1) := by decide +kernel
theorem dL_law_747 : decode cL_law 747 = .ok (.invokevirtual 102, 3) := by decide +kernel
theorem dL_law_750 : decode cL_law 750 = .ok (.if_icmp .eq 276, 3) := by decide +kernel
theorem dL_law_753 : decode cL_law 753 = .ok (.iconst 0, 1) := by decide +kernel
theorem dL_law_754 : decode cL_law 754 = .ok (.ireturn, 1) := by decide +kernel
theorem dL_law_755 : decode cL_law 755 = .ok (.aload_n 1, 1) := by decide +kernel
theorem dL_law_756 : decode cL_law 756 = .ok (.invokevirtual 103, 3) := by decide +kernel
theorem dL_law_759 : decode cL_law 759 = .ok (.aload_n 2, 1) := by decide +kernel
theorem dL_law_760 : decode cL_law 760 = .ok (.invokevirtual 106, 3) := by decide +kernel
theorem dL_law_763 : decode cL_law 763 = .ok (.if_icmp .eq 263, 3) := by decide +kernel
theorem dL_law_766 : decode cL_law 766 = .ok (.iconst 0, 1) := by decide +kernel
theorem dL_law_767 : decode cL_law 767 = .ok (.ireturn, 1) := by decide +kernel
theorem dL_law_768 : decode cL_law 768 = .ok (.aload_n 1, 1) := by decide +kernel
theorem dL_law_769 : decode cL_law 769 = .ok (.aload_n 0, 1) := by decide +kernel
theorem dL_law_770 : decode cL_law 770 = .ok (.iload_n 3, 1) := by decide +kernel
theorem dL_law_771 : decode cL_law 771 = .ok (.iconst 1, 1) := by decide +kernel
theorem dL_law_772 : decode cL_law 772 = .ok (.iadd, 1) := by decide +kernel
theorem dL_law_773 : decode cL_law 773 = .ok (.iaload, 1) := by decide +kernel
theorem dL_law_774 : decode cL_law 774 = .ok (.invokevirtual 107, 3) := by decide +kernel
theorem dL_law_777 : decode cL_law 777 = .ok (.aload_n 2, 1) := by decide +kernel
theorem dL_law_778 : decode cL_law 778 = .ok (.aload_n 0, 1) := by decide +kernel
theorem dL_law_779 : decode cL_law 779 = .ok (.iload_n 3, 1) := by decide +kernel
theorem dL_law_780 : decode cL_law 780 = .ok (.iconst 1, 1) := by decide +kernel
theorem dL_law_781 : decode cL_law 781 = .ok (.iadd, 1) := by decide +kernel
theorem dL_law_782 : decode cL_law 782 = .ok (.iaload, 1) := by decide +kernel
theorem dL_law_783 : decode cL_law 783 = .ok (.invokevirtual 110, 3) := by decide +kernel
theorem dL_law_786 : decode cL_law 786 = .ok (.if_icmp .eq 240, 3) := by decide +kernel
theorem dL_law_789 : decode cL_law 789 = .ok (.iconst 0, 1) := by decide +kernel
theorem dL_law_790 : decode cL_law 790 = .ok (.ireturn, 1) := by decide +kernel
theorem dL_law_791 : decode cL_law 791 = .ok (.aload_n 1, 1) := by decide +kernel
theorem dL_law_792 : decode cL_law 792 = .ok (.aload_n 0, 1) := by decide +kernel
theorem dL_law_793 : decode cL_law 793 = .ok (.iload_n 3, 1) := by decide +kernel
theorem dL_law_794 : decode cL_law 794 = .ok (.iconst 1, 1) := by decide +kernel
theorem dL_law_795 : decode cL_law 795 = .ok (.iadd, 1) := by decide +kernel
theorem dL_law_796 : decode cL_law 796 = .ok (.iaload, 1) := by decide +kernel
theorem dL_law_797 : decode cL_law 797 = .ok (.aload_n 0, 1) := by decide +kernel
theorem dL_law_798 : decode cL_law 798 = .ok (.iload_n 3, 1) := by decide +kernel
theorem dL_law_799 : decode cL_law 799 = .ok (.iconst 2, 1) := by decide +kernel
theorem dL_law_800 : decode cL_law 800 = .ok (.iadd, 1) := by decide +kernel
theorem dL_law_801 : decode cL_law 801 = .ok (.iaload, 1) := by decide +kernel
theorem dL_law_802 : decode cL_law 802 = .ok (.aload_n 0, 1) := by decide +kernel
theorem dL_law_803 : decode cL_law 803 = .ok (.iload_n 3, 1) := by decide +kernel
theorem dL_law_804 : decode cL_law 804 = .ok (.iconst 3, 1) := by decide +kernel
theorem dL_law_805 : decode cL_law 805 = .ok (.iadd, 1) := by decide +kernel
theorem dL_law_806 : decode cL_law 806 = .ok (.iaload, 1) := by decide +kernel
theorem dL_law_807 : decode cL_law 807 = .ok (.invokevirtual 111, 3) := by decide +kernel
theorem dL_law_810 : decode cL_law 810 = .ok (.aload_n 2, 1) := by decide +kernel
theorem dL_law_811 : decode cL_law 811 = .ok (.aload_n 0, 1) := by decide +kernel
theorem dL_law_812 : decode cL_law 812 = .ok (.iload_n 3, 1) := by decide +kernel
theorem dL_law_813 : decode cL_law 813 = .ok (.iconst 1, 1) := by decide +kernel
theorem dL_law_814 : decode cL_law 814 = .ok (.iadd, 1) := by decide +kernel
theorem dL_law_815 : decode cL_law 815 = .ok (.iaload, 1) := by decide +kernel
theorem dL_law_816 : decode cL_law 816 = .ok (.aload_n 0, 1) := by decide +kernel
theorem dL_law_817 : decode cL_law 817 = .ok (.iload_n 3, 1) := by decide +kernel
theorem dL_law_818 : decode cL_law 818 = .ok (.iconst 2, 1) := by decide +kernel
theorem dL_law_819 : decode cL_law 819 = .ok (.iadd, 1) := by decide +kernel
theorem dL_law_820 : decode cL_law 820 = .ok (.iaload, 1) := by decide +kernel
theorem dL_law_821 : decode cL_law 821 = .ok (.aload_n 0, 1) := by decide +kernel
theorem dL_law_822 : decode cL_law 822 = .ok (.iload_n 3, 1) := by decide +kernel
theorem dL_law_823 : decode cL_law 823 = .ok (.iconst 3, 1) := by decide +kernel
theorem dL_law_824 : decode cL_law 824 = .ok (.iadd, 1) := by decide +kernel
theorem dL_law_825 : decode cL_law 825 = .ok (.iaload, 1) := by decide +kernel
theorem dL_law_826 : decode cL_law 826 = .ok (.invokevirtual 114, 3) := by decide +kernel
theorem dL_law_829 : decode cL_law 829 = .ok (.if_icmp .eq 197, 3) := by decide +kernel
theorem dL_law_832 : decode cL_law 832 = .ok (.iconst 0, 1) := by decide +kernel
theorem dL_law_833 : decode cL_law 833 = .ok (.ireturn, 1) := by decide +kernel
theorem dL_law_834 : decode cL_law 834 = .ok (.aload_n 1, 1) := by decide +kernel
theorem dL_law_835 : decode cL_law 835 = .ok (.aload_n 0, 1) := by decide +kernel
theorem dL_law_836 : decode cL_law 836 = .ok (.iload_n 3, 1) := by decide +kernel
theorem dL_law_837 : decode cL_law 837 = .ok (.iconst 1, 1) := by decide +kernel
theorem dL_law_838 : decode cL_law 838 = .ok (.iadd, 1) := by decide +kernel
theorem dL_law_839 : decode cL_law 839 = .ok (.iaload, 1) := by decide +kernel
theorem dL_law_840 : decode cL_law 840 = .ok (.aload_n 0, 1) := by decide +kernel
theorem dL_law_841 : decode cL_law 841 = .ok (.iload_n 3, 1) := by decide +kernel
theorem dL_law_842 : decode cL_law 842 = .ok (.iconst 2, 1) := by decide +kernel
theorem dL_law_843 : decode cL_law 843 = .ok (.iadd, 1) := by decide +kernel
theorem dL_law_844 : decode cL_law 844 = .ok (.iaload, 1) := by decide +kernel
theorem dL_law_845 : decode cL_law 845 = .ok (.aload_n 0, 1) := by decide +kernel
theorem dL_law_846 : decode cL_law 846 = .ok (.iload_n 3, 1) := by decide +kernel
theorem dL_law_847 : decode cL_law 847 = .ok (.iconst 3, 1) := by decide +kernel
theorem dL_law_848 : decode cL_law 848 = .ok (.iadd, 1) := by decide +kernel
theorem dL_law_849 : decode cL_law 849 = .ok (.iaload, 1) := by decide +kernel
theorem dL_law_850 : decode cL_law 850 = .ok (.invokevirtual 115, 3) := by decide +kernel
theorem dL_law_853 : decode cL_law 853 = .ok (.aload_n 2, 1) := by decide +kernel
theorem dL_law_854 : decode cL_law 854 = .ok (.aload_n 0, 1) := by decide +kernel
theorem dL_law_855 : decode cL_law 855 = .ok (.iload_n 3, 1) := by decide +kernel
theorem dL_law_856 : decode cL_law 856 = .ok (.iconst 1, 1) := by decide +kernel
theorem dL_law_857 : decode cL_law 857 = .ok (.iadd, 1) := by decide +kernel
theorem dL_law_858 : decode cL_law 858 = .ok (.iaload, 1) := by decide +kernel
theorem dL_law_859 : decode cL_law 859 = .ok (.aload_n 0, 1) := by decide +kernel
theorem dL_law_860 : decode cL_law 860 = .ok (.iload_n 3, 1) := by decide +kernel
theorem dL_law_861 : decode cL_law 861 = .ok (.iconst 2, 1) := by decide +kernel
theorem dL_law_862 : decode cL_law 862 = .ok (.iadd, 1) := by decide +kernel
theorem dL_law_863 : decode cL_law 863 = .ok (.iaload, 1) := by decide +kernel
theorem dL_law_864 : decode cL_law 864 = .ok (.aload_n 0, 1) := by decide +kernel
theorem dL_law_865 : decode cL_law 865 = .ok (.iload_n 3, 1) := by decide +kernel
theorem dL_law_866 : decode cL_law 866 = .ok (.iconst 3, 1) := by decide +kernel
theorem dL_law_867 : decode cL_law 867 = .ok (.iadd, 1) := by decide +kernel
theorem dL_law_868 : decode cL_law 868 = .ok (.iaload, 1) := by decide +kernel
theorem dL_law_869 : decode cL_law 869 = .ok (.invokevirtual 118, 3) := by decide +kernel
theorem dL_law_872 : decode cL_law 872 = .ok (.if_icmp .eq 154, 3) := by decide +kernel
theorem dL_law_875 : decode cL_law 875 = .ok (.iconst 0, 1) := by decide +kernel
theorem dL_law_876 : decode cL_law 876 = .ok (.ireturn, 1) := by decide +kernel
theorem dL_law_877 : decode cL_law 877 = .ok (.aload_n 1, 1) := by decide +kernel
theorem dL_law_878 : decode cL_law 878 = .ok (.aload_n 0, 1) := by decide +kernel
theorem dL_law_879 : decode cL_law 879 = .ok (.iload_n 3, 1) := by decide +kernel
theorem dL_law_880 : decode cL_law 880 = .ok (.iconst 1, 1) := by decide +kernel
theorem dL_law_881 : decode cL_law 881 = .ok (.iadd, 1) := by decide +kernel
theorem dL_law_882 : decode cL_law 882 = .ok (.iaload, 1) := by decide +kernel
theorem dL_law_883 : decode cL_law 883 = .ok (.aload_n 0, 1) := by decide +kernel
theorem dL_law_884 : decode cL_law 884 = .ok (.iload_n 3, 1) := by decide +kernel
theorem dL_law_885 : decode cL_law 885 = .ok (.iconst 2, 1) := by decide +kernel
theorem dL_law_886 : decode cL_law 886 = .ok (.iadd, 1) := by decide +kernel
theorem dL_law_887 : decode cL_law 887 = .ok (.iaload, 1) := by decide +kernel
theorem dL_law_888 : decode cL_law 888 = .ok (.aload_n 0, 1) := by decide +kernel
theorem dL_law_889 : decode cL_law 889 = .ok (.iload_n 3, 1) := by decide +kernel
theorem dL_law_890 : decode cL_law 890 = .ok (.iconst 3, 1) := by decide +kernel
theorem dL_law_891 : decode cL_law 891 = .ok (.iadd, 1) := by decide +kernel
theorem dL_law_892 : decode cL_law 892 = .ok (.iaload, 1) := by decide +kernel
theorem dL_law_893 : decode cL_law 893 = .ok (.aload_n 0, 1) := by decide +kernel
theorem dL_law_894 : decode cL_law 894 = .ok (.iload_n 3, 1) := by decide +kernel
theorem dL_law_895 : decode cL_law 895 = .ok (.iconst 4, 1) := by decide +kernel
theorem dL_law_896 : decode cL_law 896 = .ok (.iadd, 1) := by decide +kernel
theorem dL_law_897 : decode cL_law 897 = .ok (.iaload, 1) := by decide +kernel
theorem dL_law_898 : decode cL_law 898 = .ok (.aload_n 0, 1) := by decide +kernel
theorem dL_law_899 : decode cL_law 899 = .ok (.iload_n 3, 1) := by decide +kernel
theorem dL_law_900 : decode cL_law 900 = .ok (.iconst 5, 1) := by decide +kernel
theorem dL_law_901 : decode cL_law 901 = .ok (.iadd, 1) := by decide +kernel
theorem dL_law_902 : decode cL_law 902 = .ok (.iaload, 1) := by decide +kernel
theorem dL_law_903 : decode cL_law 903 = .ok (.invokevirtual 119, 3) := by decide +kernel
theorem dL_law_906 : decode cL_law 906 = .ok (.aload_n 2, 1) := by decide +kernel
theorem dL_law_907 : decode cL_law 907 = .ok (.aload_n 0, 1) := by decide +kernel
theorem dL_law_908 : decode cL_law 908 = .ok (.iload_n 3, 1) := by decide +kernel
theorem dL_law_909 : decode cL_law 909 = .ok (.iconst 1, 1) := by decide +kernel
theorem dL_law_910 : decode cL_law 910 = .ok (.iadd, 1) := by decide +kernel
theorem dL_law_911 : decode cL_law 911 = .ok (.iaload, 1) := by decide +kernel
theorem dL_law_912 : decode cL_law 912 = .ok (.aload_n 0, 1) := by decide +kernel
theorem dL_law_913 : decode cL_law 913 = .ok (.iload_n 3, 1) := by decide +kernel
theorem dL_law_914 : decode cL_law 914 = .ok (.iconst 2, 1) := by decide +kernel
theorem dL_law_915 : decode cL_law 915 = .ok (.iadd, 1) := by decide +kernel
theorem dL_law_916 : decode cL_law 916 = .ok (.iaload, 1) := by decide +kernel
theorem dL_law_917 : decode cL_law 917 = .ok (.aload_n 0, 1) := by decide +kernel
theorem dL_law_918 : decode cL_law 918 = .ok (.iload_n 3, 1) := by decide +kernel
theorem dL_law_919 : decode cL_law 919 = .ok (.iconst 3, 1) := by decide +kernel
theorem dL_law_920 : decode cL_law 920 = .ok (.iadd, 1) := by decide +kernel
theorem dL_law_921 : decode cL_law 921 = .ok (.iaload, 1) := by decide +kernel
theorem dL_law_922 : decode cL_law 922 = .ok (.aload_n 0, 1) := by decide +kernel
theorem dL_law_923 : decode cL_law 923 = .ok (.iload_n 3, 1) := by decide +kernel
theorem dL_law_924 : decode cL_law 924 = .ok (.iconst 4, 1) := by decide +kernel
theorem dL_law_925 : decode cL_law 925 = .ok (.iadd, 1) := by decide +kernel
theorem dL_law_926 : decode cL_law 926 = .ok (.iaload, 1) := by decide +kernel
theorem dL_law_927 : decode cL_law 927 = .ok (.aload_n 0, 1) := by decide +kernel
theorem dL_law_928 : decode cL_law 928 = .ok (.iload_n 3, 1) := by decide +kernel
theorem dL_law_929 : decode cL_law 929 = .ok (.iconst 5, 1) := by decide +kernel
theorem dL_law_930 : decode cL_law 930 = .ok (.iadd, 1) := by decide +kernel
theorem dL_law_931 : decode cL_law 931 = .ok (.iaload, 1) := by decide +kernel
theorem dL_law_932 : decode cL_law 932 = .ok (.invokevirtual 123, 3) := by decide +kernel
theorem dL_law_935 : decode cL_law 935 = .ok (.if_icmp .eq 91, 3) := by decide +kernel
theorem dL_law_938 : decode cL_law 938 = .ok (.iconst 0, 1) := by decide +kernel
theorem dL_law_939 : decode cL_law 939 = .ok (.ireturn, 1) := by decide +kernel
theorem dL_law_940 : decode cL_law 940 = .ok (.aload_n 1, 1) := by decide +kernel
theorem dL_law_941 : decode cL_law 941 = .ok (.aload_n 0, 1) := by decide +kernel
theorem dL_law_942 : decode cL_law 942 = .ok (.iload_n 3, 1) := by decide +kernel
theorem dL_law_943 : decode cL_law 943 = .ok (.iconst 1, 1) := by decide +kernel
theorem dL_law_944 : decode cL_law 944 = .ok (.iadd, 1) := by decide +kernel
theorem dL_law_945 : decode cL_law 945 = .ok (.iaload, 1) := by decide +kernel
theorem dL_law_946 : decode cL_law 946 = .ok (.aload_n 0, 1) := by decide +kernel
theorem dL_law_947 : decode cL_law 947 = .ok (.iload_n 3, 1) := by decide +kernel
theorem dL_law_948 : decode cL_law 948 = .ok (.iconst 2, 1) := by decide +kernel
theorem dL_law_949 : decode cL_law 949 = .ok (.iadd, 1) := by decide +kernel
theorem dL_law_950 : decode cL_law 950 = .ok (.iaload, 1) := by decide +kernel
theorem dL_law_951 : decode cL_law 951 = .ok (.aload_n 0, 1) := by decide +kernel
theorem dL_law_952 : decode cL_law 952 = .ok (.iload_n 3, 1) := by decide +kernel
theorem dL_law_953 : decode cL_law 953 = .ok (.iconst 3, 1) := by decide +kernel
theorem dL_law_954 : decode cL_law 954 = .ok (.iadd, 1) := by decide +kernel
theorem dL_law_955 : decode cL_law 955 = .ok (.iaload, 1) := by decide +kernel
theorem dL_law_956 : decode cL_law 956 = .ok (.aload_n 0, 1) := by decide +kernel
theorem dL_law_957 : decode cL_law 957 = .ok (.iload_n 3, 1) := by decide +kernel
theorem dL_law_958 : decode cL_law 958 = .ok (.iconst 4, 1) := by decide +kernel
theorem dL_law_959 : decode cL_law 959 = .ok (.iadd, 1) := by decide +kernel
theorem dL_law_960 : decode cL_law 960 = .ok (.iaload, 1) := by decide +kernel
theorem dL_law_961 : decode cL_law 961 = .ok (.invokevirtual 124, 3) := by decide +kernel
theorem dL_law_964 : decode cL_law 964 = .ok (.aload_n 2, 1) := by decide +kernel
theorem dL_law_965 : decode cL_law 965 = .ok (.aload_n 0, 1) := by decide +kernel
theorem dL_law_966 : decode cL_law 966 = .ok (.iload_n 3, 1) := by decide +kernel
theorem dL_law_967 : decode cL_law 967 = .ok (.iconst 1, 1) := by decide +kernel
theorem dL_law_968 : decode cL_law 968 = .ok (.iadd, 1) := by decide +kernel
theorem dL_law_969 : decode cL_law 969 = .ok (.iaload, 1) := by decide +kernel
theorem dL_law_970 : decode cL_law 970 = .ok (.aload_n 0, 1) := by decide +kernel
theorem dL_law_971 : decode cL_law 971 = .ok (.iload_n 3, 1) := by decide +kernel
theorem dL_law_972 : decode cL_law 972 = .ok (.iconst 2, 1) := by decide +kernel
theorem dL_law_973 : decode cL_law 973 = .ok (.iadd, 1) := by decide +kernel
theorem dL_law_974 : decode cL_law 974 = .ok (.iaload, 1) := by decide +kernel
theorem dL_law_975 : decode cL_law 975 = .ok (.aload_n 0, 1) := by decide +kernel
theorem dL_law_976 : decode cL_law 976 = .ok (.iload_n 3, 1) := by decide +kernel
theorem dL_law_977 : decode cL_law 977 = .ok (.iconst 3, 1) := by decide +kernel
theorem dL_law_978 : decode cL_law 978 = .ok (.iadd, 1) := by decide +kernel
theorem dL_law_979 : decode cL_law 979 = .ok (.iaload, 1) := by decide +kernel
theorem dL_law_980 : decode cL_law 980 = .ok (.aload_n 0, 1) := by decide +kernel
theorem dL_law_981 : decode cL_law 981 = .ok (.iload_n 3, 1) := by decide +kernel
theorem dL_law_982 : decode cL_law 982 = .ok (.iconst 4, 1) := by decide +kernel
theorem dL_law_983 : decode cL_law 983 = .ok (.iadd, 1) := by decide +kernel
theorem dL_law_984 : decode cL_law 984 = .ok (.iaload, 1) := by decide +kernel
theorem dL_law_985 : decode cL_law 985 = .ok (.invokevirtual 128, 3) := by decide +kernel
theorem dL_law_988 : decode cL_law 988 = .ok (.if_icmp .eq 38, 3) := by decide +kernel
theorem dL_law_991 : decode cL_law 991 = .ok (.iconst 0, 1) := by decide +kernel
theorem dL_law_992 : decode cL_law 992 = .ok (.ireturn, 1) := by decide +kernel
theorem dL_law_993 : decode cL_law 993 = .ok (.aload_n 1, 1) := by decide +kernel
theorem dL_law_994 : decode cL_law 994 = .ok (.aload_n 0, 1) := by decide +kernel
theorem dL_law_995 : decode cL_law 995 = .ok (.iload_n 3, 1) := by decide +kernel
theorem dL_law_996 : decode cL_law 996 = .ok (.iconst 1, 1) := by decide +kernel
theorem dL_law_997 : decode cL_law 997 = .ok (.iadd, 1) := by decide +kernel
theorem dL_law_998 : decode cL_law 998 = .ok (.iaload, 1) := by decide +kernel
theorem dL_law_999 : decode cL_law 999 = .ok (.aload_n 0, 1) := by decide +kernel
theorem dL_law_1000 : decode cL_law 1000 = .ok (.iload_n 3, 1) := by decide +kernel
theorem dL_law_1001 : decode cL_law 1001 = .ok (.iconst 2, 1) := by decide +kernel
theorem dL_law_1002 : decode cL_law 1002 = .ok (.iadd, 1) := by decide +kernel
theorem dL_law_1003 : decode cL_law 1003 = .ok (.iaload, 1) := by decide +kernel
theorem dL_law_1004 : decode cL_law 1004 = .ok (.invokevirtual 129, 3) := by decide +kernel
theorem dL_law_1007 : decode cL_law 1007 = .ok (.aload_n 2, 1) := by decide +kernel
theorem dL_law_1008 : decode cL_law 1008 = .ok (.aload_n 0, 1) := by decide +kernel
theorem dL_law_1009 : decode cL_law 1009 = .ok (.iload_n 3, 1) := by decide +kernel
theorem dL_law_1010 : decode cL_law 1010 = .ok (.iconst 1, 1) := by decide +kernel
theorem dL_law_1011 : decode cL_law 1011 = .ok (.iadd, 1) := by decide +kernel
theorem dL_law_1012 : decode cL_law 1012 = .ok (.iaload, 1) := by decide +kernel
theorem dL_law_1013 : decode cL_law 1013 = .ok (.aload_n 0, 1) := by decide +kernel
theorem dL_law_1014 : decode cL_law 1014 = .ok (.iload_n 3, 1) := by decide +kernel
theorem dL_law_1015 : decode cL_law 1015 = .ok (.iconst 2, 1) := by decide +kernel
theorem dL_law_1016 : decode cL_law 1016 = .ok (.iadd, 1) := by decide +kernel
theorem dL_law_1017 : decode cL_law 1017 = .ok (.iaload, 1) := by decide +kernel
theorem dL_law_1018 : decode cL_law 1018 = .ok (.invokevirtual 132, 3) := by decide +kernel
theorem dL_law_1021 : decode cL_law 1021 = .ok (.if_icmp .eq 5, 3) := by decide +kernel
theorem dL_law_1024 : decode cL_law 1024 = .ok (.iconst 0, 1) := by decide +kernel
theorem dL_law_1025 : decode cL_law 1025 = .ok (.ireturn, 1) := by decide +kernel
theorem dL_law_1026 : decode cL_law 1026 = .ok (.iinc 3 6, 3) := by decide +kernel
theorem dL_law_1029 : decode cL_law 1029 = .ok (.goto (-1011), 3) := by decide +kernel
theorem dL_law_1032 : decode cL_law 1032 = .ok (.iconst 1, 1) := by decide +kernel
theorem dL_law_1033 : decode cL_law 1033 = .ok (.ireturn, 1) := by decide +kernel
theorem dX0_init_0 : decode cX0_init 0 = .ok (.aload_n 0, 1) := by decide +kernel
theorem dX0_init_1 : decode cX0_init 1 = .ok (.invokespecial 3, 3) := by decide +kernel
theorem dX0_init_4 : decode cX0_init 4 = .ok (.aload_n 0, 1) := by decide +kernel
theorem dX0_init_5 : decode cX0_init 5 = .ok (.iconst 0, 1) := by decide +kernel
theorem dX0_init_6 : decode cX0_init 6 = .ok (.putfield 9, 3) := by decide +kernel
theorem dX0_init_9 : decode cX0_init 9 = .ok (.aload_n 0, 1) := by decide +kernel
theorem dX0_init_10 : decode cX0_init 10 = .ok (.bipush 30, 2) := by decide +kernel
theorem dX0_init_12 : decode cX0_init 12 = .ok (.newarray .int, 2) := by decide +kernel
theorem dX0_init_14 : decode cX0_init 14 = .ok (.putfield 15, 3) := by decide +kernel
theorem dX0_init_17 : decode cX0_init 17 = .ok (.aload_n 0, 1) := by decide +kernel
theorem dX0_init_18 : decode cX0_init 18 = .ok (.iconst 0, 1) := by decide +kernel
theorem dX0_init_19 : decode cX0_init 19 = .ok (.putfield 19, 3) := by decide +kernel
theorem dX0_init_22 : decode cX0_init 22 = .ok (.aload_n 0, 1) := by decide +kernel
theorem dX0_init_23 : decode cX0_init 23 = .ok (.iconst 0, 1) := by decide +kernel
theorem dX0_init_24 : decode cX0_init 24 = .ok (.putfield 23, 3) := by decide +kernel
theorem dX0_init_27 : decode cX0_init 27 = .ok (.aload_n 0, 1) := by decide +kernel
theorem dX0_init_28 : decode cX0_init 28 = .ok (.iconst 0, 1) := by decide +kernel
theorem dX0_init_29 : decode cX0_init 29 = .ok (.putfield 26, 3) := by decide +kernel
theorem dX0_init_32 : decode cX0_init 32 = .ok (.aload_n 0, 1) := by decide +kernel
theorem dX0_init_33 : decode cX0_init 33 = .ok (.bipush 6, 2) := by decide +kernel
theorem dX0_init_35 : decode cX0_init 35 = .ok (.newarray .int, 2) := by decide +kernel
theorem dX0_init_37 : decode cX0_init 37 = .ok (.putfield 29, 3) := by decide +kernel
theorem dX0_init_40 : decode cX0_init 40 = .ok (.aload_n 0, 1) := by decide +kernel
theorem dX0_init_41 : decode cX0_init 41 = .ok (.bipush 6, 2) := by decide +kernel
theorem dX0_init_43 : decode cX0_init 43 = .ok (.newarray .int, 2) := by decide +kernel
theorem dX0_init_45 : decode cX0_init 45 = .ok (.putfield 32, 3) := by decide +kernel
theorem dX0_init_48 : decode cX0_init 48 = .ok (.return_, 1) := by decide +kernel
theorem dX1_init_0 : decode cX1_init 0 = .ok (.aload_n 0, 1) := by decide +kernel
theorem dX1_init_1 : decode cX1_init 1 = .ok (.invokespecial 3, 3) := by decide +kernel
theorem dX1_init_4 : decode cX1_init 4 = .ok (.aload_n 0, 1) := by decide +kernel
theorem dX1_init_5 : decode cX1_init 5 = .ok (.sipush 160, 3) := by decide +kernel
theorem dX1_init_8 : decode cX1_init 8 = .ok (.newarray .int, 2) := by decide +kernel
theorem dX1_init_10 : decode cX1_init 10 = .ok (.putfield 9, 3) := by decide +kernel
theorem dX1_init_13 : decode cX1_init 13 = .ok (.aload_n 0, 1) := by decide +kernel
theorem dX1_init_14 : decode cX1_init 14 = .ok (.iconst 0, 1) := by decide +kernel
theorem dX1_init_15 : decode cX1_init 15 = .ok (.putfield 15, 3) := by decide +kernel
theorem dX1_init_18 : decode cX1_init 18 = .ok (.aload_n 0, 1) := by decide +kernel
theorem dX1_init_19 : decode cX1_init 19 = .ok (.iconst 0, 1) := by decide +kernel
theorem dX1_init_20 : decode cX1_init 20 = .ok (.putfield 19, 3) := by decide +kernel
theorem dX1_init_23 : decode cX1_init 23 = .ok (.aload_n 0, 1) := by decide +kernel
theorem dX1_init_24 : decode cX1_init 24 = .ok (.sipush 161, 3) := by decide +kernel
theorem dX1_init_27 : decode cX1_init 27 = .ok (.newarray .int, 2) := by decide +kernel
theorem dX1_init_29 : decode cX1_init 29 = .ok (.putfield 22, 3) := by decide +kernel
theorem dX1_init_32 : decode cX1_init 32 = .ok (.aload_n 0, 1) := by decide +kernel
theorem dX1_init_33 : decode cX1_init 33 = .ok (.sipush 161, 3) := by decide +kernel
theorem dX1_init_36 : decode cX1_init 36 = .ok (.newarray .int, 2) := by decide +kernel
theorem dX1_init_38 : decode cX1_init 38 = .ok (.putfield 25, 3) := by decide +kernel
theorem dX1_init_41 : decode cX1_init 41 = .ok (.aload_n 0, 1) := by decide +kernel
theorem dX1_init_42 : decode cX1_init 42 = .ok (.sipush 161, 3) := by decide +kernel
theorem dX1_init_45 : decode cX1_init 45 = .ok (.newarray .int, 2) := by decide +kernel
theorem dX1_init_47 : decode cX1_init 47 = .ok (.putfield 28, 3) := by decide +kernel
theorem dX1_init_50 : decode cX1_init 50 = .ok (.aload_n 0, 1) := by decide +kernel
theorem dX1_init_51 : decode cX1_init 51 = .ok (.iconst 0, 1) := by decide +kernel
theorem dX1_init_52 : decode cX1_init 52 = .ok (.putfield 31, 3) := by decide +kernel
theorem dX1_init_55 : decode cX1_init 55 = .ok (.aload_n 0, 1) := by decide +kernel
theorem dX1_init_56 : decode cX1_init 56 = .ok (.iconst 0, 1) := by decide +kernel
theorem dX1_init_57 : decode cX1_init 57 = .ok (.putfield 34, 3) := by decide +kernel
theorem dX1_init_60 : decode cX1_init 60 = .ok (.aload_n 0, 1) := by decide +kernel
theorem dX1_init_61 : decode cX1_init 61 = .ok (.aconst_null, 1) := by decide +kernel
theorem dX1_init_62 : decode cX1_init 62 = .ok (.putfield 37, 3) := by decide +kernel
theorem dX1_init_65 : decode cX1_init 65 = .ok (.return_, 1) := by decide +kernel
theorem dX1_comesBehind_0 : decode cX1_comesBehind 0 = .ok (.aload_n 0, 1) := by decide +kernel
theorem dX1_comesBehind_1 : decode cX1_comesBehind 1 = .ok (.getfield 15, 3) := by decide +kernel
theorem dX1_comesBehind_4 : decode cX1_comesBehind 4 = .ok (.sipush 160, 3) := by decide +kernel
theorem dX1_comesBehind_7 : decode cX1_comesBehind 7 = .ok (.if_icmp .lt 5, 3) := by decide +kernel
theorem dX1_comesBehind_10 : decode cX1_comesBehind 10 = .ok (.iconst 0, 1) := by decide +kernel
theorem dX1_comesBehind_11 : decode cX1_comesBehind 11 = .ok (.ireturn, 1) := by decide +kernel
theorem dX1_comesBehind_12 : decode cX1_comesBehind 12 = .ok (.aload_n 0, 1) := by decide +kernel
theorem dX1_comesBehind_13 : decode cX1_comesBehind 13 = .ok (.getfield 9, 3) := by decide +kernel
theorem dX1_comesBehind_16 : decode cX1_comesBehind 16 = .ok (.aload_n 0, 1) := by decide +kernel
theorem dX1_comesBehind_17 : decode cX1_comesBehind 17 = .ok (.getfield 15, 3) := by decide +kernel
theorem dX1_comesBehind_20 : decode cX1_comesBehind 20 = .ok (.iload_n 1, 1) := by decide +kernel
theorem dX1_comesBehind_21 : decode cX1_comesBehind 21 = .ok (.iastore, 1) := by decide +kernel
theorem dX1_comesBehind_22 : decode cX1_comesBehind 22 = .ok (.aload_n 0, 1) := by decide +kernel
theorem dX1_comesBehind_23 : decode cX1_comesBehind 23 = .ok (.dup, 1) := by decide +kernel
theorem dX1_comesBehind_24 : decode cX1_comesBehind 24 = .ok (.getfield 15, 3) := by decide +kernel
theorem dX1_comesBehind_27 : decode cX1_comesBehind 27 = .ok (.iconst 1, 1) := by decide +kernel
theorem dX1_comesBehind_28 : decode cX1_comesBehind 28 = .ok (.iadd, 1) := by decide +kernel
theorem dX1_comesBehind_29 : decode cX1_comesBehind 29 = .ok (.putfield 15, 3) := by decide +kernel
theorem dX1_comesBehind_32 : decode cX1_comesBehind 32 = .ok (.iconst 1, 1) := by decide +kernel
theorem dX1_comesBehind_33 : decode cX1_comesBehind 33 = .ok (.ireturn, 1) := by decide +kernel
theorem dX1_readsInto_0 : decode cX1_readsInto 0 = .ok (.aload_n 1, 1) := by decide +kernel
theorem dX1_readsInto_1 : decode cX1_readsInto 1 = .ok (.ifnonnull 5, 3) := by decide +kernel
theorem dX1_readsInto_4 : decode cX1_readsInto 4 = .ok (.iconst 0, 1) := by decide +kernel
theorem dX1_readsInto_5 : decode cX1_readsInto 5 = .ok (.ireturn, 1) := by decide +kernel
theorem dX1_readsInto_6 : decode cX1_readsInto 6 = .ok (.aload_n 1, 1) := by decide +kernel
theorem dX1_readsInto_7 : decode cX1_readsInto 7 = .ok (.invokevirtual 41, 3) := by decide +kernel
theorem dX1_readsInto_10 : decode cX1_readsInto 10 = .ok (.aload_n 0, 1) := by decide +kernel
theorem dX1_readsInto_11 : decode cX1_readsInto 11 = .ok (.aload_n 1, 1) := by decide +kernel
theorem dX1_readsInto_12 : decode cX1_readsInto 12 = .ok (.putfield 37, 3) := by decide +kernel
theorem dX1_readsInto_15 : decode cX1_readsInto 15 = .ok (.aload_n 0, 1) := by decide +kernel
theorem dX1_readsInto_16 : decode cX1_readsInto 16 = .ok (.invokevirtual 46, 3) := by decide +kernel
theorem dX1_readsInto_19 : decode cX1_readsInto 19 = .ok (.aload_n 0, 1) := by decide +kernel
theorem dX1_readsInto_20 : decode cX1_readsInto 20 = .ok (.iconst 0, 1) := by decide +kernel
theorem dX1_readsInto_21 : decode cX1_readsInto 21 = .ok (.putfield 34, 3) := by decide +kernel
theorem dX1_readsInto_24 : decode cX1_readsInto 24 = .ok (.aload_n 0, 1) := by decide +kernel
theorem dX1_readsInto_25 : decode cX1_readsInto 25 = .ok (.iconst 0, 1) := by decide +kernel
theorem dX1_readsInto_26 : decode cX1_readsInto 26 = .ok (.putfield 19, 3) := by decide +kernel
theorem dX1_readsInto_29 : decode cX1_readsInto 29 = .ok (.aload_n 0, 1) := by decide +kernel
theorem dX1_readsInto_30 : decode cX1_readsInto 30 = .ok (.sipush 301, 3) := by decide +kernel
theorem dX1_readsInto_33 : decode cX1_readsInto 33 = .ok (.iconst 0, 1) := by decide +kernel
theorem dX1_readsInto_34 : decode cX1_readsInto 34 = .ok (.invokevirtual 49, 3) := by decide +kernel
theorem dX1_readsInto_37 : decode cX1_readsInto 37 = .ok (.ifCond .eq 37, 3) := by decide +kernel
theorem dX1_readsInto_40 : decode cX1_readsInto 40 = .ok (.aload_n 0, 1) := by decide +kernel
theorem dX1_readsInto_41 : decode cX1_readsInto 41 = .ok (.sipush 302, 3) := by decide +kernel
theorem dX1_readsInto_44 : decode cX1_readsInto 44 = .ok (.iconst 1, 1) := by decide +kernel
theorem dX1_readsInto_45 : decode cX1_readsInto 45 = .ok (.invokevirtual 49, 3) := by decide +kernel
theorem dX1_readsInto_48 : decode cX1_readsInto 48 = .ok (.ifCond .eq 26, 3) := by decide +kernel
theorem dX1_readsInto_51 : decode cX1_readsInto 51 = .ok (.aload_n 0, 1) := by decide +kernel
theorem dX1_readsInto_52 : decode cX1_readsInto 52 = .ok (.sipush 303, 3) := by decide +kernel
theorem dX1_readsInto_55 : decode cX1_readsInto 55 = .ok (.iconst 2, 1) := by decide +kernel
theorem dX1_readsInto_56 : decode cX1_readsInto 56 = .ok (.invokevirtual 49, 3) := by decide +kernel
theorem dX1_readsInto_59 : decode cX1_readsInto 59 = .ok (.ifCond .eq 15, 3) := by decide +kernel
theorem dX1_readsInto_62 : decode cX1_readsInto 62 = .ok (.aload_n 0, 1) := by decide +kernel
theorem dX1_readsInto_63 : decode cX1_readsInto 63 = .ok (.iconst 0, 1) := by decide +kernel
theorem dX1_readsInto_64 : decode cX1_readsInto 64 = .ok (.invokevirtual 53, 3) := by decide +kernel
theorem dX1_readsInto_67 : decode cX1_readsInto 67 = .ok (.ifCond .eq 7, 3) := by decide +kernel
theorem dX1_readsInto_70 : decode cX1_readsInto 70 = .ok (.iconst 1, 1) := by decide +kernel
theorem dX1_readsInto_71 : decode cX1_readsInto 71 = .ok (.goto 4, 3) := by decide +kernel
theorem dX1_readsInto_74 : decode cX1_readsInto 74 = .ok (.iconst 0, 1) := by decide +kernel
theorem dX1_readsInto_75 : decode cX1_readsInto 75 = .ok (.ireturn, 1) := by decide +kernel
theorem dX1_scan_0 : decode cX1_scan 0 = .ok (.aload_n 0, 1) := by decide +kernel
theorem dX1_scan_1 : decode cX1_scan 1 = .ok (.iconst 0, 1) := by decide +kernel
theorem dX1_scan_2 : decode cX1_scan 2 = .ok (.putfield 31, 3) := by decide +kernel
theorem dX1_scan_5 : decode cX1_scan 5 = .ok (.iconst 0, 1) := by decide +kernel
theorem dX1_scan_6 : decode cX1_scan 6 = .ok (.istore_n 1, 1) := by decide +kernel
theorem dX1_scan_7 : decode cX1_scan 7 = .ok (.iconst 0, 1) := by decide +kernel
theorem dX1_scan_8 : decode cX1_scan 8 = .ok (.istore_n 2, 1) := by decide +kernel
theorem dX1_scan_9 : decode cX1_scan 9 = .ok (.iload_n 2, 1) := by decide +kernel
theorem dX1_scan_10 : decode cX1_scan 10 = .ok (.aload_n 0, 1) := by decide +kernel
theorem dX1_scan_11 : decode cX1_scan 11 = .ok (.getfield 15, 3) := by decide +kernel
theorem dX1_scan_14 : decode cX1_scan 14 = .ok (.if_icmp .ge 59, 3) := by decide +kernel
theorem dX1_scan_17 : decode cX1_scan 17 = .ok (.iload_n 2, 1) := by decide +kernel
theorem dX1_scan_18 : decode cX1_scan 18 = .ok (.sipush 160, 3) := by decide +kernel
theorem dX1_scan_21 : decode cX1_scan 21 = .ok (.if_icmp .ge 52, 3) := by decide +kernel
theorem dX1_scan_24 : decode cX1_scan 24 = .ok (.aload_n 0, 1) := by decide +kernel
theorem dX1_scan_25 : decode cX1_scan 25 = .ok (.getfield 9, 3) := by decide +kernel
theorem dX1_scan_28 : decode cX1_scan 28 = .ok (.iload_n 2, 1) := by decide +kernel
theorem dX1_scan_29 : decode cX1_scan 29 = .ok (.iaload, 1) := by decide +kernel
theorem dX1_scan_30 : decode cX1_scan 30 = .ok (.bipush 32, 2) := by decide +kernel
theorem dX1_scan_32 : decode cX1_scan 32 = .ok (.if_icmp .eq 14, 3) := by decide +kernel
theorem dX1_scan_35 : decode cX1_scan 35 = .ok (.aload_n 0, 1) := by decide +kernel
theorem dX1_scan_36 : decode cX1_scan 36 = .ok (.getfield 9, 3) := by decide +kernel
theorem dX1_scan_39 : decode cX1_scan 39 = .ok (.iload_n 2, 1) := by decide +kernel
theorem dX1_scan_40 : decode cX1_scan 40 = .ok (.iaload, 1) := by decide +kernel
theorem dX1_scan_41 : decode cX1_scan 41 = .ok (.bipush 10, 2) := by decide +kernel
theorem dX1_scan_43 : decode cX1_scan 43 = .ok (.if_icmp .ne 7, 3) := by decide +kernel
theorem dX1_scan_46 : decode cX1_scan 46 = .ok (.iconst 1, 1) := by decide +kernel
theorem dX1_scan_47 : decode cX1_scan 47 = .ok (.goto 4, 3) := by decide +kernel
theorem dX1_scan_50 : decode cX1_scan 50 = .ok (.iconst 0, 1) := by decide +kernel
theorem dX1_scan_51 : decode cX1_scan 51 = .ok (.istore_n 3, 1) := by decide +kernel
theorem dX1_scan_52 : decode cX1_scan 52 = .ok (.iload_n 2, 1) := by decide +kernel
theorem dX1_scan_53 : decode cX1_scan 53 = .ok (.iload_n 1, 1) := by decide +kernel
theorem dX1_scan_54 : decode cX1_scan 54 = .ok (.if_icmp .lt 13, 3) := by decide +kernel
theorem dX1_scan_57 : decode cX1_scan 57 = .ok (.iload_n 3, 1) := by decide +kernel
theorem dX1_scan_58 : decode cX1_scan 58 = .ok (.ifCond .ne 9, 3) := by decide +kernel
theorem dX1_scan_61 : decode cX1_scan 61 = .ok (.aload_n 0, 1) := by decide +kernel
theorem dX1_scan_62 : decode cX1_scan 62 = .ok (.iload_n 2, 1) := by decide +kernel
theorem dX1_scan_63 : decode cX1_scan 63 = .ok (.invokevirtual 57, 3) := by decide +kernel
theorem dX1_scan_66 : decode cX1_scan 66 = .ok (.istore_n 1, 1) := by decide +kernel
theorem dX1_scan_67 : decode cX1_scan 67 = .ok (.iinc 2 1, 3) := by decide +kernel
theorem dX1_scan_70 : decode cX1_scan 70 = .ok (.goto (-61), 3) := by decide +kernel
theorem dX1_scan_73 : decode cX1_scan 73 = .ok (.aload_n 0, 1) := by decide +kernel
theorem dX1_scan_74 : decode cX1_scan 74 = .ok (.iconst 0, 1) := by decide +kernel
theorem dX1_scan_75 : decode cX1_scan 75 = .ok (.iconst 0, 1) := by decide +kernel
theorem dX1_scan_76 : decode cX1_scan 76 = .ok (.aload_n 0, 1) := by decide +kernel
theorem dX1_scan_77 : decode cX1_scan 77 = .ok (.getfield 15, 3) := by decide +kernel
theorem dX1_scan_80 : decode cX1_scan 80 = .ok (.invokevirtual 61, 3) := by decide +kernel
theorem dX1_scan_83 : decode cX1_scan 83 = .ok (.return_, 1) := by decide +kernel
theorem dX1_scanToken_0 : decode cX1_scanToken 0 = .ok (.aload_n 0, 1) := by decide +kernel
theorem dX1_scanToken_1 : decode cX1_scanToken 1 = .ok (.iload_n 1, 1) := by decide +kernel
theorem dX1_scanToken_2 : decode cX1_scanToken 2 = .ok (.invokevirtual 65, 3) := by decide +kernel
theorem dX1_scanToken_5 : decode cX1_scanToken 5 = .ok (.istore_n 2, 1) := by decide +kernel
theorem dX1_scanToken_6 : decode cX1_scanToken 6 = .ok (.iload_n 2, 1) := by decide +kernel
theorem dX1_scanToken_7 : decode cX1_scanToken 7 = .ok (.bipush 97, 2) := by decide +kernel
theorem dX1_scanToken_9 : decode cX1_scanToken 9 = .ok (.if_icmp .lt 54, 3) := by decide +kernel
theorem dX1_scanToken_12 : decode cX1_scanToken 12 = .ok (.iload_n 2, 1) := by decide +kernel
theorem dX1_scanToken_13 : decode cX1_scanToken 13 = .ok (.bipush 122, 2) := by decide +kernel
theorem dX1_scanToken_15 : decode cX1_scanToken 15 = .ok (.if_icmp .gt 48, 3) := by decide +kernel
theorem dX1_scanToken_18 : decode cX1_scanToken 18 = .ok (.aload_n 0, 1) := by decide +kernel
theorem dX1_scanToken_19 : decode cX1_scanToken 19 = .ok (.iload_n 1, 1) := by decide +kernel
theorem dX1_scanToken_20 : decode cX1_scanToken 20 = .ok (.bipush 97, 2) := by decide +kernel
theorem dX1_scanToken_22 : decode cX1_scanToken 22 = .ok (.bipush 122, 2) := by decide +kernel
theorem dX1_scanToken_24 : decode cX1_scanToken 24 = .ok (.invokevirtual 68, 3) := by decide +kernel
theorem dX1_scanToken_27 : decode cX1_scanToken 27 = .ok (.istore_n 3, 1) := by decide +kernel
theorem dX1_scanToken_28 : decode cX1_scanToken 28 = .ok (.aload_n 0, 1) := by decide +kernel
theorem dX1_scanToken_29 : decode cX1_scanToken 29 = .ok (.iload_n 1, 1) := by decide +kernel
theorem dX1_scanToken_30 : decode cX1_scanToken 30 = .ok (.iload_n 3, 1) := by decide +kernel
theorem dX1_scanToken_31 : decode cX1_scanToken 31 = .ok (.invokevirtual 72, 3) := by decide +kernel
theorem dX1_scanToken_34 : decode cX1_scanToken 34 = .ok (.istore 4, 2) := by decide +kernel
theorem dX1_scanToken_36 : decode cX1_scanToken 36 = .ok (.aload_n 0, 1) := by decide +kernel
theorem dX1_scanToken_37 : decode cX1_scanToken 37 = .ok (.iload 4, 2) := by decide +kernel
theorem dX1_scanToken_39 : decode cX1_scanToken 39 = .ok (.iconst (-1), 1) := by decide +kernel
theorem dX1_scanToken_40 : decode cX1_scanToken 40 = .ok (.if_icmp .ne 12, 3) := by decide +kernel
theorem dX1_scanToken_43 : decode cX1_scanToken 43 = .ok (.aload_n 0, 1) := by decide +kernel
theorem dX1_scanToken_44 : decode cX1_scanToken 44 = .ok (.iload_n 1, 1) := by decide +kernel
theorem dX1_scanToken_45 : decode cX1_scanToken 45 = .ok (.iload_n 3, 1) := by decide +kernel
theorem dX1_scanToken_46 : decode cX1_scanToken 46 = .ok (.invokevirtual 76, 3) := by decide +kernel
theorem dX1_scanToken_49 : decode cX1_scanToken 49 = .ok (.goto 4, 3) := by decide +kernel
theorem dX1_scanToken_52 : decode cX1_scanToken 52 = .ok (.iconst 3, 1) := by decide +kernel
theorem dX1_scanToken_53 : decode cX1_scanToken 53 = .ok (.iconst (-1), 1) := by decide +kernel
theorem dX1_scanToken_54 : decode cX1_scanToken 54 = .ok (.iload 4, 2) := by decide +kernel
theorem dX1_scanToken_56 : decode cX1_scanToken 56 = .ok (.isub, 1) := by decide +kernel
theorem dX1_scanToken_57 : decode cX1_scanToken 57 = .ok (.iload_n 1, 1) := by decide +kernel
theorem dX1_scanToken_58 : decode cX1_scanToken 58 = .ok (.invokevirtual 61, 3) := by decide +kernel
theorem dX1_scanToken_61 : decode cX1_scanToken 61 = .ok (.iload_n 3, 1) := by decide +kernel
theorem dX1_scanToken_62 : decode cX1_scanToken 62 = .ok (.ireturn, 1) := by decide +kernel
theorem dX1_scanToken_63 : decode cX1_scanToken 63 = .ok (.iload_n 2, 1) := by decide +kernel
theorem dX1_scanToken_64 : decode cX1_scanToken 64 = .ok (.bipush 48, 2) := by decide +kernel
theorem dX1_scanToken_66 : decode cX1_scanToken 66 = .ok (.if_icmp .lt 65, 3) := by decide +kernel
theorem dX1_scanToken_69 : decode cX1_scanToken 69 = .ok (.iload_n 2, 1) := by decide +kernel
theorem dX1_scanToken_70 : decode cX1_scanToken 70 = .ok (.bipush 57, 2) := by decide +kernel
theorem dX1_scanToken_72 : decode cX1_scanToken 72 = .ok (.if_icmp .gt 59, 3) := by decide +kernel
theorem dX1_scanToken_75 : decode cX1_scanToken 75 = .ok (.aload_n 0, 1) := by decide +kernel
theorem dX1_scanToken_76 : decode cX1_scanToken 76 = .ok (.iload_n 1, 1) := by decide +kernel
theorem dX1_scanToken_77 : decode cX1_scanToken 77 = .ok (.bipush 48, 2) := by decide +kernel
theorem dX1_scanToken_79 : decode cX1_scanToken 79 = .ok (.bipush 57, 2) := by decide +kernel
theorem dX1_scanToken_81 : decode cX1_scanToken 81 = .ok (.invokevirtual 68, 3) := by decide +kernel
theorem dX1_scanToken_84 : decode cX1_scanToken 84 = .ok (.istore_n 3, 1) := by decide +kernel
theorem dX1_scanToken_85 : decode cX1_scanToken 85 = .ok (.iload_n 3, 1) := by decide +kernel
theorem dX1_scanToken_86 : decode cX1_scanToken 86 = .ok (.iload_n 1, 1) := by decide +kernel
theorem dX1_scanToken_87 : decode cX1_scanToken 87 = .ok (.isub, 1) := by decide +kernel
theorem dX1_scanToken_88 : decode cX1_scanToken 88 = .ok (.iconst 4, 1) := by decide +kernel
theorem dX1_scanToken_89 : decode cX1_scanToken 89 = .ok (.if_icmp .gt 7, 3) := by decide +kernel
theorem dX1_scanToken_92 : decode cX1_scanToken 92 = .ok (.iconst 1, 1) := by decide +kernel
theorem dX1_scanToken_93 : decode cX1_scanToken 93 = .ok (.goto 4, 3) := by decide +kernel
theorem dX1_scanToken_96 : decode cX1_scanToken 96 = .ok (.iconst 0, 1) := by decide +kernel
theorem dX1_scanToken_97 : decode cX1_scanToken 97 = .ok (.istore 4, 2) := by decide +kernel
theorem dX1_scanToken_99 : decode cX1_scanToken 99 = .ok (.aload_n 0, 1) := by decide +kernel
theorem dX1_scanToken_100 : decode cX1_scanToken 100 = .ok (.iload 4, 2) := by decide +kernel
theorem dX1_scanToken_102 : decode cX1_scanToken 102 = .ok (.ifCond .eq 7, 3) := by decide +kernel
theorem dX1_scanToken_105 : decode cX1_scanToken 105 = .ok (.iconst 2, 1) := by decide +kernel
theorem dX1_scanToken_106 : decode cX1_scanToken 106 = .ok (.goto 4, 3) := by decide +kernel
theorem dX1_scanToken_109 : decode cX1_scanToken 109 = .ok (.iconst 1, 1) := by decide +kernel
theorem dX1_scanToken_110 : decode cX1_scanToken 110 = .ok (.iload 4, 2) := by decide +kernel
theorem dX1_scanToken_112 : decode cX1_scanToken 112 = .ok (.ifCond .eq 12, 3) := by decide +kernel
theorem dX1_scanToken_115 : decode cX1_scanToken 115 = .ok (.aload_n 0, 1) := by decide +kernel
theorem dX1_scanToken_116 : decode cX1_scanToken 116 = .ok (.iload_n 1, 1) := by decide +kernel
theorem dX1_scanToken_117 : decode cX1_scanToken 117 = .ok (.iload_n 3, 1) := by decide +kernel
theorem dX1_scanToken_118 : decode cX1_scanToken 118 = .ok (.invokevirtual 79, 3) := by decide +kernel
theorem dX1_scanToken_121 : decode cX1_scanToken 121 = .ok (.goto 4, 3) := by decide +kernel
theorem dX1_scanToken_124 : decode cX1_scanToken 124 = .ok (.iconst 0, 1) := by decide +kernel
theorem dX1_scanToken_125 : decode cX1_scanToken 125 = .ok (.iload_n 1, 1) := by decide +kernel
theorem dX1_scanToken_126 : decode cX1_scanToken 126 = .ok (.invokevirtual 61, 3) := by decide +kernel
theorem dX1_scanToken_129 : decode cX1_scanToken 129 = .ok (.iload_n 3, 1) := by decide +kernel
theorem dX1_scanToken_130 : decode cX1_scanToken 130 = .ok (.ireturn, 1) := by decide +kernel
theorem dX1_scanToken_131 : decode cX1_scanToken 131 = .ok (.aload_n 0, 1) := by decide +kernel
theorem dX1_scanToken_132 : decode cX1_scanToken 132 = .ok (.iload_n 2, 1) := by decide +kernel
theorem dX1_scanToken_133 : decode cX1_scanToken 133 = .ok (.invokestatic 82, 3) := by decide +kernel
theorem dX1_scanToken_136 : decode cX1_scanToken 136 = .ok (.ifCond .eq 7, 3) := by decide +kernel
theorem dX1_scanToken_139 : decode cX1_scanToken 139 = .ok (.iload_n 2, 1) := by decide +kernel
theorem dX1_scanToken_140 : decode cX1_scanToken 140 = .ok (.goto 4, 3) := by decide +kernel
theorem dX1_scanToken_143 : decode cX1_scanToken 143 = .ok (.iconst 1, 1) := by decide +kernel
theorem dX1_scanToken_144 : decode cX1_scanToken 144 = .ok (.iconst 0, 1) := by decide +kernel
theorem dX1_scanToken_145 : decode cX1_scanToken 145 = .ok (.iload_n 1, 1) := by decide +kernel
theorem dX1_scanToken_146 : decode cX1_scanToken 146 = .ok (.invokevirtual 61, 3) := by decide +kernel
theorem dX1_scanToken_149 : decode cX1_scanToken 149 = .ok (.iload_n 1, 1) := by decide +kernel
theorem dX1_scanToken_150 : decode cX1_scanToken 150 = .ok (.iconst 1, 1) := by decide +kernel
theorem dX1_scanToken_151 : decode cX1_scanToken 151 = .ok (.iadd, 1) := by decide +kernel
theorem dX1_scanToken_152 : decode cX1_scanToken 152 = .ok (.ireturn, 1) := by decide +kernel
theorem dX1_endOf_0 : decode cX1_endOf 0 = .ok (.iload_n 1, 1) := by decide +kernel
theorem dX1_endOf_1 : decode cX1_endOf 1 = .ok (.istore 4, 2) := by decide +kernel
theorem dX1_endOf_3 : decode cX1_endOf 3 = .ok (.iload 4, 2) := by decide +kernel
theorem dX1_endOf_5 : decode cX1_endOf 5 = .ok (.sipush 160, 3) := by decide +kernel
theorem dX1_endOf_8 : decode cX1_endOf 8 = .ok (.if_icmp .ge 29, 3) := by decide +kernel
theorem dX1_endOf_11 : decode cX1_endOf 11 = .ok (.aload_n 0, 1) := by decide +kernel
theorem dX1_endOf_12 : decode cX1_endOf 12 = .ok (.iload 4, 2) := by decide +kernel
theorem dX1_endOf_14 : decode cX1_endOf 14 = .ok (.invokevirtual 65, 3) := by decide +kernel
theorem dX1_endOf_17 : decode cX1_endOf 17 = .ok (.iload_n 2, 1) := by decide +kernel
theorem dX1_endOf_18 : decode cX1_endOf 18 = .ok (.if_icmp .lt 19, 3) := by decide +kernel
theorem dX1_endOf_21 : decode cX1_endOf 21 = .ok (.aload_n 0, 1) := by decide +kernel
theorem dX1_endOf_22 : decode cX1_endOf 22 = .ok (.iload 4, 2) := by decide +kernel
theorem dX1_endOf_24 : decode cX1_endOf 24 = .ok (.invokevirtual 65, 3) := by decide +kernel
theorem dX1_endOf_27 : decode cX1_endOf 27 = .ok (.iload_n 3, 1) := by decide +kernel
theorem dX1_endOf_28 : decode cX1_endOf 28 = .ok (.if_icmp .gt 9, 3) := by decide +kernel
theorem dX1_endOf_31 : decode cX1_endOf 31 = .ok (.iinc 4 1, 3) := by decide +kernel
theorem dX1_endOf_34 : decode cX1_endOf 34 = .ok (.goto (-31), 3) := by decide +kernel
theorem dX1_endOf_37 : decode cX1_endOf 37 = .ok (.iload 4, 2) := by decide +kernel
theorem dX1_endOf_39 : decode cX1_endOf 39 = .ok (.ireturn, 1) := by decide +kernel
theorem dX1_numberOf_0 : decode cX1_numberOf 0 = .ok (.iconst 0, 1) := by decide +kernel
theorem dX1_numberOf_1 : decode cX1_numberOf 1 = .ok (.istore_n 3, 1) := by decide +kernel
theorem dX1_numberOf_2 : decode cX1_numberOf 2 = .ok (.iload_n 1, 1) := by decide +kernel
theorem dX1_numberOf_3 : decode cX1_numberOf 3 = .ok (.istore 4, 2) := by decide +kernel
theorem dX1_numberOf_5 : decode cX1_numberOf 5 = .ok (.iload 4, 2) := by decide +kernel
theorem dX1_numberOf_7 : decode cX1_numberOf 7 = .ok (.iload_n 2, 1) := by decide +kernel
theorem dX1_numberOf_8 : decode cX1_numberOf 8 = .ok (.if_icmp .ge 24, 3) := by decide +kernel
theorem dX1_numberOf_11 : decode cX1_numberOf 11 = .ok (.iload_n 3, 1) := by decide +kernel
theorem dX1_numberOf_12 : decode cX1_numberOf 12 = .ok (.bipush 10, 2) := by decide +kernel
theorem dX1_numberOf_14 : decode cX1_numberOf 14 = .ok (.imul, 1) := by decide +kernel
theorem dX1_numberOf_15 : decode cX1_numberOf 15 = .ok (.aload_n 0, 1) := by decide +kernel
theorem dX1_numberOf_16 : decode cX1_numberOf 16 = .ok (.iload 4, 2) := by decide +kernel
theorem dX1_numberOf_18 : decode cX1_numberOf 18 = .ok (.invokevirtual 65, 3) := by decide +kernel
theorem dX1_numberOf_21 : decode cX1_numberOf 21 = .ok (.iadd, 1) := by decide +kernel
theorem dX1_numberOf_22 : decode cX1_numberOf 22 = .ok (.bipush 48, 2) := by decide +kernel
theorem dX1_numberOf_24 : decode cX1_numberOf 24 = .ok (.isub, 1) := by decide +kernel
theorem dX1_numberOf_25 : decode cX1_numberOf 25 = .ok (.istore_n 3, 1) := by decide +kernel
theorem dX1_numberOf_26 : decode cX1_numberOf 26 = .ok (.iinc 4 1, 3) := by decide +kernel
theorem dX1_numberOf_29 : decode cX1_numberOf 29 = .ok (.goto (-24), 3) := by decide +kernel
theorem dX1_numberOf_32 : decode cX1_numberOf 32 = .ok (.iload_n 3, 1) := by decide +kernel
theorem dX1_numberOf_33 : decode cX1_numberOf 33 = .ok (.ireturn, 1) := by decide +kernel
theorem dX1_byteAt_0 : decode cX1_byteAt 0 = .ok (.iload_n 1, 1) := by decide +kernel
theorem dX1_byteAt_1 : decode cX1_byteAt 1 = .ok (.ifCond .lt 27, 3) := by decide +kernel
theorem dX1_byteAt_4 : decode cX1_byteAt 4 = .ok (.iload_n 1, 1) := by decide +kernel
theorem dX1_byteAt_5 : decode cX1_byteAt 5 = .ok (.aload_n 0, 1) := by decide +kernel
theorem dX1_byteAt_6 : decode cX1_byteAt 6 = .ok (.getfield 15, 3) := by decide +kernel
theorem dX1_byteAt_9 : decode cX1_byteAt 9 = .ok (.if_icmp .ge 19, 3) := by decide +kernel
theorem dX1_byteAt_12 : decode cX1_byteAt 12 = .ok (.iload_n 1, 1) := by decide +kernel
theorem dX1_byteAt_13 : decode cX1_byteAt 13 = .ok (.sipush 160, 3) := by decide +kernel
theorem dX1_byteAt_16 : decode cX1_byteAt 16 = .ok (.if_icmp .ge 12, 3) := by decide +kernel
theorem dX1_byteAt_19 : decode cX1_byteAt 19 = .ok (.aload_n 0, 1) := by decide +kernel
theorem dX1_byteAt_20 : decode cX1_byteAt 20 = .ok (.getfield 9, 3) := by decide +kernel
theorem dX1_byteAt_23 : decode cX1_byteAt 23 = .ok (.iload_n 1, 1) := by decide +kernel
theorem dX1_byteAt_24 : decode cX1_byteAt 24 = .ok (.iaload, 1) := by decide +kernel
theorem dX1_byteAt_25 : decode cX1_byteAt 25 = .ok (.goto 4, 3) := by decide +kernel
theorem dX1_byteAt_28 : decode cX1_byteAt 28 = .ok (.iconst (-1), 1) := by decide +kernel
theorem dX1_byteAt_29 : decode cX1_byteAt 29 = .ok (.ireturn, 1) := by decide +kernel
theorem dX1_isSign_0 : decode cX1_isSign 0 = .ok (.iload_n 0, 1) := by decide +kernel
theorem dX1_isSign_1 : decode cX1_isSign 1 = .ok (.bipush 40, 2) := by decide +kernel
theorem dX1_isSign_3 : decode cX1_isSign 3 = .ok (.if_icmp .eq 45, 3) := by decide +kernel
theorem dX1_isSign_6 : decode cX1_isSign 6 = .ok (.iload_n 0, 1) := by decide +kernel
theorem dX1_isSign_7 : decode cX1_isSign 7 = .ok (.bipush 41, 2) := by decide +kernel
theorem dX1_isSign_9 : decode cX1_isSign 9 = .ok (.if_icmp .eq 39, 3) := by decide +kernel
theorem dX1_isSign_12 : decode cX1_isSign 12 = .ok (.iload_n 0, 1) := by decide +kernel
theorem dX1_isSign_13 : decode cX1_isSign 13 = .ok (.bipush 59, 2) := by decide +kernel
theorem dX1_isSign_15 : decode cX1_isSign 15 = .ok (.if_icmp .eq 33, 3) := by decide +kernel
theorem dX1_isSign_18 : decode cX1_isSign 18 = .ok (.iload_n 0, 1) := by decide +kernel
theorem dX1_isSign_19 : decode cX1_isSign 19 = .ok (.bipush 43, 2) := by decide +kernel
theorem dX1_isSign_21 : decode cX1_isSign 21 = .ok (.if_icmp .eq 27, 3) := by decide +kernel
theorem dX1_isSign_24 : decode cX1_isSign 24 = .ok (.iload_n 0, 1) := by decide +kernel
theorem dX1_isSign_25 : decode cX1_isSign 25 = .ok (.bipush 45, 2) := by decide +kernel
theorem dX1_isSign_27 : decode cX1_isSign 27 = .ok (.if_icmp .eq 21, 3) := by decide +kernel
theorem dX1_isSign_30 : decode cX1_isSign 30 = .ok (.iload_n 0, 1) := by decide +kernel
theorem dX1_isSign_31 : decode cX1_isSign 31 = .ok (.bipush 42, 2) := by decide +kernel
theorem dX1_isSign_33 : decode cX1_isSign 33 = .ok (.if_icmp .eq 15, 3) := by decide +kernel
theorem dX1_isSign_36 : decode cX1_isSign 36 = .ok (.iload_n 0, 1) := by decide +kernel
theorem dX1_isSign_37 : decode cX1_isSign 37 = .ok (.bipush 60, 2) := by decide +kernel
theorem dX1_isSign_39 : decode cX1_isSign 39 = .ok (.if_icmp .eq 9, 3) := by decide +kernel
theorem dX1_isSign_42 : decode cX1_isSign 42 = .ok (.iload_n 0, 1) := by decide +kernel
theorem dX1_isSign_43 : decode cX1_isSign 43 = .ok (.bipush 61, 2) := by decide +kernel
theorem dX1_isSign_45 : decode cX1_isSign 45 = .ok (.if_icmp .ne 7, 3) := by decide +kernel
theorem dX1_isSign_48 : decode cX1_isSign 48 = .ok (.iconst 1, 1) := by decide +kernel
theorem dX1_isSign_49 : decode cX1_isSign 49 = .ok (.goto 4, 3) := by decide +kernel
theorem dX1_isSign_52 : decode cX1_isSign 52 = .ok (.iconst 0, 1) := by decide +kernel
theorem dX1_isSign_53 : decode cX1_isSign 53 = .ok (.ireturn, 1) := by decide +kernel
theorem dX1_nameOf_0 : decode cX1_nameOf 0 = .ok (.aload_n 0, 1) := by decide +kernel
theorem dX1_nameOf_1 : decode cX1_nameOf 1 = .ok (.ldc 85, 2) := by decide +kernel
theorem dX1_nameOf_3 : decode cX1_nameOf 3 = .ok (.iload_n 1, 1) := by decide +kernel
theorem dX1_nameOf_4 : decode cX1_nameOf 4 = .ok (.iload_n 2, 1) := by decide +kernel
theorem dX1_nameOf_5 : decode cX1_nameOf 5 = .ok (.invokevirtual 87, 3) := by decide +kernel
theorem dX1_nameOf_8 : decode cX1_nameOf 8 = .ok (.ifCond .eq 5, 3) := by decide +kernel
theorem dX1_nameOf_11 : decode cX1_nameOf 11 = .ok (.iconst 0, 1) := by decide +kernel
theorem dX1_nameOf_12 : decode cX1_nameOf 12 = .ok (.ireturn, 1) := by decide +kernel
theorem dX1_nameOf_13 : decode cX1_nameOf 13 = .ok (.aload_n 0, 1) := by decide +kernel
theorem dX1_nameOf_14 : decode cX1_nameOf 14 = .ok (.ldc 91, 2) := by decide +kernel
theorem dX1_nameOf_16 : decode cX1_nameOf 16 = .ok (.iload_n 1, 1) := by decide +kernel
theorem dX1_nameOf_17 : decode cX1_nameOf 17 = .ok (.iload_n 2, 1) := by decide +kernel
theorem dX1_nameOf_18 : decode cX1_nameOf 18 = .ok (.invokevirtual 87, 3) := by decide +kernel
theorem dX1_nameOf_21 : decode cX1_nameOf 21 = .ok (.ifCond .eq 5, 3) := by decide +kernel
theorem dX1_nameOf_24 : decode cX1_nameOf 24 = .ok (.iconst 1, 1) := by decide +kernel
theorem dX1_nameOf_25 : decode cX1_nameOf 25 = .ok (.ireturn, 1) := by decide +kernel
theorem dX1_nameOf_26 : decode cX1_nameOf 26 = .ok (.aload_n 0, 1) := by decide +kernel
theorem dX1_nameOf_27 : decode cX1_nameOf 27 = .ok (.ldc 93, 2) := by decide +kernel
theorem dX1_nameOf_29 : decode cX1_nameOf 29 = .ok (.iload_n 1, 1) := by decide +kernel
theorem dX1_nameOf_30 : decode cX1_nameOf 30 = .ok (.iload_n 2, 1) := by decide +kernel
theorem dX1_nameOf_31 : decode cX1_nameOf 31 = .ok (.invokevirtual 87, 3) := by decide +kernel
theorem dX1_nameOf_34 : decode cX1_nameOf 34 = .ok (.ifCond .eq 5, 3) := by decide +kernel
theorem dX1_nameOf_37 : decode cX1_nameOf 37 = .ok (.iconst 2, 1) := by decide +kernel
theorem dX1_nameOf_38 : decode cX1_nameOf 38 = .ok (.ireturn, 1) := by decide +kernel
theorem dX1_nameOf_39 : decode cX1_nameOf 39 = .ok (.aload_n 0, 1) := by decide +kernel
theorem dX1_nameOf_40 : decode cX1_nameOf 40 = .ok (.ldc 95, 2) := by decide +kernel
theorem dX1_nameOf_42 : decode cX1_nameOf 42 = .ok (.iload_n 1, 1) := by decide +kernel
theorem dX1_nameOf_43 : decode cX1_nameOf 43 = .ok (.iload_n 2, 1) := by decide +kernel
theorem dX1_nameOf_44 : decode cX1_nameOf 44 = .ok (.invokevirtual 87, 3) := by decide +kernel
theorem dX1_nameOf_47 : decode cX1_nameOf 47 = .ok (.ifCond .eq 5, 3) := by decide +kernel
theorem dX1_nameOf_50 : decode cX1_nameOf 50 = .ok (.iconst 3, 1) := by decide +kernel
theorem dX1_nameOf_51 : decode cX1_nameOf 51 = .ok (.ireturn, 1) := by decide +kernel
theorem dX1_nameOf_52 : decode cX1_nameOf 52 = .ok (.aload_n 0, 1) := by decide +kernel
theorem dX1_nameOf_53 : decode cX1_nameOf 53 = .ok (.ldc 97, 2) := by decide +kernel
theorem dX1_nameOf_55 : decode cX1_nameOf 55 = .ok (.iload_n 1, 1) := by decide +kernel
theorem dX1_nameOf_56 : decode cX1_nameOf 56 = .ok (.iload_n 2, 1) := by decide +kernel
theorem dX1_nameOf_57 : decode cX1_nameOf 57 = .ok (.invokevirtual 87, 3) := by decide +kernel
theorem dX1_nameOf_60 : decode cX1_nameOf 60 = .ok (.ifCond .eq 5, 3) := by decide +kernel
theorem dX1_nameOf_63 : decode cX1_nameOf 63 = .ok (.iconst 4, 1) := by decide +kernel
theorem dX1_nameOf_64 : decode cX1_nameOf 64 = .ok (.ireturn, 1) := by decide +kernel
theorem dX1_nameOf_65 : decode cX1_nameOf 65 = .ok (.aload_n 0, 1) := by decide +kernel
theorem dX1_nameOf_66 : decode cX1_nameOf 66 = .ok (.ldc 99, 2) := by decide +kernel
theorem dX1_nameOf_68 : decode cX1_nameOf 68 = .ok (.iload_n 1, 1) := by decide +kernel
theorem dX1_nameOf_69 : decode cX1_nameOf 69 = .ok (.iload_n 2, 1) := by decide +kernel
theorem dX1_nameOf_70 : decode cX1_nameOf 70 = .ok (.invokevirtual 87, 3) := by decide +kernel
theorem dX1_nameOf_73 : decode cX1_nameOf 73 = .ok (.ifCond .eq 5, 3) := by decide +kernel
theorem dX1_nameOf_76 : decode cX1_nameOf 76 = .ok (.iconst 5, 1) := by decide +kernel
theorem dX1_nameOf_77 : decode cX1_nameOf 77 = .ok (.ireturn, 1) := by decide +kernel
theorem dX1_nameOf_78 : decode cX1_nameOf 78 = .ok (.iconst (-1), 1) := by decide +kernel
theorem dX1_nameOf_79 : decode cX1_nameOf 79 = .ok (.ireturn, 1) := by decide +kernel
theorem dX1_keyOf_0 : decode cX1_keyOf 0 = .ok (.aload_n 0, 1) := by decide +kernel
theorem dX1_keyOf_1 : decode cX1_keyOf 1 = .ok (.ldc 101, 2) := by decide +kernel
theorem dX1_keyOf_3 : decode cX1_keyOf 3 = .ok (.iload_n 1, 1) := by decide +kernel
theorem dX1_keyOf_4 : decode cX1_keyOf 4 = .ok (.iload_n 2, 1) := by decide +kernel
theorem dX1_keyOf_5 : decode cX1_keyOf 5 = .ok (.invokevirtual 87, 3) := by decide +kernel
theorem dX1_keyOf_8 : decode cX1_keyOf 8 = .ok (.ifCond .eq 7, 3) := by decide +kernel
theorem dX1_keyOf_11 : decode cX1_keyOf 11 = .ok (.sipush 301, 3) := by decide +kernel
theorem dX1_keyOf_14 : decode cX1_keyOf 14 = .ok (.ireturn, 1) := by decide +kernel
theorem dX1_keyOf_15 : decode cX1_keyOf 15 = .ok (.aload_n 0, 1) := by decide +kernel
theorem dX1_keyOf_16 : decode cX1_keyOf 16 = .ok (.ldc 103, 2) := by decide +kernel
theorem dX1_keyOf_18 : decode cX1_keyOf 18 = .ok (.iload_n 1, 1) := by decide +kernel
theorem dX1_keyOf_19 : decode cX1_keyOf 19 = .ok (.iload_n 2, 1) := by decide +kernel
theorem dX1_keyOf_20 : decode cX1_keyOf 20 = .ok (.invokevirtual 87, 3) := by decide +kernel
theorem dX1_keyOf_23 : decode cX1_keyOf 23 = .ok (.ifCond .eq 7, 3) := by decide +kernel
theorem dX1_keyOf_26 : decode cX1_keyOf 26 = .ok (.sipush 302, 3) := by decide +kernel
theorem dX1_keyOf_29 : decode cX1_keyOf 29 = .ok (.ireturn, 1) := by decide +kernel
theorem dX1_keyOf_30 : decode cX1_keyOf 30 = .ok (.aload_n 0, 1) := by decide +kernel
theorem dX1_keyOf_31 : decode cX1_keyOf 31 = .ok (.ldc 105, 2) := by decide +kernel
theorem dX1_keyOf_33 : decode cX1_keyOf 33 = .ok (.iload_n 1, 1) := by decide +kernel
theorem dX1_keyOf_34 : decode cX1_keyOf 34 = .ok (.iload_n 2, 1) := by decide +kernel
theorem dX1_keyOf_35 : decode cX1_keyOf 35 = .ok (.invokevirtual 87, 3) := by decide +kernel
theorem dX1_keyOf_38 : decode cX1_keyOf 38 = .ok (.ifCond .eq 7, 3) := by decide +kernel
theorem dX1_keyOf_41 : decode cX1_keyOf 41 = .ok (.sipush 303, 3) := by decide +kernel
theorem dX1_keyOf_44 : decode cX1_keyOf 44 = .ok (.ireturn, 1) := by decide +kernel
theorem dX1_keyOf_45 : decode cX1_keyOf 45 = .ok (.aload_n 0, 1) := by decide +kernel
theorem dX1_keyOf_46 : decode cX1_keyOf 46 = .ok (.ldc 107, 2) := by decide +kernel
theorem dX1_keyOf_48 : decode cX1_keyOf 48 = .ok (.iload_n 1, 1) := by decide +kernel
theorem dX1_keyOf_49 : decode cX1_keyOf 49 = .ok (.iload_n 2, 1) := by decide +kernel
theorem dX1_keyOf_50 : decode cX1_keyOf 50 = .ok (.invokevirtual 87, 3) := by decide +kernel
theorem dX1_keyOf_53 : decode cX1_keyOf 53 = .ok (.ifCond .eq 7, 3) := by decide +kernel
theorem dX1_keyOf_56 : decode cX1_keyOf 56 = .ok (.sipush 304, 3) := by decide +kernel
theorem dX1_keyOf_59 : decode cX1_keyOf 59 = .ok (.ireturn, 1) := by decide +kernel
theorem dX1_keyOf_60 : decode cX1_keyOf 60 = .ok (.aload_n 0, 1) := by decide +kernel
theorem dX1_keyOf_61 : decode cX1_keyOf 61 = .ok (.ldc 109, 2) := by decide +kernel
theorem dX1_keyOf_63 : decode cX1_keyOf 63 = .ok (.iload_n 1, 1) := by decide +kernel
theorem dX1_keyOf_64 : decode cX1_keyOf 64 = .ok (.iload_n 2, 1) := by decide +kernel
theorem dX1_keyOf_65 : decode cX1_keyOf 65 = .ok (.invokevirtual 87, 3) := by decide +kernel
theorem dX1_keyOf_68 : decode cX1_keyOf 68 = .ok (.ifCond .eq 7, 3) := by decide +kernel
theorem dX1_keyOf_71 : decode cX1_keyOf 71 = .ok (.sipush 305, 3) := by decide +kernel
theorem dX1_keyOf_74 : decode cX1_keyOf 74 = .ok (.ireturn, 1) := by decide +kernel
theorem dX1_keyOf_75 : decode cX1_keyOf 75 = .ok (.aload_n 0, 1) := by decide +kernel
theorem dX1_keyOf_76 : decode cX1_keyOf 76 = .ok (.ldc 111, 2) := by decide +kernel
theorem dX1_keyOf_78 : decode cX1_keyOf 78 = .ok (.iload_n 1, 1) := by decide +kernel
theorem dX1_keyOf_79 : decode cX1_keyOf 79 = .ok (.iload_n 2, 1) := by decide +kernel
theorem dX1_keyOf_80 : decode cX1_keyOf 80 = .ok (.invokevirtual 87, 3) := by decide +kernel
theorem dX1_keyOf_83 : decode cX1_keyOf 83 = .ok (.ifCond .eq 7, 3) := by decide +kernel
theorem dX1_keyOf_86 : decode cX1_keyOf 86 = .ok (.sipush 306, 3) := by decide +kernel
theorem dX1_keyOf_89 : decode cX1_keyOf 89 = .ok (.ireturn, 1) := by decide +kernel
theorem dX1_keyOf_90 : decode cX1_keyOf 90 = .ok (.iconst 1, 1) := by decide +kernel
theorem dX1_keyOf_91 : decode cX1_keyOf 91 = .ok (.ireturn, 1) := by decide +kernel
theorem dX1_isWord_0 : decode cX1_isWord 0 = .ok (.iload_n 3, 1) := by decide +kernel
theorem dX1_isWord_1 : decode cX1_isWord 1 = .ok (.iload_n 2, 1) := by decide +kernel
theorem dX1_isWord_2 : decode cX1_isWord 2 = .ok (.isub, 1) := by decide +kernel
theorem dX1_isWord_3 : decode cX1_isWord 3 = .ok (.aload_n 1, 1) := by decide +kernel
theorem dX1_isWord_4 : decode cX1_isWord 4 = .ok (.invokevirtual 113, 3) := by decide +kernel
theorem dX1_isWord_7 : decode cX1_isWord 7 = .ok (.if_icmp .eq 5, 3) := by decide +kernel
theorem dX1_isWord_10 : decode cX1_isWord 10 = .ok (.iconst 0, 1) := by decide +kernel
theorem dX1_isWord_11 : decode cX1_isWord 11 = .ok (.ireturn, 1) := by decide +kernel
theorem dX1_isWord_12 : decode cX1_isWord 12 = .ok (.iconst 0, 1) := by decide +kernel
theorem dX1_isWord_13 : decode cX1_isWord 13 = .ok (.istore 4, 2) := by decide +kernel
theorem dX1_isWord_15 : decode cX1_isWord 15 = .ok (.iload 4, 2) := by decide +kernel
theorem dX1_isWord_17 : decode cX1_isWord 17 = .ok (.aload_n 1, 1) := by decide +kernel
theorem dX1_isWord_18 : decode cX1_isWord 18 = .ok (.invokevirtual 113, 3) := by decide +kernel
theorem dX1_isWord_21 : decode cX1_isWord 21 = .ok (.if_icmp .ge 28, 3) := by decide +kernel
theorem dX1_isWord_24 : decode cX1_isWord 24 = .ok (.aload_n 0, 1) := by decide +kernel
theorem dX1_isWord_25 : decode cX1_isWord 25 = .ok (.iload_n 2, 1) := by decide +kernel
theorem dX1_isWord_26 : decode cX1_isWord 26 = .ok (.iload 4, 2) := by decide +kernel
theorem dX1_isWord_28 : decode cX1_isWord 28 = .ok (.iadd, 1) := by decide +kernel
theorem dX1_isWord_29 : decode cX1_isWord 29 = .ok (.invokevirtual 65, 3) := by decide +kernel
theorem dX1_isWord_32 : decode cX1_isWord 32 = .ok (.aload_n 1, 1) := by decide +kernel
theorem dX1_isWord_33 : decode cX1_isWord 33 = .ok (.iload 4, 2) := by decide +kernel
theorem dX1_isWord_35 : decode cX1_isWord 35 = .ok (.invokevirtual 119, 3) := by decide +kernel
theorem dX1_isWord_38 : decode cX1_isWord 38 = .ok (.if_icmp .eq 5, 3) := by decide +kernel
theorem dX1_isWord_41 : decode cX1_isWord 41 = .ok (.iconst 0, 1) := by decide +kernel
theorem dX1_isWord_42 : decode cX1_isWord 42 = .ok (.ireturn, 1) := by decide +kernel
theorem dX1_isWord_43 : decode cX1_isWord 43 = .ok (.iinc 4 1, 3) := by decide +kernel
theorem dX1_isWord_46 : decode cX1_isWord 46 = .ok (.goto (-31), 3) := by decide +kernel
theorem dX1_isWord_49 : decode cX1_isWord 49 = .ok (.iconst 1, 1) := by decide +kernel
theorem dX1_isWord_50 : decode cX1_isWord 50 = .ok (.ireturn, 1) := by decide +kernel
theorem dX1_addToken_0 : decode cX1_addToken 0 = .ok (.aload_n 0, 1) := by decide +kernel
theorem dX1_addToken_1 : decode cX1_addToken 1 = .ok (.getfield 31, 3) := by decide +kernel
theorem dX1_addToken_4 : decode cX1_addToken 4 = .ok (.aload_n 0, 1) := by decide +kernel
theorem dX1_addToken_5 : decode cX1_addToken 5 = .ok (.getfield 22, 3) := by decide +kernel
theorem dX1_addToken_8 : decode cX1_addToken 8 = .ok (.arraylength, 1) := by decide +kernel
theorem dX1_addToken_9 : decode cX1_addToken 9 = .ok (.if_icmp .lt 4, 3) := by decide +kernel
theorem dX1_addToken_12 : decode cX1_addToken 12 = .ok (.return_, 1) := by decide +kernel
theorem dX1_addToken_13 : decode cX1_addToken 13 = .ok (.aload_n 0, 1) := by decide +kernel
theorem dX1_addToken_14 : decode cX1_addToken 14 = .ok (.getfield 22, 3) := by decide +kernel
theorem dX1_addToken_17 : decode cX1_addToken 17 = .ok (.aload_n 0, 1) := by decide +kernel
theorem dX1_addToken_18 : decode cX1_addToken 18 = .ok (.getfield 31, 3) := by decide +kernel
theorem dX1_addToken_21 : decode cX1_addToken 21 = .ok (.iload_n 1, 1) := by decide +kernel
theorem dX1_addToken_22 : decode cX1_addToken 22 = .ok (.iastore, 1) := by decide +kernel
theorem dX1_addToken_23 : decode cX1_addToken 23 = .ok (.aload_n 0, 1) := by decide +kernel
theorem dX1_addToken_24 : decode cX1_addToken 24 = .ok (.getfield 25, 3) := by decide +kernel
theorem dX1_addToken_27 : decode cX1_addToken 27 = .ok (.aload_n 0, 1) := by decide +kernel
theorem dX1_addToken_28 : decode cX1_addToken 28 = .ok (.getfield 31, 3) := by decide +kernel
theorem dX1_addToken_31 : decode cX1_addToken 31 = .ok (.iload_n 2, 1) := by decide +kernel
theorem dX1_addToken_32 : decode cX1_addToken 32 = .ok (.iastore, 1) := by decide +kernel
theorem dX1_addToken_33 : decode cX1_addToken 33 = .ok (.aload_n 0, 1) := by decide +kernel
theorem dX1_addToken_34 : decode cX1_addToken 34 = .ok (.getfield 28, 3) := by decide +kernel
theorem dX1_addToken_37 : decode cX1_addToken 37 = .ok (.aload_n 0, 1) := by decide +kernel
theorem dX1_addToken_38 : decode cX1_addToken 38 = .ok (.getfield 31, 3) := by decide +kernel
theorem dX1_addToken_41 : decode cX1_addToken 41 = .ok (.iload_n 3, 1) := by decide +kernel
theorem dX1_addToken_42 : decode cX1_addToken 42 = .ok (.iastore, 1) := by decide +kernel
theorem dX1_addToken_43 : decode cX1_addToken 43 = .ok (.aload_n 0, 1) := by decide +kernel
theorem dX1_addToken_44 : decode cX1_addToken 44 = .ok (.dup, 1) := by decide +kernel
theorem dX1_addToken_45 : decode cX1_addToken 45 = .ok (.getfield 31, 3) := by decide +kernel
theorem dX1_addToken_48 : decode cX1_addToken 48 = .ok (.iconst 1, 1) := by decide +kernel
theorem dX1_addToken_49 : decode cX1_addToken 49 = .ok (.iadd, 1) := by decide +kernel
theorem dX1_addToken_50 : decode cX1_addToken 50 = .ok (.putfield 31, 3) := by decide +kernel
theorem dX1_addToken_53 : decode cX1_addToken 53 = .ok (.return_, 1) := by decide +kernel
theorem dX1_sortNow_0 : decode cX1_sortNow 0 = .ok (.aload_n 0, 1) := by decide +kernel
theorem dX1_sortNow_1 : decode cX1_sortNow 1 = .ok (.getfield 34, 3) := by decide +kernel
theorem dX1_sortNow_4 : decode cX1_sortNow 4 = .ok (.ifCond .lt 38, 3) := by decide +kernel
theorem dX1_sortNow_7 : decode cX1_sortNow 7 = .ok (.aload_n 0, 1) := by decide +kernel
theorem dX1_sortNow_8 : decode cX1_sortNow 8 = .ok (.getfield 34, 3) := by decide +kernel
theorem dX1_sortNow_11 : decode cX1_sortNow 11 = .ok (.aload_n 0, 1) := by decide +kernel
theorem dX1_sortNow_12 : decode cX1_sortNow 12 = .ok (.getfield 31, 3) := by decide +kernel
theorem dX1_sortNow_15 : decode cX1_sortNow 15 = .ok (.if_icmp .ge 27, 3) := by decide +kernel
theorem dX1_sortNow_18 : decode cX1_sortNow 18 = .ok (.aload_n 0, 1) := by decide +kernel
theorem dX1_sortNow_19 : decode cX1_sortNow 19 = .ok (.getfield 34, 3) := by decide +kernel
theorem dX1_sortNow_22 : decode cX1_sortNow 22 = .ok (.aload_n 0, 1) := by decide +kernel
theorem dX1_sortNow_23 : decode cX1_sortNow 23 = .ok (.getfield 22, 3) := by decide +kernel
theorem dX1_sortNow_26 : decode cX1_sortNow 26 = .ok (.arraylength, 1) := by decide +kernel
theorem dX1_sortNow_27 : decode cX1_sortNow 27 = .ok (.if_icmp .ge 15, 3) := by decide +kernel
theorem dX1_sortNow_30 : decode cX1_sortNow 30 = .ok (.aload_n 0, 1) := by decide +kernel
theorem dX1_sortNow_31 : decode cX1_sortNow 31 = .ok (.getfield 22, 3) := by decide +kernel
theorem dX1_sortNow_34 : decode cX1_sortNow 34 = .ok (.aload_n 0, 1) := by decide +kernel
theorem dX1_sortNow_35 : decode cX1_sortNow 35 = .ok (.getfield 34, 3) := by decide +kernel
theorem dX1_sortNow_38 : decode cX1_sortNow 38 = .ok (.iaload, 1) := by decide +kernel
theorem dX1_sortNow_39 : decode cX1_sortNow 39 = .ok (.goto 4, 3) := by decide +kernel
theorem dX1_sortNow_42 : decode cX1_sortNow 42 = .ok (.iconst 0, 1) := by decide +kernel
theorem dX1_sortNow_43 : decode cX1_sortNow 43 = .ok (.ireturn, 1) := by decide +kernel
theorem dX1_refuse_0 : decode cX1_refuse 0 = .ok (.aload_n 0, 1) := by decide +kernel
theorem dX1_refuse_1 : decode cX1_refuse 1 = .ok (.aload_n 0, 1) := by decide +kernel
theorem dX1_refuse_2 : decode cX1_refuse 2 = .ok (.getfield 34, 3) := by decide +kernel
theorem dX1_refuse_5 : decode cX1_refuse 5 = .ok (.ifCond .lt 38, 3) := by decide +kernel
theorem dX1_refuse_8 : decode cX1_refuse 8 = .ok (.aload_n 0, 1) := by decide +kernel
theorem dX1_refuse_9 : decode cX1_refuse 9 = .ok (.getfield 34, 3) := by decide +kernel
theorem dX1_refuse_12 : decode cX1_refuse 12 = .ok (.aload_n 0, 1) := by decide +kernel
theorem dX1_refuse_13 : decode cX1_refuse 13 = .ok (.getfield 31, 3) := by decide +kernel
theorem dX1_refuse_16 : decode cX1_refuse 16 = .ok (.if_icmp .ge 27, 3) := by decide +kernel
theorem dX1_refuse_19 : decode cX1_refuse 19 = .ok (.aload_n 0, 1) := by decide +kernel
theorem dX1_refuse_20 : decode cX1_refuse 20 = .ok (.getfield 34, 3) := by decide +kernel
theorem dX1_refuse_23 : decode cX1_refuse 23 = .ok (.aload_n 0, 1) := by decide +kernel
theorem dX1_refuse_24 : decode cX1_refuse 24 = .ok (.getfield 28, 3) := by decide +kernel
theorem dX1_refuse_27 : decode cX1_refuse 27 = .ok (.arraylength, 1) := by decide +kernel
theorem dX1_refuse_28 : decode cX1_refuse 28 = .ok (.if_icmp .ge 15, 3) := by decide +kernel
theorem dX1_refuse_31 : decode cX1_refuse 31 = .ok (.aload_n 0, 1) := by decide +kernel
theorem dX1_refuse_32 : decode cX1_refuse 32 = .ok (.getfield 28, 3) := by decide +kernel
theorem dX1_refuse_35 : decode cX1_refuse 35 = .ok (.aload_n 0, 1) := by decide +kernel
theorem dX1_refuse_36 : decode cX1_refuse 36 = .ok (.getfield 34, 3) := by decide +kernel
theorem dX1_refuse_39 : decode cX1_refuse 39 = .ok (.iaload, 1) := by decide +kernel
theorem dX1_refuse_40 : decode cX1_refuse 40 = .ok (.goto 7, 3) := by decide +kernel
theorem dX1_refuse_43 : decode cX1_refuse 43 = .ok (.aload_n 0, 1) := by decide +kernel
theorem dX1_refuse_44 : decode cX1_refuse 44 = .ok (.getfield 15, 3) := by decide +kernel
theorem dX1_refuse_47 : decode cX1_refuse 47 = .ok (.putfield 19, 3) := by decide +kernel
theorem dX1_refuse_50 : decode cX1_refuse 50 = .ok (.iconst 0, 1) := by decide +kernel
theorem dX1_refuse_51 : decode cX1_refuse 51 = .ok (.ireturn, 1) := by decide +kernel
theorem dX1_take_0 : decode cX1_take 0 = .ok (.aload_n 0, 1) := by decide +kernel
theorem dX1_take_1 : decode cX1_take 1 = .ok (.invokevirtual 123, 3) := by decide +kernel
theorem dX1_take_4 : decode cX1_take 4 = .ok (.iload_n 1, 1) := by decide +kernel
theorem dX1_take_5 : decode cX1_take 5 = .ok (.if_icmp .eq 8, 3) := by decide +kernel
theorem dX1_take_8 : decode cX1_take 8 = .ok (.aload_n 0, 1) := by decide +kernel
theorem dX1_take_9 : decode cX1_take 9 = .ok (.invokevirtual 126, 3) := by decide +kernel
theorem dX1_take_12 : decode cX1_take 12 = .ok (.ireturn, 1) := by decide +kernel
theorem dX1_take_13 : decode cX1_take 13 = .ok (.aload_n 0, 1) := by decide +kernel
theorem dX1_take_14 : decode cX1_take 14 = .ok (.dup, 1) := by decide +kernel
theorem dX1_take_15 : decode cX1_take 15 = .ok (.getfield 34, 3) := by decide +kernel
theorem dX1_take_18 : decode cX1_take 18 = .ok (.iconst 1, 1) := by decide +kernel
theorem dX1_take_19 : decode cX1_take 19 = .ok (.iadd, 1) := by decide +kernel
theorem dX1_take_20 : decode cX1_take 20 = .ok (.putfield 34, 3) := by decide +kernel
theorem dX1_take_23 : decode cX1_take 23 = .ok (.iconst 1, 1) := by decide +kernel
theorem dX1_take_24 : decode cX1_take 24 = .ok (.ireturn, 1) := by decide +kernel
theorem dX1_write_0 : decode cX1_write 0 = .ok (.aload_n 0, 1) := by decide +kernel
theorem dX1_write_1 : decode cX1_write 1 = .ok (.getfield 37, 3) := by decide +kernel
theorem dX1_write_4 : decode cX1_write 4 = .ok (.ifnull 14, 3) := by decide +kernel
theorem dX1_write_7 : decode cX1_write 7 = .ok (.aload_n 0, 1) := by decide +kernel
theorem dX1_write_8 : decode cX1_write 8 = .ok (.getfield 37, 3) := by decide +kernel
theorem dX1_write_11 : decode cX1_write 11 = .ok (.iload_n 1, 1) := by decide +kernel
theorem dX1_write_12 : decode cX1_write 12 = .ok (.invokevirtual 130, 3) := by decide +kernel
theorem dX1_write_15 : decode cX1_write 15 = .ok (.ifCond .ne 10, 3) := by decide +kernel
theorem dX1_write_18 : decode cX1_write 18 = .ok (.aload_n 0, 1) := by decide +kernel
theorem dX1_write_19 : decode cX1_write 19 = .ok (.invokevirtual 126, 3) := by decide +kernel
theorem dX1_write_22 : decode cX1_write 22 = .ok (.ifCond .eq 7, 3) := by decide +kernel
theorem dX1_write_25 : decode cX1_write 25 = .ok (.iconst 1, 1) := by decide +kernel
theorem dX1_write_26 : decode cX1_write 26 = .ok (.goto 4, 3) := by decide +kernel
theorem dX1_write_29 : decode cX1_write 29 = .ok (.iconst 0, 1) := by decide +kernel
theorem dX1_write_30 : decode cX1_write 30 = .ok (.ireturn, 1) := by decide +kernel
theorem dX1_part_0 : decode cX1_part 0 = .ok (.aload_n 0, 1) := by decide +kernel
theorem dX1_part_1 : decode cX1_part 1 = .ok (.iload_n 1, 1) := by decide +kernel
theorem dX1_part_2 : decode cX1_part 2 = .ok (.invokevirtual 53, 3) := by decide +kernel
theorem dX1_part_5 : decode cX1_part 5 = .ok (.ifCond .eq 20, 3) := by decide +kernel
theorem dX1_part_8 : decode cX1_part 8 = .ok (.aload_n 0, 1) := by decide +kernel
theorem dX1_part_9 : decode cX1_part 9 = .ok (.iconst 0, 1) := by decide +kernel
theorem dX1_part_10 : decode cX1_part 10 = .ok (.invokevirtual 133, 3) := by decide +kernel
theorem dX1_part_13 : decode cX1_part 13 = .ok (.ifCond .eq 12, 3) := by decide +kernel
theorem dX1_part_16 : decode cX1_part 16 = .ok (.aload_n 0, 1) := by decide +kernel
theorem dX1_part_17 : decode cX1_part 17 = .ok (.bipush 59, 2) := by decide +kernel
theorem dX1_part_19 : decode cX1_part 19 = .ok (.invokevirtual 53, 3) := by decide +kernel
theorem dX1_part_22 : decode cX1_part 22 = .ok (.ifCond .ne 5, 3) := by decide +kernel
theorem dX1_part_25 : decode cX1_part 25 = .ok (.iconst 0, 1) := by decide +kernel
theorem dX1_part_26 : decode cX1_part 26 = .ok (.ireturn, 1) := by decide +kernel
theorem dX1_part_27 : decode cX1_part 27 = .ok (.aload_n 0, 1) := by decide +kernel
theorem dX1_part_28 : decode cX1_part 28 = .ok (.getfield 37, 3) := by decide +kernel
theorem dX1_part_31 : decode cX1_part 31 = .ok (.ifnull 11, 3) := by decide +kernel
theorem dX1_part_34 : decode cX1_part 34 = .ok (.aload_n 0, 1) := by decide +kernel
theorem dX1_part_35 : decode cX1_part 35 = .ok (.getfield 37, 3) := by decide +kernel
theorem dX1_part_38 : decode cX1_part 38 = .ok (.iload_n 2, 1) := by decide +kernel
theorem dX1_part_39 : decode cX1_part 39 = .ok (.invokevirtual 136, 3) := by decide +kernel
theorem dX1_part_42 : decode cX1_part 42 = .ok (.iconst 1, 1) := by decide +kernel
theorem dX1_part_43 : decode cX1_part 43 = .ok (.ireturn, 1) := by decide +kernel
theorem dX1_either_0 : decode cX1_either 0 = .ok (.aload_n 0, 1) := by decide +kernel
theorem dX1_either_1 : decode cX1_either 1 = .ok (.iload_n 1, 1) := by decide +kernel
theorem dX1_either_2 : decode cX1_either 2 = .ok (.invokevirtual 140, 3) := by decide +kernel
theorem dX1_either_5 : decode cX1_either 5 = .ok (.ifCond .ne 5, 3) := by decide +kernel
theorem dX1_either_8 : decode cX1_either 8 = .ok (.iconst 0, 1) := by decide +kernel
theorem dX1_either_9 : decode cX1_either 9 = .ok (.ireturn, 1) := by decide +kernel
theorem dX1_either_10 : decode cX1_either 10 = .ok (.iconst 0, 1) := by decide +kernel
theorem dX1_either_11 : decode cX1_either 11 = .ok (.istore_n 2, 1) := by decide +kernel
theorem dX1_either_12 : decode cX1_either 12 = .ok (.iload_n 2, 1) := by decide +kernel
theorem dX1_either_13 : decode cX1_either 13 = .ok (.sipush 160, 3) := by decide +kernel
theorem dX1_either_16 : decode cX1_either 16 = .ok (.if_icmp .ge 48, 3) := by decide +kernel
theorem dX1_either_19 : decode cX1_either 19 = .ok (.aload_n 0, 1) := by decide +kernel
theorem dX1_either_20 : decode cX1_either 20 = .ok (.invokevirtual 123, 3) := by decide +kernel
theorem dX1_either_23 : decode cX1_either 23 = .ok (.sipush 304, 3) := by decide +kernel
theorem dX1_either_26 : decode cX1_either 26 = .ok (.if_icmp .ne 38, 3) := by decide +kernel
theorem dX1_either_29 : decode cX1_either 29 = .ok (.aload_n 0, 1) := by decide +kernel
theorem dX1_either_30 : decode cX1_either 30 = .ok (.dup, 1) := by decide +kernel
theorem dX1_either_31 : decode cX1_either 31 = .ok (.getfield 34, 3) := by decide +kernel
theorem dX1_either_34 : decode cX1_either 34 = .ok (.iconst 1, 1) := by decide +kernel
theorem dX1_either_35 : decode cX1_either 35 = .ok (.iadd, 1) := by decide +kernel
theorem dX1_either_36 : decode cX1_either 36 = .ok (.putfield 34, 3) := by decide +kernel
theorem dX1_either_39 : decode cX1_either 39 = .ok (.aload_n 0, 1) := by decide +kernel
theorem dX1_either_40 : decode cX1_either 40 = .ok (.iload_n 1, 1) := by decide +kernel
theorem dX1_either_41 : decode cX1_either 41 = .ok (.invokevirtual 140, 3) := by decide +kernel
theorem dX1_either_44 : decode cX1_either 44 = .ok (.ifCond .eq 12, 3) := by decide +kernel
theorem dX1_either_47 : decode cX1_either 47 = .ok (.aload_n 0, 1) := by decide +kernel
theorem dX1_either_48 : decode cX1_either 48 = .ok (.bipush (-11), 2) := by decide +kernel
theorem dX1_either_50 : decode cX1_either 50 = .ok (.invokevirtual 143, 3) := by decide +kernel
theorem dX1_either_53 : decode cX1_either 53 = .ok (.ifCond .ne 5, 3) := by decide +kernel
theorem dX1_either_56 : decode cX1_either 56 = .ok (.iconst 0, 1) := by decide +kernel
theorem dX1_either_57 : decode cX1_either 57 = .ok (.ireturn, 1) := by decide +kernel
theorem dX1_either_58 : decode cX1_either 58 = .ok (.iinc 2 1, 3) := by decide +kernel
theorem dX1_either_61 : decode cX1_either 61 = .ok (.goto (-49), 3) := by decide +kernel
theorem dX1_either_64 : decode cX1_either 64 = .ok (.iconst 1, 1) := by decide +kernel
theorem dX1_either_65 : decode cX1_either 65 = .ok (.ireturn, 1) := by decide +kernel
theorem dX1_both_0 : decode cX1_both 0 = .ok (.aload_n 0, 1) := by decide +kernel
theorem dX1_both_1 : decode cX1_both 1 = .ok (.iload_n 1, 1) := by decide +kernel
theorem dX1_both_2 : decode cX1_both 2 = .ok (.invokevirtual 146, 3) := by decide +kernel
theorem dX1_both_5 : decode cX1_both 5 = .ok (.ifCond .ne 5, 3) := by decide +kernel
theorem dX1_both_8 : decode cX1_both 8 = .ok (.iconst 0, 1) := by decide +kernel
theorem dX1_both_9 : decode cX1_both 9 = .ok (.ireturn, 1) := by decide +kernel
theorem dX1_both_10 : decode cX1_both 10 = .ok (.iconst 0, 1) := by decide +kernel
theorem dX1_both_11 : decode cX1_both 11 = .ok (.istore_n 2, 1) := by decide +kernel
theorem dX1_both_12 : decode cX1_both 12 = .ok (.iload_n 2, 1) := by decide +kernel
theorem dX1_both_13 : decode cX1_both 13 = .ok (.sipush 160, 3) := by decide +kernel
theorem dX1_both_16 : decode cX1_both 16 = .ok (.if_icmp .ge 48, 3) := by decide +kernel
theorem dX1_both_19 : decode cX1_both 19 = .ok (.aload_n 0, 1) := by decide +kernel
theorem dX1_both_20 : decode cX1_both 20 = .ok (.invokevirtual 123, 3) := by decide +kernel
theorem dX1_both_23 : decode cX1_both 23 = .ok (.sipush 305, 3) := by decide +kernel
theorem dX1_both_26 : decode cX1_both 26 = .ok (.if_icmp .ne 38, 3) := by decide +kernel
theorem dX1_both_29 : decode cX1_both 29 = .ok (.aload_n 0, 1) := by decide +kernel
theorem dX1_both_30 : decode cX1_both 30 = .ok (.dup, 1) := by decide +kernel
theorem dX1_both_31 : decode cX1_both 31 = .ok (.getfield 34, 3) := by decide +kernel
theorem dX1_both_34 : decode cX1_both 34 = .ok (.iconst 1, 1) := by decide +kernel
theorem dX1_both_35 : decode cX1_both 35 = .ok (.iadd, 1) := by decide +kernel
theorem dX1_both_36 : decode cX1_both 36 = .ok (.putfield 34, 3) := by decide +kernel
theorem dX1_both_39 : decode cX1_both 39 = .ok (.aload_n 0, 1) := by decide +kernel
theorem dX1_both_40 : decode cX1_both 40 = .ok (.iload_n 1, 1) := by decide +kernel
theorem dX1_both_41 : decode cX1_both 41 = .ok (.invokevirtual 146, 3) := by decide +kernel
theorem dX1_both_44 : decode cX1_both 44 = .ok (.ifCond .eq 12, 3) := by decide +kernel
theorem dX1_both_47 : decode cX1_both 47 = .ok (.aload_n 0, 1) := by decide +kernel
theorem dX1_both_48 : decode cX1_both 48 = .ok (.bipush (-12), 2) := by decide +kernel
theorem dX1_both_50 : decode cX1_both 50 = .ok (.invokevirtual 143, 3) := by decide +kernel
theorem dX1_both_53 : decode cX1_both 53 = .ok (.ifCond .ne 5, 3) := by decide +kernel
theorem dX1_both_56 : decode cX1_both 56 = .ok (.iconst 0, 1) := by decide +kernel
theorem dX1_both_57 : decode cX1_both 57 = .ok (.ireturn, 1) := by decide +kernel
theorem dX1_both_58 : decode cX1_both 58 = .ok (.iinc 2 1, 3) := by decide +kernel
theorem dX1_both_61 : decode cX1_both 61 = .ok (.goto (-49), 3) := by decide +kernel
theorem dX1_both_64 : decode cX1_both 64 = .ok (.iconst 1, 1) := by decide +kernel
theorem dX1_both_65 : decode cX1_both 65 = .ok (.ireturn, 1) := by decide +kernel
theorem dX1_negated_0 : decode cX1_negated 0 = .ok (.aload_n 0, 1) := by decide +kernel
theorem dX1_negated_1 : decode cX1_negated 1 = .ok (.invokevirtual 123, 3) := by decide +kernel
theorem dX1_negated_4 : decode cX1_negated 4 = .ok (.sipush 306, 3) := by decide +kernel
theorem dX1_negated_7 : decode cX1_negated 7 = .ok (.if_icmp .eq 9, 3) := by decide +kernel
theorem dX1_negated_10 : decode cX1_negated 10 = .ok (.aload_n 0, 1) := by decide +kernel
theorem dX1_negated_11 : decode cX1_negated 11 = .ok (.iload_n 1, 1) := by decide +kernel
theorem dX1_negated_12 : decode cX1_negated 12 = .ok (.invokevirtual 149, 3) := by decide +kernel
theorem dX1_negated_15 : decode cX1_negated 15 = .ok (.ireturn, 1) := by decide +kernel
theorem dX1_negated_16 : decode cX1_negated 16 = .ok (.iload_n 1, 1) := by decide +kernel
theorem dX1_negated_17 : decode cX1_negated 17 = .ok (.iconst 5, 1) := by decide +kernel
theorem dX1_negated_18 : decode cX1_negated 18 = .ok (.if_icmp .lt 8, 3) := by decide +kernel
theorem dX1_negated_21 : decode cX1_negated 21 = .ok (.aload_n 0, 1) := by decide +kernel
theorem dX1_negated_22 : decode cX1_negated 22 = .ok (.invokevirtual 126, 3) := by decide +kernel
theorem dX1_negated_25 : decode cX1_negated 25 = .ok (.ireturn, 1) := by decide +kernel
theorem dX1_negated_26 : decode cX1_negated 26 = .ok (.aload_n 0, 1) := by decide +kernel
theorem dX1_negated_27 : decode cX1_negated 27 = .ok (.dup, 1) := by decide +kernel
theorem dX1_negated_28 : decode cX1_negated 28 = .ok (.getfield 34, 3) := by decide +kernel
theorem dX1_negated_31 : decode cX1_negated 31 = .ok (.iconst 1, 1) := by decide +kernel
theorem dX1_negated_32 : decode cX1_negated 32 = .ok (.iadd, 1) := by decide +kernel
theorem dX1_negated_33 : decode cX1_negated 33 = .ok (.putfield 34, 3) := by decide +kernel
theorem dX1_negated_36 : decode cX1_negated 36 = .ok (.aload_n 0, 1) := by decide +kernel
theorem dX1_negated_37 : decode cX1_negated 37 = .ok (.iload_n 1, 1) := by decide +kernel
theorem dX1_negated_38 : decode cX1_negated 38 = .ok (.iconst 1, 1) := by decide +kernel
theorem dX1_negated_39 : decode cX1_negated 39 = .ok (.iadd, 1) := by decide +kernel
theorem dX1_negated_40 : decode cX1_negated 40 = .ok (.invokevirtual 146, 3) := by decide +kernel
theorem dX1_negated_43 : decode cX1_negated 43 = .ok (.ifCond .eq 16, 3) := by decide +kernel
theorem dX1_negated_46 : decode cX1_negated 46 = .ok (.aload_n 0, 1) := by decide +kernel
theorem dX1_negated_47 : decode cX1_negated 47 = .ok (.bipush (-21), 2) := by decide +kernel
theorem dX1_negated_49 : decode cX1_negated 49 = .ok (.invokevirtual 143, 3) := by decide +kernel
theorem dX1_negated_52 : decode cX1_negated 52 = .ok (.ifCond .eq 7, 3) := by decide +kernel
theorem dX1_negated_55 : decode cX1_negated 55 = .ok (.iconst 1, 1) := by decide +kernel
theorem dX1_negated_56 : decode cX1_negated 56 = .ok (.goto 4, 3) := by decide +kernel
theorem dX1_negated_59 : decode cX1_negated 59 = .ok (.iconst 0, 1) := by decide +kernel
theorem dX1_negated_60 : decode cX1_negated 60 = .ok (.ireturn, 1) := by decide +kernel
theorem dX1_compared_0 : decode cX1_compared 0 = .ok (.aload_n 0, 1) := by decide +kernel
theorem dX1_compared_1 : decode cX1_compared 1 = .ok (.iload_n 1, 1) := by decide +kernel
theorem dX1_compared_2 : decode cX1_compared 2 = .ok (.invokevirtual 152, 3) := by decide +kernel
theorem dX1_compared_5 : decode cX1_compared 5 = .ok (.ifCond .ne 5, 3) := by decide +kernel
theorem dX1_compared_8 : decode cX1_compared 8 = .ok (.iconst 0, 1) := by decide +kernel
theorem dX1_compared_9 : decode cX1_compared 9 = .ok (.ireturn, 1) := by decide +kernel
theorem dX1_compared_10 : decode cX1_compared 10 = .ok (.aload_n 0, 1) := by decide +kernel
theorem dX1_compared_11 : decode cX1_compared 11 = .ok (.invokevirtual 123, 3) := by decide +kernel
theorem dX1_compared_14 : decode cX1_compared 14 = .ok (.istore_n 2, 1) := by decide +kernel
theorem dX1_compared_15 : decode cX1_compared 15 = .ok (.iload_n 2, 1) := by decide +kernel
theorem dX1_compared_16 : decode cX1_compared 16 = .ok (.bipush 60, 2) := by decide +kernel
theorem dX1_compared_18 : decode cX1_compared 18 = .ok (.if_icmp .eq 11, 3) := by decide +kernel
theorem dX1_compared_21 : decode cX1_compared 21 = .ok (.iload_n 2, 1) := by decide +kernel
theorem dX1_compared_22 : decode cX1_compared 22 = .ok (.bipush 61, 2) := by decide +kernel
theorem dX1_compared_24 : decode cX1_compared 24 = .ok (.if_icmp .eq 5, 3) := by decide +kernel
theorem dX1_compared_27 : decode cX1_compared 27 = .ok (.iconst 1, 1) := by decide +kernel
theorem dX1_compared_28 : decode cX1_compared 28 = .ok (.ireturn, 1) := by decide +kernel
theorem dX1_compared_29 : decode cX1_compared 29 = .ok (.aload_n 0, 1) := by decide +kernel
theorem dX1_compared_30 : decode cX1_compared 30 = .ok (.dup, 1) := by decide +kernel
theorem dX1_compared_31 : decode cX1_compared 31 = .ok (.getfield 34, 3) := by decide +kernel
theorem dX1_compared_34 : decode cX1_compared 34 = .ok (.iconst 1, 1) := by decide +kernel
theorem dX1_compared_35 : decode cX1_compared 35 = .ok (.iadd, 1) := by decide +kernel
theorem dX1_compared_36 : decode cX1_compared 36 = .ok (.putfield 34, 3) := by decide +kernel
theorem dX1_compared_39 : decode cX1_compared 39 = .ok (.aload_n 0, 1) := by decide +kernel
theorem dX1_compared_40 : decode cX1_compared 40 = .ok (.iload_n 1, 1) := by decide +kernel
theorem dX1_compared_41 : decode cX1_compared 41 = .ok (.invokevirtual 152, 3) := by decide +kernel
theorem dX1_compared_44 : decode cX1_compared 44 = .ok (.ifCond .eq 27, 3) := by decide +kernel
theorem dX1_compared_47 : decode cX1_compared 47 = .ok (.aload_n 0, 1) := by decide +kernel
theorem dX1_compared_48 : decode cX1_compared 48 = .ok (.iload_n 2, 1) := by decide +kernel
theorem dX1_compared_49 : decode cX1_compared 49 = .ok (.bipush 60, 2) := by decide +kernel
theorem dX1_compared_51 : decode cX1_compared 51 = .ok (.if_icmp .ne 8, 3) := by decide +kernel
theorem dX1_compared_54 : decode cX1_compared 54 = .ok (.bipush (-13), 2) := by decide +kernel
theorem dX1_compared_56 : decode cX1_compared 56 = .ok (.goto 5, 3) := by decide +kernel
theorem dX1_compared_59 : decode cX1_compared 59 = .ok (.bipush (-14), 2) := by decide +kernel
theorem dX1_compared_61 : decode cX1_compared 61 = .ok (.invokevirtual 143, 3) := by decide +kernel
theorem dX1_compared_64 : decode cX1_compared 64 = .ok (.ifCond .eq 7, 3) := by decide +kernel
theorem dX1_compared_67 : decode cX1_compared 67 = .ok (.iconst 1, 1) := by decide +kernel
theorem dX1_compared_68 : decode cX1_compared 68 = .ok (.goto 4, 3) := by decide +kernel
theorem dX1_compared_71 : decode cX1_compared 71 = .ok (.iconst 0, 1) := by decide +kernel
theorem dX1_compared_72 : decode cX1_compared 72 = .ok (.ireturn, 1) := by decide +kernel
theorem dX1_sum_0 : decode cX1_sum 0 = .ok (.aload_n 0, 1) := by decide +kernel
theorem dX1_sum_1 : decode cX1_sum 1 = .ok (.iload_n 1, 1) := by decide +kernel
theorem dX1_sum_2 : decode cX1_sum 2 = .ok (.invokevirtual 155, 3) := by decide +kernel
theorem dX1_sum_5 : decode cX1_sum 5 = .ok (.ifCond .ne 5, 3) := by decide +kernel
theorem dX1_sum_8 : decode cX1_sum 8 = .ok (.iconst 0, 1) := by decide +kernel
theorem dX1_sum_9 : decode cX1_sum 9 = .ok (.ireturn, 1) := by decide +kernel
theorem dX1_sum_10 : decode cX1_sum 10 = .ok (.iconst 0, 1) := by decide +kernel
theorem dX1_sum_11 : decode cX1_sum 11 = .ok (.istore_n 2, 1) := by decide +kernel
theorem dX1_sum_12 : decode cX1_sum 12 = .ok (.iload_n 2, 1) := by decide +kernel
theorem dX1_sum_13 : decode cX1_sum 13 = .ok (.sipush 160, 3) := by decide +kernel
theorem dX1_sum_16 : decode cX1_sum 16 = .ok (.if_icmp .ge 72, 3) := by decide +kernel
theorem dX1_sum_19 : decode cX1_sum 19 = .ok (.aload_n 0, 1) := by decide +kernel
theorem dX1_sum_20 : decode cX1_sum 20 = .ok (.invokevirtual 123, 3) := by decide +kernel
theorem dX1_sum_23 : decode cX1_sum 23 = .ok (.bipush 43, 2) := by decide +kernel
theorem dX1_sum_25 : decode cX1_sum 25 = .ok (.if_icmp .eq 12, 3) := by decide +kernel
theorem dX1_sum_28 : decode cX1_sum 28 = .ok (.aload_n 0, 1) := by decide +kernel
theorem dX1_sum_29 : decode cX1_sum 29 = .ok (.invokevirtual 123, 3) := by decide +kernel
theorem dX1_sum_32 : decode cX1_sum 32 = .ok (.bipush 45, 2) := by decide +kernel
theorem dX1_sum_34 : decode cX1_sum 34 = .ok (.if_icmp .ne 54, 3) := by decide +kernel
theorem dX1_sum_37 : decode cX1_sum 37 = .ok (.aload_n 0, 1) := by decide +kernel
theorem dX1_sum_38 : decode cX1_sum 38 = .ok (.invokevirtual 123, 3) := by decide +kernel
theorem dX1_sum_41 : decode cX1_sum 41 = .ok (.bipush 43, 2) := by decide +kernel
theorem dX1_sum_43 : decode cX1_sum 43 = .ok (.if_icmp .ne 8, 3) := by decide +kernel
theorem dX1_sum_46 : decode cX1_sum 46 = .ok (.bipush (-15), 2) := by decide +kernel
theorem dX1_sum_48 : decode cX1_sum 48 = .ok (.goto 5, 3) := by decide +kernel
theorem dX1_sum_51 : decode cX1_sum 51 = .ok (.bipush (-16), 2) := by decide +kernel
theorem dX1_sum_53 : decode cX1_sum 53 = .ok (.istore_n 3, 1) := by decide +kernel
theorem dX1_sum_54 : decode cX1_sum 54 = .ok (.aload_n 0, 1) := by decide +kernel
theorem dX1_sum_55 : decode cX1_sum 55 = .ok (.dup, 1) := by decide +kernel
theorem dX1_sum_56 : decode cX1_sum 56 = .ok (.getfield 34, 3) := by decide +kernel
theorem dX1_sum_59 : decode cX1_sum 59 = .ok (.iconst 1, 1) := by decide +kernel
theorem dX1_sum_60 : decode cX1_sum 60 = .ok (.iadd, 1) := by decide +kernel
theorem dX1_sum_61 : decode cX1_sum 61 = .ok (.putfield 34, 3) := by decide +kernel
theorem dX1_sum_64 : decode cX1_sum 64 = .ok (.aload_n 0, 1) := by decide +kernel
theorem dX1_sum_65 : decode cX1_sum 65 = .ok (.iload_n 1, 1) := by decide +kernel
theorem dX1_sum_66 : decode cX1_sum 66 = .ok (.invokevirtual 155, 3) := by decide +kernel
theorem dX1_sum_69 : decode cX1_sum 69 = .ok (.ifCond .eq 11, 3) := by decide +kernel
theorem dX1_sum_72 : decode cX1_sum 72 = .ok (.aload_n 0, 1) := by decide +kernel
theorem dX1_sum_73 : decode cX1_sum 73 = .ok (.iload_n 3, 1) := by decide +kernel
theorem dX1_sum_74 : decode cX1_sum 74 = .ok (.invokevirtual 143, 3) := by decide +kernel
theorem dX1_sum_77 : decode cX1_sum 77 = .ok (.ifCond .ne 5, 3) := by decide +kernel
theorem dX1_sum_80 : decode cX1_sum 80 = .ok (.iconst 0, 1) := by decide +kernel
theorem dX1_sum_81 : decode cX1_sum 81 = .ok (.ireturn, 1) := by decide +kernel
theorem dX1_sum_82 : decode cX1_sum 82 = .ok (.iinc 2 1, 3) := by decide +kernel
theorem dX1_sum_85 : decode cX1_sum 85 = .ok (.goto (-73), 3) := by decide +kernel
theorem dX1_sum_88 : decode cX1_sum 88 = .ok (.iconst 1, 1) := by decide +kernel
theorem dX1_sum_89 : decode cX1_sum 89 = .ok (.ireturn, 1) := by decide +kernel
theorem dX1_term_0 : decode cX1_term 0 = .ok (.aload_n 0, 1) := by decide +kernel
theorem dX1_term_1 : decode cX1_term 1 = .ok (.iload_n 1, 1) := by decide +kernel
theorem dX1_term_2 : decode cX1_term 2 = .ok (.invokevirtual 158, 3) := by decide +kernel
theorem dX1_term_5 : decode cX1_term 5 = .ok (.ifCond .ne 5, 3) := by decide +kernel
theorem dX1_term_8 : decode cX1_term 8 = .ok (.iconst 0, 1) := by decide +kernel
theorem dX1_term_9 : decode cX1_term 9 = .ok (.ireturn, 1) := by decide +kernel
theorem dX1_term_10 : decode cX1_term 10 = .ok (.iconst 0, 1) := by decide +kernel
theorem dX1_term_11 : decode cX1_term 11 = .ok (.istore_n 2, 1) := by decide +kernel
theorem dX1_term_12 : decode cX1_term 12 = .ok (.iload_n 2, 1) := by decide +kernel
theorem dX1_term_13 : decode cX1_term 13 = .ok (.sipush 160, 3) := by decide +kernel
theorem dX1_term_16 : decode cX1_term 16 = .ok (.if_icmp .ge 47, 3) := by decide +kernel
theorem dX1_term_19 : decode cX1_term 19 = .ok (.aload_n 0, 1) := by decide +kernel
theorem dX1_term_20 : decode cX1_term 20 = .ok (.invokevirtual 123, 3) := by decide +kernel
theorem dX1_term_23 : decode cX1_term 23 = .ok (.bipush 42, 2) := by decide +kernel
theorem dX1_term_25 : decode cX1_term 25 = .ok (.if_icmp .ne 38, 3) := by decide +kernel
theorem dX1_term_28 : decode cX1_term 28 = .ok (.aload_n 0, 1) := by decide +kernel
theorem dX1_term_29 : decode cX1_term 29 = .ok (.dup, 1) := by decide +kernel
theorem dX1_term_30 : decode cX1_term 30 = .ok (.getfield 34, 3) := by decide +kernel
theorem dX1_term_33 : decode cX1_term 33 = .ok (.iconst 1, 1) := by decide +kernel
theorem dX1_term_34 : decode cX1_term 34 = .ok (.iadd, 1) := by decide +kernel
theorem dX1_term_35 : decode cX1_term 35 = .ok (.putfield 34, 3) := by decide +kernel
theorem dX1_term_38 : decode cX1_term 38 = .ok (.aload_n 0, 1) := by decide +kernel
theorem dX1_term_39 : decode cX1_term 39 = .ok (.iload_n 1, 1) := by decide +kernel
theorem dX1_term_40 : decode cX1_term 40 = .ok (.invokevirtual 158, 3) := by decide +kernel
theorem dX1_term_43 : decode cX1_term 43 = .ok (.ifCond .eq 12, 3) := by decide +kernel
theorem dX1_term_46 : decode cX1_term 46 = .ok (.aload_n 0, 1) := by decide +kernel
theorem dX1_term_47 : decode cX1_term 47 = .ok (.bipush (-17), 2) := by decide +kernel
theorem dX1_term_49 : decode cX1_term 49 = .ok (.invokevirtual 143, 3) := by decide +kernel
theorem dX1_term_52 : decode cX1_term 52 = .ok (.ifCond .ne 5, 3) := by decide +kernel
theorem dX1_term_55 : decode cX1_term 55 = .ok (.iconst 0, 1) := by decide +kernel
theorem dX1_term_56 : decode cX1_term 56 = .ok (.ireturn, 1) := by decide +kernel
theorem dX1_term_57 : decode cX1_term 57 = .ok (.iinc 2 1, 3) := by decide +kernel
theorem dX1_term_60 : decode cX1_term 60 = .ok (.goto (-48), 3) := by decide +kernel
theorem dX1_term_63 : decode cX1_term 63 = .ok (.iconst 1, 1) := by decide +kernel
theorem dX1_term_64 : decode cX1_term 64 = .ok (.ireturn, 1) := by decide +kernel
theorem dX1_one_0 : decode cX1_one 0 = .ok (.aload_n 0, 1) := by decide +kernel
theorem dX1_one_1 : decode cX1_one 1 = .ok (.invokevirtual 123, 3) := by decide +kernel
theorem dX1_one_4 : decode cX1_one 4 = .ok (.istore_n 2, 1) := by decide +kernel
theorem dX1_one_5 : decode cX1_one 5 = .ok (.iload_n 2, 1) := by decide +kernel
theorem dX1_one_6 : decode cX1_one 6 = .ok (.iconst 2, 1) := by decide +kernel
theorem dX1_one_7 : decode cX1_one 7 = .ok (.if_icmp .eq 8, 3) := by decide +kernel
theorem dX1_one_10 : decode cX1_one 10 = .ok (.iload_n 2, 1) := by decide +kernel
theorem dX1_one_11 : decode cX1_one 11 = .ok (.iconst 3, 1) := by decide +kernel
theorem dX1_one_12 : decode cX1_one 12 = .ok (.if_icmp .ne 8, 3) := by decide +kernel
theorem dX1_one_15 : decode cX1_one 15 = .ok (.aload_n 0, 1) := by decide +kernel
theorem dX1_one_16 : decode cX1_one 16 = .ok (.invokevirtual 161, 3) := by decide +kernel
theorem dX1_one_19 : decode cX1_one 19 = .ok (.ireturn, 1) := by decide +kernel
theorem dX1_one_20 : decode cX1_one 20 = .ok (.iload_n 2, 1) := by decide +kernel
theorem dX1_one_21 : decode cX1_one 21 = .ok (.bipush 45, 2) := by decide +kernel
theorem dX1_one_23 : decode cX1_one 23 = .ok (.if_icmp .eq 9, 3) := by decide +kernel
theorem dX1_one_26 : decode cX1_one 26 = .ok (.iload_n 2, 1) := by decide +kernel
theorem dX1_one_27 : decode cX1_one 27 = .ok (.bipush 40, 2) := by decide +kernel
theorem dX1_one_29 : decode cX1_one 29 = .ok (.if_icmp .ne 8, 3) := by decide +kernel
theorem dX1_one_32 : decode cX1_one 32 = .ok (.iload_n 1, 1) := by decide +kernel
theorem dX1_one_33 : decode cX1_one 33 = .ok (.iconst 5, 1) := by decide +kernel
theorem dX1_one_34 : decode cX1_one 34 = .ok (.if_icmp .lt 8, 3) := by decide +kernel
theorem dX1_one_37 : decode cX1_one 37 = .ok (.aload_n 0, 1) := by decide +kernel
theorem dX1_one_38 : decode cX1_one 38 = .ok (.invokevirtual 126, 3) := by decide +kernel
theorem dX1_one_41 : decode cX1_one 41 = .ok (.ireturn, 1) := by decide +kernel
theorem dX1_one_42 : decode cX1_one 42 = .ok (.aload_n 0, 1) := by decide +kernel
theorem dX1_one_43 : decode cX1_one 43 = .ok (.dup, 1) := by decide +kernel
theorem dX1_one_44 : decode cX1_one 44 = .ok (.getfield 34, 3) := by decide +kernel
theorem dX1_one_47 : decode cX1_one 47 = .ok (.iconst 1, 1) := by decide +kernel
theorem dX1_one_48 : decode cX1_one 48 = .ok (.iadd, 1) := by decide +kernel
theorem dX1_one_49 : decode cX1_one 49 = .ok (.putfield 34, 3) := by decide +kernel
theorem dX1_one_52 : decode cX1_one 52 = .ok (.iload_n 2, 1) := by decide +kernel
theorem dX1_one_53 : decode cX1_one 53 = .ok (.bipush 45, 2) := by decide +kernel
theorem dX1_one_55 : decode cX1_one 55 = .ok (.if_icmp .ne 28, 3) := by decide +kernel
theorem dX1_one_58 : decode cX1_one 58 = .ok (.aload_n 0, 1) := by decide +kernel
theorem dX1_one_59 : decode cX1_one 59 = .ok (.iload_n 1, 1) := by decide +kernel
theorem dX1_one_60 : decode cX1_one 60 = .ok (.iconst 1, 1) := by decide +kernel
theorem dX1_one_61 : decode cX1_one 61 = .ok (.iadd, 1) := by decide +kernel
theorem dX1_one_62 : decode cX1_one 62 = .ok (.invokevirtual 158, 3) := by decide +kernel
theorem dX1_one_65 : decode cX1_one 65 = .ok (.ifCond .eq 16, 3) := by decide +kernel
theorem dX1_one_68 : decode cX1_one 68 = .ok (.aload_n 0, 1) := by decide +kernel
theorem dX1_one_69 : decode cX1_one 69 = .ok (.bipush (-22), 2) := by decide +kernel
theorem dX1_one_71 : decode cX1_one 71 = .ok (.invokevirtual 143, 3) := by decide +kernel
theorem dX1_one_74 : decode cX1_one 74 = .ok (.ifCond .eq 7, 3) := by decide +kernel
theorem dX1_one_77 : decode cX1_one 77 = .ok (.iconst 1, 1) := by decide +kernel
theorem dX1_one_78 : decode cX1_one 78 = .ok (.goto 4, 3) := by decide +kernel
theorem dX1_one_81 : decode cX1_one 81 = .ok (.iconst 0, 1) := by decide +kernel
theorem dX1_one_82 : decode cX1_one 82 = .ok (.ireturn, 1) := by decide +kernel
theorem dX1_one_83 : decode cX1_one 83 = .ok (.aload_n 0, 1) := by decide +kernel
theorem dX1_one_84 : decode cX1_one 84 = .ok (.iload_n 1, 1) := by decide +kernel
theorem dX1_one_85 : decode cX1_one 85 = .ok (.iconst 1, 1) := by decide +kernel
theorem dX1_one_86 : decode cX1_one 86 = .ok (.iadd, 1) := by decide +kernel
theorem dX1_one_87 : decode cX1_one 87 = .ok (.invokevirtual 133, 3) := by decide +kernel
theorem dX1_one_90 : decode cX1_one 90 = .ok (.ifCond .eq 16, 3) := by decide +kernel
theorem dX1_one_93 : decode cX1_one 93 = .ok (.aload_n 0, 1) := by decide +kernel
theorem dX1_one_94 : decode cX1_one 94 = .ok (.bipush 41, 2) := by decide +kernel
theorem dX1_one_96 : decode cX1_one 96 = .ok (.invokevirtual 53, 3) := by decide +kernel
theorem dX1_one_99 : decode cX1_one 99 = .ok (.ifCond .eq 7, 3) := by decide +kernel
theorem dX1_one_102 : decode cX1_one 102 = .ok (.iconst 1, 1) := by decide +kernel
theorem dX1_one_103 : decode cX1_one 103 = .ok (.goto 4, 3) := by decide +kernel
theorem dX1_one_106 : decode cX1_one 106 = .ok (.iconst 0, 1) := by decide +kernel
theorem dX1_one_107 : decode cX1_one 107 = .ok (.ireturn, 1) := by decide +kernel
theorem dX1_operandNow_0 : decode cX1_operandNow 0 = .ok (.aload_n 0, 1) := by decide +kernel
theorem dX1_operandNow_1 : decode cX1_operandNow 1 = .ok (.getfield 34, 3) := by decide +kernel
theorem dX1_operandNow_4 : decode cX1_operandNow 4 = .ok (.ifCond .lt 31, 3) := by decide +kernel
theorem dX1_operandNow_7 : decode cX1_operandNow 7 = .ok (.aload_n 0, 1) := by decide +kernel
theorem dX1_operandNow_8 : decode cX1_operandNow 8 = .ok (.getfield 34, 3) := by decide +kernel
theorem dX1_operandNow_11 : decode cX1_operandNow 11 = .ok (.aload_n 0, 1) := by decide +kernel
theorem dX1_operandNow_12 : decode cX1_operandNow 12 = .ok (.getfield 25, 3) := by decide +kernel
theorem dX1_operandNow_15 : decode cX1_operandNow 15 = .ok (.arraylength, 1) := by decide +kernel
theorem dX1_operandNow_16 : decode cX1_operandNow 16 = .ok (.if_icmp .ge 19, 3) := by decide +kernel
theorem dX1_operandNow_19 : decode cX1_operandNow 19 = .ok (.aload_n 0, 1) := by decide +kernel
theorem dX1_operandNow_20 : decode cX1_operandNow 20 = .ok (.aload_n 0, 1) := by decide +kernel
theorem dX1_operandNow_21 : decode cX1_operandNow 21 = .ok (.getfield 25, 3) := by decide +kernel
theorem dX1_operandNow_24 : decode cX1_operandNow 24 = .ok (.aload_n 0, 1) := by decide +kernel
theorem dX1_operandNow_25 : decode cX1_operandNow 25 = .ok (.getfield 34, 3) := by decide +kernel
theorem dX1_operandNow_28 : decode cX1_operandNow 28 = .ok (.iaload, 1) := by decide +kernel
theorem dX1_operandNow_29 : decode cX1_operandNow 29 = .ok (.invokevirtual 143, 3) := by decide +kernel
theorem dX1_operandNow_32 : decode cX1_operandNow 32 = .ok (.ifCond .ne 8, 3) := by decide +kernel
theorem dX1_operandNow_35 : decode cX1_operandNow 35 = .ok (.aload_n 0, 1) := by decide +kernel
theorem dX1_operandNow_36 : decode cX1_operandNow 36 = .ok (.invokevirtual 126, 3) := by decide +kernel
theorem dX1_operandNow_39 : decode cX1_operandNow 39 = .ok (.ireturn, 1) := by decide +kernel
theorem dX1_operandNow_40 : decode cX1_operandNow 40 = .ok (.aload_n 0, 1) := by decide +kernel
theorem dX1_operandNow_41 : decode cX1_operandNow 41 = .ok (.dup, 1) := by decide +kernel
theorem dX1_operandNow_42 : decode cX1_operandNow 42 = .ok (.getfield 34, 3) := by decide +kernel
theorem dX1_operandNow_45 : decode cX1_operandNow 45 = .ok (.iconst 1, 1) := by decide +kernel
theorem dX1_operandNow_46 : decode cX1_operandNow 46 = .ok (.iadd, 1) := by decide +kernel
theorem dX1_operandNow_47 : decode cX1_operandNow 47 = .ok (.putfield 34, 3) := by decide +kernel
theorem dX1_operandNow_50 : decode cX1_operandNow 50 = .ok (.iconst 1, 1) := by decide +kernel
theorem dX1_operandNow_51 : decode cX1_operandNow 51 = .ok (.ireturn, 1) := by decide +kernel
theorem dX2_init_0 : decode cX2_init 0 = .ok (.aload_n 0, 1) := by decide +kernel
theorem dX2_init_1 : decode cX2_init 1 = .ok (.invokespecial 3, 3) := by decide +kernel
theorem dX2_init_4 : decode cX2_init 4 = .ok (.aload_n 0, 1) := by decide +kernel
theorem dX2_init_5 : decode cX2_init 5 = .ok (.iconst (-1), 1) := by decide +kernel
theorem dX2_init_6 : decode cX2_init 6 = .ok (.putfield 9, 3) := by decide +kernel
theorem dX2_init_9 : decode cX2_init 9 = .ok (.aload_n 0, 1) := by decide +kernel
theorem dX2_init_10 : decode cX2_init 10 = .ok (.iconst 0, 1) := by decide +kernel
theorem dX2_init_11 : decode cX2_init 11 = .ok (.putfield 15, 3) := by decide +kernel
theorem dX2_init_14 : decode cX2_init 14 = .ok (.aload_n 0, 1) := by decide +kernel
theorem dX2_init_15 : decode cX2_init 15 = .ok (.bipush 40, 2) := by decide +kernel
theorem dX2_init_17 : decode cX2_init 17 = .ok (.newarray .int, 2) := by decide +kernel
theorem dX2_init_19 : decode cX2_init 19 = .ok (.putfield 18, 3) := by decide +kernel
theorem dX2_init_22 : decode cX2_init 22 = .ok (.return_, 1) := by decide +kernel
theorem dX2_isMissing_0 : decode cX2_isMissing 0 = .ok (.aload_n 0, 1) := by decide +kernel
theorem dX2_isMissing_1 : decode cX2_isMissing 1 = .ok (.getfield 9, 3) := by decide +kernel
theorem dX2_isMissing_4 : decode cX2_isMissing 4 = .ok (.iconst (-1), 1) := by decide +kernel
theorem dX2_isMissing_5 : decode cX2_isMissing 5 = .ok (.if_icmp .ne 7, 3) := by decide +kernel
theorem dX2_isMissing_8 : decode cX2_isMissing 8 = .ok (.iconst 1, 1) := by decide +kernel
theorem dX2_isMissing_9 : decode cX2_isMissing 9 = .ok (.goto 4, 3) := by decide +kernel
theorem dX2_isMissing_12 : decode cX2_isMissing 12 = .ok (.iconst 0, 1) := by decide +kernel
theorem dX2_isMissing_13 : decode cX2_isMissing 13 = .ok (.ireturn, 1) := by decide +kernel
theorem dX2_become_0 : decode cX2_become 0 = .ok (.aload_n 0, 1) := by decide +kernel
theorem dX2_become_1 : decode cX2_become 1 = .ok (.iload_n 1, 1) := by decide +kernel
theorem dX2_become_2 : decode cX2_become 2 = .ok (.putfield 9, 3) := by decide +kernel
theorem dX2_become_5 : decode cX2_become 5 = .ok (.aload_n 0, 1) := by decide +kernel
theorem dX2_become_6 : decode cX2_become 6 = .ok (.iload_n 2, 1) := by decide +kernel
theorem dX2_become_7 : decode cX2_become 7 = .ok (.iconst 0, 1) := by decide +kernel
theorem dX2_become_8 : decode cX2_become 8 = .ok (.bipush 40, 2) := by decide +kernel
theorem dX2_become_10 : decode cX2_become 10 = .ok (.invokestatic 22, 3) := by decide +kernel
theorem dX2_become_13 : decode cX2_become 13 = .ok (.putfield 15, 3) := by decide +kernel
theorem dX2_become_16 : decode cX2_become 16 = .ok (.iconst 0, 1) := by decide +kernel
theorem dX2_become_17 : decode cX2_become 17 = .ok (.istore_n 3, 1) := by decide +kernel
theorem dX2_become_18 : decode cX2_become 18 = .ok (.iload_n 3, 1) := by decide +kernel
theorem dX2_become_19 : decode cX2_become 19 = .ok (.bipush 40, 2) := by decide +kernel
theorem dX2_become_21 : decode cX2_become 21 = .ok (.if_icmp .ge 16, 3) := by decide +kernel
theorem dX2_become_24 : decode cX2_become 24 = .ok (.aload_n 0, 1) := by decide +kernel
theorem dX2_become_25 : decode cX2_become 25 = .ok (.getfield 18, 3) := by decide +kernel
theorem dX2_become_28 : decode cX2_become 28 = .ok (.iload_n 3, 1) := by decide +kernel
theorem dX2_become_29 : decode cX2_become 29 = .ok (.iconst 0, 1) := by decide +kernel
theorem dX2_become_30 : decode cX2_become 30 = .ok (.iastore, 1) := by decide +kernel
theorem dX2_become_31 : decode cX2_become 31 = .ok (.iinc 3 1, 3) := by decide +kernel
theorem dX2_become_34 : decode cX2_become 34 = .ok (.goto (-16), 3) := by decide +kernel
theorem dX2_become_37 : decode cX2_become 37 = .ok (.return_, 1) := by decide +kernel
theorem dX2_holds_0 : decode cX2_holds 0 = .ok (.iload_n 1, 1) := by decide +kernel
theorem dX2_holds_1 : decode cX2_holds 1 = .ok (.ifCond .lt 29, 3) := by decide +kernel
theorem dX2_holds_4 : decode cX2_holds 4 = .ok (.iload_n 2, 1) := by decide +kernel
theorem dX2_holds_5 : decode cX2_holds 5 = .ok (.ifCond .lt 25, 3) := by decide +kernel
theorem dX2_holds_8 : decode cX2_holds 8 = .ok (.iload_n 1, 1) := by decide +kernel
theorem dX2_holds_9 : decode cX2_holds 9 = .ok (.aload_n 0, 1) := by decide +kernel
theorem dX2_holds_10 : decode cX2_holds 10 = .ok (.getfield 15, 3) := by decide +kernel
theorem dX2_holds_13 : decode cX2_holds 13 = .ok (.if_icmp .gt 17, 3) := by decide +kernel
theorem dX2_holds_16 : decode cX2_holds 16 = .ok (.iload_n 2, 1) := by decide +kernel
theorem dX2_holds_17 : decode cX2_holds 17 = .ok (.aload_n 0, 1) := by decide +kernel
theorem dX2_holds_18 : decode cX2_holds 18 = .ok (.getfield 15, 3) := by decide +kernel
theorem dX2_holds_21 : decode cX2_holds 21 = .ok (.iload_n 1, 1) := by decide +kernel
theorem dX2_holds_22 : decode cX2_holds 22 = .ok (.isub, 1) := by decide +kernel
theorem dX2_holds_23 : decode cX2_holds 23 = .ok (.if_icmp .gt 7, 3) := by decide +kernel
theorem dX2_holds_26 : decode cX2_holds 26 = .ok (.iconst 1, 1) := by decide +kernel
theorem dX2_holds_27 : decode cX2_holds 27 = .ok (.goto 4, 3) := by decide +kernel
theorem dX2_holds_30 : decode cX2_holds 30 = .ok (.iconst 0, 1) := by decide +kernel
theorem dX2_holds_31 : decode cX2_holds 31 = .ok (.ireturn, 1) := by decide +kernel
theorem dX2_put_0 : decode cX2_put 0 = .ok (.iload_n 1, 1) := by decide +kernel
theorem dX2_put_1 : decode cX2_put 1 = .ok (.ifCond .lt 11, 3) := by decide +kernel
theorem dX2_put_4 : decode cX2_put 4 = .ok (.iload_n 1, 1) := by decide +kernel
theorem dX2_put_5 : decode cX2_put 5 = .ok (.aload_n 0, 1) := by decide +kernel
theorem dX2_put_6 : decode cX2_put 6 = .ok (.getfield 15, 3) := by decide +kernel
theorem dX2_put_9 : decode cX2_put 9 = .ok (.if_icmp .lt 4, 3) := by decide +kernel
theorem dX2_put_12 : decode cX2_put 12 = .ok (.return_, 1) := by decide +kernel
theorem dX2_put_13 : decode cX2_put 13 = .ok (.aload_n 0, 1) := by decide +kernel
theorem dX2_put_14 : decode cX2_put 14 = .ok (.getfield 18, 3) := by decide +kernel
theorem dX2_put_17 : decode cX2_put 17 = .ok (.iload_n 1, 1) := by decide +kernel
theorem dX2_put_18 : decode cX2_put 18 = .ok (.aload_n 0, 1) := by decide +kernel
theorem dX2_put_19 : decode cX2_put 19 = .ok (.getfield 9, 3) := by decide +kernel
theorem dX2_put_22 : decode cX2_put 22 = .ok (.ifCond .ne 8, 3) := by decide +kernel
theorem dX2_put_25 : decode cX2_put 25 = .ok (.iload_n 2, 1) := by decide +kernel
theorem dX2_put_26 : decode cX2_put 26 = .ok (.i2b, 1) := by decide +kernel
theorem dX2_put_27 : decode cX2_put 27 = .ok (.goto 17, 3) := by decide +kernel
theorem dX2_put_30 : decode cX2_put 30 = .ok (.aload_n 0, 1) := by decide +kernel
theorem dX2_put_31 : decode cX2_put 31 = .ok (.getfield 9, 3) := by decide +kernel
theorem dX2_put_34 : decode cX2_put 34 = .ok (.iconst 1, 1) := by decide +kernel
theorem dX2_put_35 : decode cX2_put 35 = .ok (.if_icmp .ne 8, 3) := by decide +kernel
theorem dX2_put_38 : decode cX2_put 38 = .ok (.iload_n 2, 1) := by decide +kernel
theorem dX2_put_39 : decode cX2_put 39 = .ok (.i2s, 1) := by decide +kernel
theorem dX2_put_40 : decode cX2_put 40 = .ok (.goto 4, 3) := by decide +kernel
theorem dX2_put_43 : decode cX2_put 43 = .ok (.iload_n 2, 1) := by decide +kernel
theorem dX2_put_44 : decode cX2_put 44 = .ok (.iastore, 1) := by decide +kernel
theorem dX2_put_45 : decode cX2_put 45 = .ok (.return_, 1) := by decide +kernel
theorem dX3_init_0 : decode cX3_init 0 = .ok (.aload_n 0, 1) := by decide +kernel
theorem dX3_init_1 : decode cX3_init 1 = .ok (.invokespecial 3, 3) := by decide +kernel
theorem dX3_init_4 : decode cX3_init 4 = .ok (.aload_n 0, 1) := by decide +kernel
theorem dX3_init_5 : decode cX3_init 5 = .ok (.sipush 160, 3) := by decide +kernel
theorem dX3_init_8 : decode cX3_init 8 = .ok (.newarray .int, 2) := by decide +kernel
theorem dX3_init_10 : decode cX3_init 10 = .ok (.putfield 9, 3) := by decide +kernel
theorem dX3_init_13 : decode cX3_init 13 = .ok (.aload_n 0, 1) := by decide +kernel
theorem dX3_init_14 : decode cX3_init 14 = .ok (.iconst 3, 1) := by decide +kernel
theorem dX3_init_15 : decode cX3_init 15 = .ok (.newarray .int, 2) := by decide +kernel
theorem dX3_init_17 : decode cX3_init 17 = .ok (.putfield 15, 3) := by decide +kernel
theorem dX3_init_20 : decode cX3_init 20 = .ok (.aload_n 0, 1) := by decide +kernel
theorem dX3_init_21 : decode cX3_init 21 = .ok (.iconst 0, 1) := by decide +kernel
theorem dX3_init_22 : decode cX3_init 22 = .ok (.putfield 18, 3) := by decide +kernel
theorem dX3_init_25 : decode cX3_init 25 = .ok (.return_, 1) := by decide +kernel
theorem dX3_clear_0 : decode cX3_clear 0 = .ok (.aload_n 0, 1) := by decide +kernel
theorem dX3_clear_1 : decode cX3_clear 1 = .ok (.iconst 0, 1) := by decide +kernel
theorem dX3_clear_2 : decode cX3_clear 2 = .ok (.putfield 18, 3) := by decide +kernel
theorem dX3_clear_5 : decode cX3_clear 5 = .ok (.return_, 1) := by decide +kernel
theorem dX3_writeFirst_0 : decode cX3_writeFirst 0 = .ok (.aload_n 0, 1) := by decide +kernel
theorem dX3_writeFirst_1 : decode cX3_writeFirst 1 = .ok (.iconst (-1), 1) := by decide +kernel
theorem dX3_writeFirst_2 : decode cX3_writeFirst 2 = .ok (.invokevirtual 22, 3) := by decide +kernel
theorem dX3_writeFirst_5 : decode cX3_writeFirst 5 = .ok (.pop, 1) := by decide +kernel
theorem dX3_writeFirst_6 : decode cX3_writeFirst 6 = .ok (.aload_n 0, 1) := by decide +kernel
theorem dX3_writeFirst_7 : decode cX3_writeFirst 7 = .ok (.iconst 0, 1) := by decide +kernel
theorem dX3_writeFirst_8 : decode cX3_writeFirst 8 = .ok (.invokevirtual 26, 3) := by decide +kernel
theorem dX3_writeFirst_11 : decode cX3_writeFirst 11 = .ok (.aload_n 0, 1) := by decide +kernel
theorem dX3_writeFirst_12 : decode cX3_writeFirst 12 = .ok (.iconst 1, 1) := by decide +kernel
theorem dX3_writeFirst_13 : decode cX3_writeFirst 13 = .ok (.invokevirtual 22, 3) := by decide +kernel
theorem dX3_writeFirst_16 : decode cX3_writeFirst 16 = .ok (.pop, 1) := by decide +kernel
theorem dX3_writeFirst_17 : decode cX3_writeFirst 17 = .ok (.aload_n 0, 1) := by decide +kernel
theorem dX3_writeFirst_18 : decode cX3_writeFirst 18 = .ok (.iconst 1, 1) := by decide +kernel
theorem dX3_writeFirst_19 : decode cX3_writeFirst 19 = .ok (.invokevirtual 26, 3) := by decide +kernel
theorem dX3_writeFirst_22 : decode cX3_writeFirst 22 = .ok (.aload_n 0, 1) := by decide +kernel
theorem dX3_writeFirst_23 : decode cX3_writeFirst 23 = .ok (.bipush 9, 2) := by decide +kernel
theorem dX3_writeFirst_25 : decode cX3_writeFirst 25 = .ok (.invokevirtual 22, 3) := by decide +kernel
theorem dX3_writeFirst_28 : decode cX3_writeFirst 28 = .ok (.pop, 1) := by decide +kernel
theorem dX3_writeFirst_29 : decode cX3_writeFirst 29 = .ok (.aload_n 0, 1) := by decide +kernel
theorem dX3_writeFirst_30 : decode cX3_writeFirst 30 = .ok (.iconst 2, 1) := by decide +kernel
theorem dX3_writeFirst_31 : decode cX3_writeFirst 31 = .ok (.invokevirtual 26, 3) := by decide +kernel
theorem dX3_writeFirst_34 : decode cX3_writeFirst 34 = .ok (.return_, 1) := by decide +kernel
theorem dX3_add_0 : decode cX3_add 0 = .ok (.aload_n 0, 1) := by decide +kernel
theorem dX3_add_1 : decode cX3_add 1 = .ok (.getfield 18, 3) := by decide +kernel
theorem dX3_add_4 : decode cX3_add 4 = .ok (.aload_n 0, 1) := by decide +kernel
theorem dX3_add_5 : decode cX3_add 5 = .ok (.getfield 9, 3) := by decide +kernel
theorem dX3_add_8 : decode cX3_add 8 = .ok (.arraylength, 1) := by decide +kernel
theorem dX3_add_9 : decode cX3_add 9 = .ok (.if_icmp .lt 5, 3) := by decide +kernel
theorem dX3_add_12 : decode cX3_add 12 = .ok (.iconst 0, 1) := by decide +kernel
theorem dX3_add_13 : decode cX3_add 13 = .ok (.ireturn, 1) := by decide +kernel
theorem dX3_add_14 : decode cX3_add 14 = .ok (.aload_n 0, 1) := by decide +kernel
theorem dX3_add_15 : decode cX3_add 15 = .ok (.getfield 9, 3) := by decide +kernel
theorem dX3_add_18 : decode cX3_add 18 = .ok (.aload_n 0, 1) := by decide +kernel
theorem dX3_add_19 : decode cX3_add 19 = .ok (.getfield 18, 3) := by decide +kernel
theorem dX3_add_22 : decode cX3_add 22 = .ok (.iload_n 1, 1) := by decide +kernel
theorem dX3_add_23 : decode cX3_add 23 = .ok (.iastore, 1) := by decide +kernel
theorem dX3_add_24 : decode cX3_add 24 = .ok (.aload_n 0, 1) := by decide +kernel
theorem dX3_add_25 : decode cX3_add 25 = .ok (.dup, 1) := by decide +kernel
theorem dX3_add_26 : decode cX3_add 26 = .ok (.getfield 18, 3) := by decide +kernel
theorem dX3_add_29 : decode cX3_add 29 = .ok (.iconst 1, 1) := by decide +kernel
theorem dX3_add_30 : decode cX3_add 30 = .ok (.iadd, 1) := by decide +kernel
theorem dX3_add_31 : decode cX3_add 31 = .ok (.putfield 18, 3) := by decide +kernel
theorem dX3_add_34 : decode cX3_add 34 = .ok (.iconst 1, 1) := by decide +kernel
theorem dX3_add_35 : decode cX3_add 35 = .ok (.ireturn, 1) := by decide +kernel
theorem dX3_endPart_0 : decode cX3_endPart 0 = .ok (.iload_n 1, 1) := by decide +kernel
theorem dX3_endPart_1 : decode cX3_endPart 1 = .ok (.ifCond .lt 18, 3) := by decide +kernel
theorem dX3_endPart_4 : decode cX3_endPart 4 = .ok (.iload_n 1, 1) := by decide +kernel
theorem dX3_endPart_5 : decode cX3_endPart 5 = .ok (.iconst 3, 1) := by decide +kernel
theorem dX3_endPart_6 : decode cX3_endPart 6 = .ok (.if_icmp .ge 13, 3) := by decide +kernel
theorem dX3_endPart_9 : decode cX3_endPart 9 = .ok (.aload_n 0, 1) := by decide +kernel
theorem dX3_endPart_10 : decode cX3_endPart 10 = .ok (.getfield 15, 3) := by decide +kernel
theorem dX3_endPart_13 : decode cX3_endPart 13 = .ok (.iload_n 1, 1) := by decide +kernel
theorem dX3_endPart_14 : decode cX3_endPart 14 = .ok (.aload_n 0, 1) := by decide +kernel
theorem dX3_endPart_15 : decode cX3_endPart 15 = .ok (.getfield 18, 3) := by decide +kernel
theorem dX3_endPart_18 : decode cX3_endPart 18 = .ok (.iastore, 1) := by decide +kernel
theorem dX3_endPart_19 : decode cX3_endPart 19 = .ok (.return_, 1) := by decide +kernel
theorem dX3_valueOf_0 : decode cX3_valueOf 0 = .ok (.iload_n 1, 1) := by decide +kernel
theorem dX3_valueOf_1 : decode cX3_valueOf 1 = .ok (.ifCond .le 19, 3) := by decide +kernel
theorem dX3_valueOf_4 : decode cX3_valueOf 4 = .ok (.iload_n 1, 1) := by decide +kernel
theorem dX3_valueOf_5 : decode cX3_valueOf 5 = .ok (.iconst 3, 1) := by decide +kernel
theorem dX3_valueOf_6 : decode cX3_valueOf 6 = .ok (.if_icmp .ge 14, 3) := by decide +kernel
theorem dX3_valueOf_9 : decode cX3_valueOf 9 = .ok (.aload_n 0, 1) := by decide +kernel
theorem dX3_valueOf_10 : decode cX3_valueOf 10 = .ok (.getfield 15, 3) := by decide +kernel
theorem dX3_valueOf_13 : decode cX3_valueOf 13 = .ok (.iload_n 1, 1) := by decide +kernel
theorem dX3_valueOf_14 : decode cX3_valueOf 14 = .ok (.iconst 1, 1) := by decide +kernel
theorem dX3_valueOf_15 : decode cX3_valueOf 15 = .ok (.isub, 1) := by decide +kernel
theorem dX3_valueOf_16 : decode cX3_valueOf 16 = .ok (.iaload, 1) := by decide +kernel
theorem dX3_valueOf_17 : decode cX3_valueOf 17 = .ok (.goto 4, 3) := by decide +kernel
theorem dX3_valueOf_20 : decode cX3_valueOf 20 = .ok (.iconst 0, 1) := by decide +kernel
theorem dX3_valueOf_21 : decode cX3_valueOf 21 = .ok (.istore 4, 2) := by decide +kernel
theorem dX3_valueOf_23 : decode cX3_valueOf 23 = .ok (.iload_n 1, 1) := by decide +kernel
theorem dX3_valueOf_24 : decode cX3_valueOf 24 = .ok (.ifCond .lt 17, 3) := by decide +kernel
theorem dX3_valueOf_27 : decode cX3_valueOf 27 = .ok (.iload_n 1, 1) := by decide +kernel
theorem dX3_valueOf_28 : decode cX3_valueOf 28 = .ok (.iconst 3, 1) := by decide +kernel
theorem dX3_valueOf_29 : decode cX3_valueOf 29 = .ok (.if_icmp .ge 12, 3) := by decide +kernel
theorem dX3_valueOf_32 : decode cX3_valueOf 32 = .ok (.aload_n 0, 1) := by decide +kernel
theorem dX3_valueOf_33 : decode cX3_valueOf 33 = .ok (.getfield 15, 3) := by decide +kernel
theorem dX3_valueOf_36 : decode cX3_valueOf 36 = .ok (.iload_n 1, 1) := by decide +kernel
theorem dX3_valueOf_37 : decode cX3_valueOf 37 = .ok (.iaload, 1) := by decide +kernel
theorem dX3_valueOf_38 : decode cX3_valueOf 38 = .ok (.goto 4, 3) := by decide +kernel
theorem dX3_valueOf_41 : decode cX3_valueOf 41 = .ok (.iconst 0, 1) := by decide +kernel
theorem dX3_valueOf_42 : decode cX3_valueOf 42 = .ok (.istore 5, 2) := by decide +kernel
theorem dX3_valueOf_44 : decode cX3_valueOf 44 = .ok (.iconst 0, 1) := by decide +kernel
theorem dX3_valueOf_45 : decode cX3_valueOf 45 = .ok (.istore 6, 2) := by decide +kernel
theorem dX3_valueOf_47 : decode cX3_valueOf 47 = .ok (.iload 4, 2) := by decide +kernel
theorem dX3_valueOf_49 : decode cX3_valueOf 49 = .ok (.istore 7, 2) := by decide +kernel
theorem dX3_valueOf_51 : decode cX3_valueOf 51 = .ok (.iload 7, 2) := by decide +kernel
theorem dX3_valueOf_53 : decode cX3_valueOf 53 = .ok (.iload 5, 2) := by decide +kernel
theorem dX3_valueOf_55 : decode cX3_valueOf 55 = .ok (.if_icmp .ge 161, 3) := by decide +kernel
theorem dX3_valueOf_58 : decode cX3_valueOf 58 = .ok (.iload 7, 2) := by decide +kernel
theorem dX3_valueOf_60 : decode cX3_valueOf 60 = .ok (.aload_n 0, 1) := by decide +kernel
theorem dX3_valueOf_61 : decode cX3_valueOf 61 = .ok (.getfield 9, 3) := by decide +kernel
theorem dX3_valueOf_64 : decode cX3_valueOf 64 = .ok (.arraylength, 1) := by decide +kernel
theorem dX3_valueOf_65 : decode cX3_valueOf 65 = .ok (.if_icmp .ge 151, 3) := by decide +kernel
theorem dX3_valueOf_68 : decode cX3_valueOf 68 = .ok (.aload_n 0, 1) := by decide +kernel
theorem dX3_valueOf_69 : decode cX3_valueOf 69 = .ok (.getfield 9, 3) := by decide +kernel
theorem dX3_valueOf_72 : decode cX3_valueOf 72 = .ok (.iload 7, 2) := by decide +kernel
theorem dX3_valueOf_74 : decode cX3_valueOf 74 = .ok (.iaload, 1) := by decide +kernel
theorem dX3_valueOf_75 : decode cX3_valueOf 75 = .ok (.istore 8, 2) := by decide +kernel
theorem dX3_valueOf_77 : decode cX3_valueOf 77 = .ok (.iload 8, 2) := by decide +kernel
theorem dX3_valueOf_79 : decode cX3_valueOf 79 = .ok (.bipush (-11), 2) := by decide +kernel
theorem dX3_valueOf_81 : decode cX3_valueOf 81 = .ok (.if_icmp .gt 45, 3) := by decide +kernel
theorem dX3_valueOf_84 : decode cX3_valueOf 84 = .ok (.iload 8, 2) := by decide +kernel
theorem dX3_valueOf_86 : decode cX3_valueOf 86 = .ok (.bipush (-17), 2) := by decide +kernel
theorem dX3_valueOf_88 : decode cX3_valueOf 88 = .ok (.if_icmp .lt 38, 3) := by decide +kernel
theorem dX3_valueOf_91 : decode cX3_valueOf 91 = .ok (.iload 6, 2) := by decide +kernel
theorem dX3_valueOf_93 : decode cX3_valueOf 93 = .ok (.iconst 2, 1) := by decide +kernel
theorem dX3_valueOf_94 : decode cX3_valueOf 94 = .ok (.if_icmp .ge 5, 3) := by decide +kernel
theorem dX3_valueOf_97 : decode cX3_valueOf 97 = .ok (.iconst 0, 1) := by decide +kernel
theorem dX3_valueOf_98 : decode cX3_valueOf 98 = .ok (.ireturn, 1) := by decide +kernel
theorem dX3_valueOf_99 : decode cX3_valueOf 99 = .ok (.iinc 6 (-1), 3) := by decide +kernel
theorem dX3_valueOf_102 : decode cX3_valueOf 102 = .ok (.aload_n 3, 1) := by decide +kernel
theorem dX3_valueOf_103 : decode cX3_valueOf 103 = .ok (.iload 6, 2) := by decide +kernel
theorem dX3_valueOf_105 : decode cX3_valueOf 105 = .ok (.iconst 1, 1) := by decide +kernel
theorem dX3_valueOf_106 : decode cX3_valueOf 106 = .ok (.isub, 1) := by decide +kernel
theorem dX3_valueOf_107 : decode cX3_valueOf 107 = .ok (.iload 8, 2) := by decide +kernel
theorem dX3_valueOf_109 : decode cX3_valueOf 109 = .ok (.aload_n 3, 1) := by decide +kernel
theorem dX3_valueOf_110 : decode cX3_valueOf 110 = .ok (.iload 6, 2) := by decide +kernel
theorem dX3_valueOf_112 : decode cX3_valueOf 112 = .ok (.iconst 1, 1) := by decide +kernel
theorem dX3_valueOf_113 : decode cX3_valueOf 113 = .ok (.isub, 1) := by decide +kernel
theorem dX3_valueOf_114 : decode cX3_valueOf 114 = .ok (.iaload, 1) := by decide +kernel
theorem dX3_valueOf_115 : decode cX3_valueOf 115 = .ok (.aload_n 3, 1) := by decide +kernel
theorem dX3_valueOf_116 : decode cX3_valueOf 116 = .ok (.iload 6, 2) := by decide +kernel
theorem dX3_valueOf_118 : decode cX3_valueOf 118 = .ok (.iaload, 1) := by decide +kernel
theorem dX3_valueOf_119 : decode cX3_valueOf 119 = .ok (.invokestatic 30, 3) := by decide +kernel
theorem dX3_valueOf_122 : decode cX3_valueOf 122 = .ok (.iastore, 1) := by decide +kernel
theorem dX3_valueOf_123 : decode cX3_valueOf 123 = .ok (.goto 87, 3) := by decide +kernel
theorem dX3_valueOf_126 : decode cX3_valueOf 126 = .ok (.iload 8, 2) := by decide +kernel
theorem dX3_valueOf_128 : decode cX3_valueOf 128 = .ok (.bipush (-21), 2) := by decide +kernel
theorem dX3_valueOf_130 : decode cX3_valueOf 130 = .ok (.if_icmp .eq 10, 3) := by decide +kernel
theorem dX3_valueOf_133 : decode cX3_valueOf 133 = .ok (.iload 8, 2) := by decide +kernel
theorem dX3_valueOf_135 : decode cX3_valueOf 135 = .ok (.bipush (-22), 2) := by decide +kernel
theorem dX3_valueOf_137 : decode cX3_valueOf 137 = .ok (.if_icmp .ne 51, 3) := by decide +kernel
theorem dX3_valueOf_140 : decode cX3_valueOf 140 = .ok (.iload 6, 2) := by decide +kernel
theorem dX3_valueOf_142 : decode cX3_valueOf 142 = .ok (.iconst 1, 1) := by decide +kernel
theorem dX3_valueOf_143 : decode cX3_valueOf 143 = .ok (.if_icmp .ge 5, 3) := by decide +kernel
theorem dX3_valueOf_146 : decode cX3_valueOf 146 = .ok (.iconst 0, 1) := by decide +kernel
theorem dX3_valueOf_147 : decode cX3_valueOf 147 = .ok (.ireturn, 1) := by decide +kernel
theorem dX3_valueOf_148 : decode cX3_valueOf 148 = .ok (.aload_n 3, 1) := by decide +kernel
theorem dX3_valueOf_149 : decode cX3_valueOf 149 = .ok (.iload 6, 2) := by decide +kernel
theorem dX3_valueOf_151 : decode cX3_valueOf 151 = .ok (.iconst 1, 1) := by decide +kernel
theorem dX3_valueOf_152 : decode cX3_valueOf 152 = .ok (.isub, 1) := by decide +kernel
theorem dX3_valueOf_153 : decode cX3_valueOf 153 = .ok (.iaload, 1) := by decide +kernel
theorem dX3_valueOf_154 : decode cX3_valueOf 154 = .ok (.istore 9, 2) := by decide +kernel
theorem dX3_valueOf_156 : decode cX3_valueOf 156 = .ok (.aload_n 3, 1) := by decide +kernel
theorem dX3_valueOf_157 : decode cX3_valueOf 157 = .ok (.iload 6, 2) := by decide +kernel
theorem dX3_valueOf_159 : decode cX3_valueOf 159 = .ok (.iconst 1, 1) := by decide +kernel
theorem dX3_valueOf_160 : decode cX3_valueOf 160 = .ok (.isub, 1) := by decide +kernel
theorem dX3_valueOf_161 : decode cX3_valueOf 161 = .ok (.iload 8, 2) := by decide +kernel
theorem dX3_valueOf_163 : decode cX3_valueOf 163 = .ok (.bipush (-22), 2) := by decide +kernel
theorem dX3_valueOf_165 : decode cX3_valueOf 165 = .ok (.if_icmp .ne 9, 3) := by decide +kernel
theorem dX3_valueOf_168 : decode cX3_valueOf 168 = .ok (.iload 9, 2) := by decide +kernel
theorem dX3_valueOf_170 : decode cX3_valueOf 170 = .ok (.ineg, 1) := by decide +kernel
theorem dX3_valueOf_171 : decode cX3_valueOf 171 = .ok (.goto 13, 3) := by decide +kernel
theorem dX3_valueOf_174 : decode cX3_valueOf 174 = .ok (.iload 9, 2) := by decide +kernel
theorem dX3_valueOf_176 : decode cX3_valueOf 176 = .ok (.ifCond .ne 7, 3) := by decide +kernel
theorem dX3_valueOf_179 : decode cX3_valueOf 179 = .ok (.iconst 1, 1) := by decide +kernel
theorem dX3_valueOf_180 : decode cX3_valueOf 180 = .ok (.goto 4, 3) := by decide +kernel
theorem dX3_valueOf_183 : decode cX3_valueOf 183 = .ok (.iconst 0, 1) := by decide +kernel
theorem dX3_valueOf_184 : decode cX3_valueOf 184 = .ok (.iastore, 1) := by decide +kernel
theorem dX3_valueOf_185 : decode cX3_valueOf 185 = .ok (.goto 25, 3) := by decide +kernel
theorem dX3_valueOf_188 : decode cX3_valueOf 188 = .ok (.iload 6, 2) := by decide +kernel
theorem dX3_valueOf_190 : decode cX3_valueOf 190 = .ok (.aload_n 3, 1) := by decide +kernel
theorem dX3_valueOf_191 : decode cX3_valueOf 191 = .ok (.arraylength, 1) := by decide +kernel
theorem dX3_valueOf_192 : decode cX3_valueOf 192 = .ok (.if_icmp .lt 5, 3) := by decide +kernel
theorem dX3_valueOf_195 : decode cX3_valueOf 195 = .ok (.iconst 0, 1) := by decide +kernel
theorem dX3_valueOf_196 : decode cX3_valueOf 196 = .ok (.ireturn, 1) := by decide +kernel
theorem dX3_valueOf_197 : decode cX3_valueOf 197 = .ok (.aload_n 3, 1) := by decide +kernel
theorem dX3_valueOf_198 : decode cX3_valueOf 198 = .ok (.iload 6, 2) := by decide +kernel
theorem dX3_valueOf_200 : decode cX3_valueOf 200 = .ok (.iload 8, 2) := by decide +kernel
theorem dX3_valueOf_202 : decode cX3_valueOf 202 = .ok (.aload_n 2, 1) := by decide +kernel
theorem dX3_valueOf_203 : decode cX3_valueOf 203 = .ok (.invokestatic 34, 3) := by decide +kernel
theorem dX3_valueOf_206 : decode cX3_valueOf 206 = .ok (.iastore, 1) := by decide +kernel
theorem dX3_valueOf_207 : decode cX3_valueOf 207 = .ok (.iinc 6 1, 3) := by decide +kernel
theorem dX3_valueOf_210 : decode cX3_valueOf 210 = .ok (.iinc 7 1, 3) := by decide +kernel
theorem dX3_valueOf_213 : decode cX3_valueOf 213 = .ok (.goto (-162), 3) := by decide +kernel
theorem dX3_valueOf_216 : decode cX3_valueOf 216 = .ok (.iload 6, 2) := by decide +kernel
theorem dX3_valueOf_218 : decode cX3_valueOf 218 = .ok (.ifCond .le 12, 3) := by decide +kernel
theorem dX3_valueOf_221 : decode cX3_valueOf 221 = .ok (.aload_n 3, 1) := by decide +kernel
theorem dX3_valueOf_222 : decode cX3_valueOf 222 = .ok (.iload 6, 2) := by decide +kernel
theorem dX3_valueOf_224 : decode cX3_valueOf 224 = .ok (.iconst 1, 1) := by decide +kernel
theorem dX3_valueOf_225 : decode cX3_valueOf 225 = .ok (.isub, 1) := by decide +kernel
theorem dX3_valueOf_226 : decode cX3_valueOf 226 = .ok (.iaload, 1) := by decide +kernel
theorem dX3_valueOf_227 : decode cX3_valueOf 227 = .ok (.goto 4, 3) := by decide +kernel
theorem dX3_valueOf_230 : decode cX3_valueOf 230 = .ok (.iconst 0, 1) := by decide +kernel
theorem dX3_valueOf_231 : decode cX3_valueOf 231 = .ok (.ireturn, 1) := by decide +kernel
theorem dX3_operand_0 : decode cX3_operand 0 = .ok (.iload_n 0, 1) := by decide +kernel
theorem dX3_operand_1 : decode cX3_operand 1 = .ok (.ifCond .lt 5, 3) := by decide +kernel
theorem dX3_operand_4 : decode cX3_operand 4 = .ok (.iload_n 0, 1) := by decide +kernel
theorem dX3_operand_5 : decode cX3_operand 5 = .ok (.ireturn, 1) := by decide +kernel
theorem dX3_operand_6 : decode cX3_operand 6 = .ok (.iconst (-1), 1) := by decide +kernel
theorem dX3_operand_7 : decode cX3_operand 7 = .ok (.iload_n 0, 1) := by decide +kernel
theorem dX3_operand_8 : decode cX3_operand 8 = .ok (.isub, 1) := by decide +kernel
theorem dX3_operand_9 : decode cX3_operand 9 = .ok (.istore_n 2, 1) := by decide +kernel
theorem dX3_operand_10 : decode cX3_operand 10 = .ok (.iload_n 2, 1) := by decide +kernel
theorem dX3_operand_11 : decode cX3_operand 11 = .ok (.aload_n 1, 1) := by decide +kernel
theorem dX3_operand_12 : decode cX3_operand 12 = .ok (.arraylength, 1) := by decide +kernel
theorem dX3_operand_13 : decode cX3_operand 13 = .ok (.if_icmp .ge 9, 3) := by decide +kernel
theorem dX3_operand_16 : decode cX3_operand 16 = .ok (.aload_n 1, 1) := by decide +kernel
theorem dX3_operand_17 : decode cX3_operand 17 = .ok (.iload_n 2, 1) := by decide +kernel
theorem dX3_operand_18 : decode cX3_operand 18 = .ok (.iaload, 1) := by decide +kernel
theorem dX3_operand_19 : decode cX3_operand 19 = .ok (.goto 4, 3) := by decide +kernel
theorem dX3_operand_22 : decode cX3_operand 22 = .ok (.iconst 0, 1) := by decide +kernel
theorem dX3_operand_23 : decode cX3_operand 23 = .ok (.ireturn, 1) := by decide +kernel
theorem dX3_joined_0 : decode cX3_joined 0 = .ok (.iload_n 0, 1) := by decide +kernel
theorem dX3_joined_1 : decode cX3_joined 1 = .ok (.tableswitch 105 (-17) (-11) #[101, 97, 93, 82, 71, 57, 43], 43) := by decide +kernel
theorem dX3_joined_44 : decode cX3_joined 44 = .ok (.iload_n 1, 1) := by decide +kernel
theorem dX3_joined_45 : decode cX3_joined 45 = .ok (.ifCond .ne 7, 3) := by decide +kernel
theorem dX3_joined_48 : decode cX3_joined 48 = .ok (.iload_n 2, 1) := by decide +kernel
theorem dX3_joined_49 : decode cX3_joined 49 = .ok (.ifCond .eq 7, 3) := by decide +kernel
theorem dX3_joined_52 : decode cX3_joined 52 = .ok (.iconst 1, 1) := by decide +kernel
theorem dX3_joined_53 : decode cX3_joined 53 = .ok (.goto 4, 3) := by decide +kernel
theorem dX3_joined_56 : decode cX3_joined 56 = .ok (.iconst 0, 1) := by decide +kernel
theorem dX3_joined_57 : decode cX3_joined 57 = .ok (.ireturn, 1) := by decide +kernel
theorem dX3_joined_58 : decode cX3_joined 58 = .ok (.iload_n 1, 1) := by decide +kernel
theorem dX3_joined_59 : decode cX3_joined 59 = .ok (.ifCond .eq 11, 3) := by decide +kernel
theorem dX3_joined_62 : decode cX3_joined 62 = .ok (.iload_n 2, 1) := by decide +kernel
theorem dX3_joined_63 : decode cX3_joined 63 = .ok (.ifCond .eq 7, 3) := by decide +kernel
theorem dX3_joined_66 : decode cX3_joined 66 = .ok (.iconst 1, 1) := by decide +kernel
theorem dX3_joined_67 : decode cX3_joined 67 = .ok (.goto 4, 3) := by decide +kernel
theorem dX3_joined_70 : decode cX3_joined 70 = .ok (.iconst 0, 1) := by decide +kernel
theorem dX3_joined_71 : decode cX3_joined 71 = .ok (.ireturn, 1) := by decide +kernel
theorem dX3_joined_72 : decode cX3_joined 72 = .ok (.iload_n 1, 1) := by decide +kernel
theorem dX3_joined_73 : decode cX3_joined 73 = .ok (.iload_n 2, 1) := by decide +kernel
theorem dX3_joined_74 : decode cX3_joined 74 = .ok (.if_icmp .ge 7, 3) := by decide +kernel
theorem dX3_joined_77 : decode cX3_joined 77 = .ok (.iconst 1, 1) := by decide +kernel
theorem dX3_joined_78 : decode cX3_joined 78 = .ok (.goto 4, 3) := by decide +kernel
theorem dX3_joined_81 : decode cX3_joined 81 = .ok (.iconst 0, 1) := by decide +kernel
theorem dX3_joined_82 : decode cX3_joined 82 = .ok (.ireturn, 1) := by decide +kernel
theorem dX3_joined_83 : decode cX3_joined 83 = .ok (.iload_n 1, 1) := by decide +kernel
theorem dX3_joined_84 : decode cX3_joined 84 = .ok (.iload_n 2, 1) := by decide +kernel
theorem dX3_joined_85 : decode cX3_joined 85 = .ok (.if_icmp .ne 7, 3) := by decide +kernel
theorem dX3_joined_88 : decode cX3_joined 88 = .ok (.iconst 1, 1) := by decide +kernel
theorem dX3_joined_89 : decode cX3_joined 89 = .ok (.goto 4, 3) := by decide +kernel
theorem dX3_joined_92 : decode cX3_joined 92 = .ok (.iconst 0, 1) := by decide +kernel
theorem dX3_joined_93 : decode cX3_joined 93 = .ok (.ireturn, 1) := by decide +kernel
theorem dX3_joined_94 : decode cX3_joined 94 = .ok (.iload_n 1, 1) := by decide +kernel
theorem dX3_joined_95 : decode cX3_joined 95 = .ok (.iload_n 2, 1) := by decide +kernel
theorem dX3_joined_96 : decode cX3_joined 96 = .ok (.iadd, 1) := by decide +kernel
theorem dX3_joined_97 : decode cX3_joined 97 = .ok (.ireturn, 1) := by decide +kernel
theorem dX3_joined_98 : decode cX3_joined 98 = .ok (.iload_n 1, 1) := by decide +kernel
theorem dX3_joined_99 : decode cX3_joined 99 = .ok (.iload_n 2, 1) := by decide +kernel
theorem dX3_joined_100 : decode cX3_joined 100 = .ok (.isub, 1) := by decide +kernel
theorem dX3_joined_101 : decode cX3_joined 101 = .ok (.ireturn, 1) := by decide +kernel
theorem dX3_joined_102 : decode cX3_joined 102 = .ok (.iload_n 1, 1) := by decide +kernel
theorem dX3_joined_103 : decode cX3_joined 103 = .ok (.iload_n 2, 1) := by decide +kernel
theorem dX3_joined_104 : decode cX3_joined 104 = .ok (.imul, 1) := by decide +kernel
theorem dX3_joined_105 : decode cX3_joined 105 = .ok (.ireturn, 1) := by decide +kernel
theorem dX3_joined_106 : decode cX3_joined 106 = .ok (.iconst 0, 1) := by decide +kernel
theorem dX3_joined_107 : decode cX3_joined 107 = .ok (.ireturn, 1) := by decide +kernel
theorem dX4_init_0 : decode cX4_init 0 = .ok (.aload_n 0, 1) := by decide +kernel
theorem dX4_init_1 : decode cX4_init 1 = .ok (.invokespecial 3, 3) := by decide +kernel
theorem dX4_init_4 : decode cX4_init 4 = .ok (.aload_n 0, 1) := by decide +kernel
theorem dX4_init_5 : decode cX4_init 5 = .ok (.iconst 0, 1) := by decide +kernel
theorem dX4_init_6 : decode cX4_init 6 = .ok (.putfield 9, 3) := by decide +kernel
theorem dX4_init_9 : decode cX4_init 9 = .ok (.aload_n 0, 1) := by decide +kernel
theorem dX4_init_10 : decode cX4_init 10 = .ok (.iconst 0, 1) := by decide +kernel
theorem dX4_init_11 : decode cX4_init 11 = .ok (.putfield 15, 3) := by decide +kernel
theorem dX4_init_14 : decode cX4_init 14 = .ok (.aload_n 0, 1) := by decide +kernel
theorem dX4_init_15 : decode cX4_init 15 = .ok (.iconst 0, 1) := by decide +kernel
theorem dX4_init_16 : decode cX4_init 16 = .ok (.putfield 18, 3) := by decide +kernel
theorem dX4_init_19 : decode cX4_init 19 = .ok (.return_, 1) := by decide +kernel
theorem dX4_become_0 : decode cX4_become 0 = .ok (.aload_n 0, 1) := by decide +kernel
theorem dX4_become_1 : decode cX4_become 1 = .ok (.iload_n 1, 1) := by decide +kernel
theorem dX4_become_2 : decode cX4_become 2 = .ok (.putfield 9, 3) := by decide +kernel
theorem dX4_become_5 : decode cX4_become 5 = .ok (.aload_n 0, 1) := by decide +kernel
theorem dX4_become_6 : decode cX4_become 6 = .ok (.iload_n 2, 1) := by decide +kernel
theorem dX4_become_7 : decode cX4_become 7 = .ok (.putfield 15, 3) := by decide +kernel
theorem dX4_become_10 : decode cX4_become 10 = .ok (.aload_n 0, 1) := by decide +kernel
theorem dX4_become_11 : decode cX4_become 11 = .ok (.iload_n 3, 1) := by decide +kernel
theorem dX4_become_12 : decode cX4_become 12 = .ok (.putfield 18, 3) := by decide +kernel
theorem dX4_become_15 : decode cX4_become 15 = .ok (.return_, 1) := by decide +kernel
theorem dX4_ofWinter_0 : decode cX4_ofWinter 0 = .ok (.iload_n 3, 1) := by decide +kernel
theorem dX4_ofWinter_1 : decode cX4_ofWinter 1 = .ok (.iconst 2, 1) := by decide +kernel
theorem dX4_ofWinter_2 : decode cX4_ofWinter 2 = .ok (.if_icmp .lt 9, 3) := by decide +kernel
theorem dX4_ofWinter_5 : decode cX4_ofWinter 5 = .ok (.iconst 2, 1) := by decide +kernel
theorem dX4_ofWinter_6 : decode cX4_ofWinter 6 = .ok (.iload_n 1, 1) := by decide +kernel
theorem dX4_ofWinter_7 : decode cX4_ofWinter 7 = .ok (.imul, 1) := by decide +kernel
theorem dX4_ofWinter_8 : decode cX4_ofWinter 8 = .ok (.goto 4, 3) := by decide +kernel
theorem dX4_ofWinter_11 : decode cX4_ofWinter 11 = .ok (.iload_n 1, 1) := by decide +kernel
theorem dX4_ofWinter_12 : decode cX4_ofWinter 12 = .ok (.istore 4, 2) := by decide +kernel
theorem dX4_ofWinter_14 : decode cX4_ofWinter 14 = .ok (.iload_n 2, 1) := by decide +kernel
theorem dX4_ofWinter_15 : decode cX4_ofWinter 15 = .ok (.iconst 4, 1) := by decide +kernel
theorem dX4_ofWinter_16 : decode cX4_ofWinter 16 = .ok (.if_icmp .le 8, 3) := by decide +kernel
theorem dX4_ofWinter_19 : decode cX4_ofWinter 19 = .ok (.iload_n 1, 1) := by decide +kernel
theorem dX4_ofWinter_20 : decode cX4_ofWinter 20 = .ok (.ineg, 1) := by decide +kernel
theorem dX4_ofWinter_21 : decode cX4_ofWinter 21 = .ok (.goto 4, 3) := by decide +kernel
theorem dX4_ofWinter_24 : decode cX4_ofWinter 24 = .ok (.iconst 0, 1) := by decide +kernel
theorem dX4_ofWinter_25 : decode cX4_ofWinter 25 = .ok (.istore 5, 2) := by decide +kernel
theorem dX4_ofWinter_27 : decode cX4_ofWinter 27 = .ok (.aload_n 0, 1) := by decide +kernel
theorem dX4_ofWinter_28 : decode cX4_ofWinter 28 = .ok (.getfield 9, 3) := by decide +kernel
theorem dX4_ofWinter_31 : decode cX4_ofWinter 31 = .ok (.tableswitch 66 1 5 #[33, 36, 39, 58, 63], 33) := by decide +kernel
theorem dX4_ofWinter_64 : decode cX4_ofWinter 64 = .ok (.iload 4, 2) := by decide +kernel
theorem dX4_ofWinter_66 : decode cX4_ofWinter 66 = .ok (.ireturn, 1) := by decide +kernel
theorem dX4_ofWinter_67 : decode cX4_ofWinter 67 = .ok (.iload 5, 2) := by decide +kernel
theorem dX4_ofWinter_69 : decode cX4_ofWinter 69 = .ok (.ireturn, 1) := by decide +kernel
theorem dX4_ofWinter_70 : decode cX4_ofWinter 70 = .ok (.iload_n 2, 1) := by decide +kernel
theorem dX4_ofWinter_71 : decode cX4_ofWinter 71 = .ok (.bipush 6, 2) := by decide +kernel
theorem dX4_ofWinter_73 : decode cX4_ofWinter 73 = .ok (.if_icmp .le 13, 3) := by decide +kernel
theorem dX4_ofWinter_76 : decode cX4_ofWinter 76 = .ok (.iload 4, 2) := by decide +kernel
theorem dX4_ofWinter_78 : decode cX4_ofWinter 78 = .ok (.aload_n 0, 1) := by decide +kernel
theorem dX4_ofWinter_79 : decode cX4_ofWinter 79 = .ok (.getfield 15, 3) := by decide +kernel
theorem dX4_ofWinter_82 : decode cX4_ofWinter 82 = .ok (.iadd, 1) := by decide +kernel
theorem dX4_ofWinter_83 : decode cX4_ofWinter 83 = .ok (.goto 5, 3) := by decide +kernel
theorem dX4_ofWinter_86 : decode cX4_ofWinter 86 = .ok (.iload 4, 2) := by decide +kernel
theorem dX4_ofWinter_88 : decode cX4_ofWinter 88 = .ok (.ireturn, 1) := by decide +kernel
theorem dX4_ofWinter_89 : decode cX4_ofWinter 89 = .ok (.iconst 2, 1) := by decide +kernel
theorem dX4_ofWinter_90 : decode cX4_ofWinter 90 = .ok (.iload 5, 2) := by decide +kernel
theorem dX4_ofWinter_92 : decode cX4_ofWinter 92 = .ok (.imul, 1) := by decide +kernel
theorem dX4_ofWinter_93 : decode cX4_ofWinter 93 = .ok (.ireturn, 1) := by decide +kernel
theorem dX4_ofWinter_94 : decode cX4_ofWinter 94 = .ok (.iload_n 2, 1) := by decide +kernel
theorem dX4_ofWinter_95 : decode cX4_ofWinter 95 = .ok (.ineg, 1) := by decide +kernel
theorem dX4_ofWinter_96 : decode cX4_ofWinter 96 = .ok (.ireturn, 1) := by decide +kernel
theorem dX4_ofWinter_97 : decode cX4_ofWinter 97 = .ok (.iload_n 1, 1) := by decide +kernel
theorem dX4_ofWinter_98 : decode cX4_ofWinter 98 = .ok (.ireturn, 1) := by decide +kernel
theorem dX4_ofMild_0 : decode cX4_ofMild 0 = .ok (.aload_n 0, 1) := by decide +kernel
theorem dX4_ofMild_1 : decode cX4_ofMild 1 = .ok (.getfield 9, 3) := by decide +kernel
theorem dX4_ofMild_4 : decode cX4_ofMild 4 = .ok (.tableswitch 55 1 5 #[36, 55, 38, 44, 51], 36) := by decide +kernel
theorem dX4_ofMild_40 : decode cX4_ofMild 40 = .ok (.iconst 0, 1) := by decide +kernel
theorem dX4_ofMild_41 : decode cX4_ofMild 41 = .ok (.ireturn, 1) := by decide +kernel
theorem dX4_ofMild_42 : decode cX4_ofMild 42 = .ok (.aload_n 0, 1) := by decide +kernel
theorem dX4_ofMild_43 : decode cX4_ofMild 43 = .ok (.getfield 15, 3) := by decide +kernel
theorem dX4_ofMild_46 : decode cX4_ofMild 46 = .ok (.ineg, 1) := by decide +kernel
theorem dX4_ofMild_47 : decode cX4_ofMild 47 = .ok (.ireturn, 1) := by decide +kernel
theorem dX4_ofMild_48 : decode cX4_ofMild 48 = .ok (.iload_n 1, 1) := by decide +kernel
theorem dX4_ofMild_49 : decode cX4_ofMild 49 = .ok (.aload_n 0, 1) := by decide +kernel
theorem dX4_ofMild_50 : decode cX4_ofMild 50 = .ok (.getfield 15, 3) := by decide +kernel
theorem dX4_ofMild_53 : decode cX4_ofMild 53 = .ok (.iadd, 1) := by decide +kernel
theorem dX4_ofMild_54 : decode cX4_ofMild 54 = .ok (.ireturn, 1) := by decide +kernel
theorem dX4_ofMild_55 : decode cX4_ofMild 55 = .ok (.iload_n 1, 1) := by decide +kernel
theorem dX4_ofMild_56 : decode cX4_ofMild 56 = .ok (.iconst 2, 1) := by decide +kernel
theorem dX4_ofMild_57 : decode cX4_ofMild 57 = .ok (.iadd, 1) := by decide +kernel
theorem dX4_ofMild_58 : decode cX4_ofMild 58 = .ok (.ireturn, 1) := by decide +kernel
theorem dX4_ofMild_59 : decode cX4_ofMild 59 = .ok (.iload_n 1, 1) := by decide +kernel
theorem dX4_ofMild_60 : decode cX4_ofMild 60 = .ok (.ireturn, 1) := by decide +kernel
