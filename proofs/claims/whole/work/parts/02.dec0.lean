theorem dJ6_bitCount_0f7a4_0 : decode cJ6_bitCount_0f7a4 0 = .ok (.iload_n 0, 1) := by decide +kernel
theorem dJ6_bitCount_0f7a4_1 : decode cJ6_bitCount_0f7a4 1 = .ok (.iload_n 0, 1) := by decide +kernel
theorem dJ6_bitCount_0f7a4_2 : decode cJ6_bitCount_0f7a4 2 = .ok (.iconst 1, 1) := by decide +kernel
theorem dJ6_bitCount_0f7a4_3 : decode cJ6_bitCount_0f7a4 3 = .ok (.iushr, 1) := by decide +kernel
theorem dJ6_bitCount_0f7a4_4 : decode cJ6_bitCount_0f7a4 4 = .ok (.ldc_w 265, 3) := by decide +kernel
theorem dJ6_bitCount_0f7a4_7 : decode cJ6_bitCount_0f7a4 7 = .ok (.iand, 1) := by decide +kernel
theorem dJ6_bitCount_0f7a4_8 : decode cJ6_bitCount_0f7a4 8 = .ok (.isub, 1) := by decide +kernel
theorem dJ6_bitCount_0f7a4_9 : decode cJ6_bitCount_0f7a4 9 = .ok (.istore_n 0, 1) := by decide +kernel
theorem dJ6_bitCount_0f7a4_10 : decode cJ6_bitCount_0f7a4 10 = .ok (.iload_n 0, 1) := by decide +kernel
theorem dJ6_bitCount_0f7a4_11 : decode cJ6_bitCount_0f7a4 11 = .ok (.ldc_w 266, 3) := by decide +kernel
theorem dJ6_bitCount_0f7a4_14 : decode cJ6_bitCount_0f7a4 14 = .ok (.iand, 1) := by decide +kernel
theorem dJ6_bitCount_0f7a4_15 : decode cJ6_bitCount_0f7a4 15 = .ok (.iload_n 0, 1) := by decide +kernel
theorem dJ6_bitCount_0f7a4_16 : decode cJ6_bitCount_0f7a4 16 = .ok (.iconst 2, 1) := by decide +kernel
theorem dJ6_bitCount_0f7a4_17 : decode cJ6_bitCount_0f7a4 17 = .ok (.iushr, 1) := by decide +kernel
theorem dJ6_bitCount_0f7a4_18 : decode cJ6_bitCount_0f7a4 18 = .ok (.ldc_w 266, 3) := by decide +kernel
theorem dJ6_bitCount_0f7a4_21 : decode cJ6_bitCount_0f7a4 21 = .ok (.iand, 1) := by decide +kernel
theorem dJ6_bitCount_0f7a4_22 : decode cJ6_bitCount_0f7a4 22 = .ok (.iadd, 1) := by decide +kernel
theorem dJ6_bitCount_0f7a4_23 : decode cJ6_bitCount_0f7a4 23 = .ok (.istore_n 0, 1) := by decide +kernel
theorem dJ6_bitCount_0f7a4_24 : decode cJ6_bitCount_0f7a4 24 = .ok (.iload_n 0, 1) := by decide +kernel
theorem dJ6_bitCount_0f7a4_25 : decode cJ6_bitCount_0f7a4 25 = .ok (.iload_n 0, 1) := by decide +kernel
theorem dJ6_bitCount_0f7a4_26 : decode cJ6_bitCount_0f7a4 26 = .ok (.iconst 4, 1) := by decide +kernel
theorem dJ6_bitCount_0f7a4_27 : decode cJ6_bitCount_0f7a4 27 = .ok (.iushr, 1) := by decide +kernel
theorem dJ6_bitCount_0f7a4_28 : decode cJ6_bitCount_0f7a4 28 = .ok (.iadd, 1) := by decide +kernel
theorem dJ6_bitCount_0f7a4_29 : decode cJ6_bitCount_0f7a4 29 = .ok (.ldc_w 267, 3) := by decide +kernel
theorem dJ6_bitCount_0f7a4_32 : decode cJ6_bitCount_0f7a4 32 = .ok (.iand, 1) := by decide +kernel
theorem dJ6_bitCount_0f7a4_33 : decode cJ6_bitCount_0f7a4 33 = .ok (.istore_n 0, 1) := by decide +kernel
theorem dJ6_bitCount_0f7a4_34 : decode cJ6_bitCount_0f7a4 34 = .ok (.iload_n 0, 1) := by decide +kernel
theorem dJ6_bitCount_0f7a4_35 : decode cJ6_bitCount_0f7a4 35 = .ok (.iload_n 0, 1) := by decide +kernel
theorem dJ6_bitCount_0f7a4_36 : decode cJ6_bitCount_0f7a4 36 = .ok (.bipush 8, 2) := by decide +kernel
theorem dJ6_bitCount_0f7a4_38 : decode cJ6_bitCount_0f7a4 38 = .ok (.iushr, 1) := by decide +kernel
theorem dJ6_bitCount_0f7a4_39 : decode cJ6_bitCount_0f7a4 39 = .ok (.iadd, 1) := by decide +kernel
theorem dJ6_bitCount_0f7a4_40 : decode cJ6_bitCount_0f7a4 40 = .ok (.istore_n 0, 1) := by decide +kernel
theorem dJ6_bitCount_0f7a4_41 : decode cJ6_bitCount_0f7a4 41 = .ok (.iload_n 0, 1) := by decide +kernel
theorem dJ6_bitCount_0f7a4_42 : decode cJ6_bitCount_0f7a4 42 = .ok (.iload_n 0, 1) := by decide +kernel
theorem dJ6_bitCount_0f7a4_43 : decode cJ6_bitCount_0f7a4 43 = .ok (.bipush 16, 2) := by decide +kernel
theorem dJ6_bitCount_0f7a4_45 : decode cJ6_bitCount_0f7a4 45 = .ok (.iushr, 1) := by decide +kernel
theorem dJ6_bitCount_0f7a4_46 : decode cJ6_bitCount_0f7a4 46 = .ok (.iadd, 1) := by decide +kernel
theorem dJ6_bitCount_0f7a4_47 : decode cJ6_bitCount_0f7a4 47 = .ok (.istore_n 0, 1) := by decide +kernel
theorem dJ6_bitCount_0f7a4_48 : decode cJ6_bitCount_0f7a4 48 = .ok (.iload_n 0, 1) := by decide +kernel
theorem dJ6_bitCount_0f7a4_49 : decode cJ6_bitCount_0f7a4 49 = .ok (.bipush 63, 2) := by decide +kernel
theorem dJ6_bitCount_0f7a4_51 : decode cJ6_bitCount_0f7a4 51 = .ok (.iand, 1) := by decide +kernel
theorem dJ6_bitCount_0f7a4_52 : decode cJ6_bitCount_0f7a4 52 = .ok (.ireturn, 1) := by decide +kernel
theorem dJ13_bitCount_95d88_0 : decode cJ13_bitCount_95d88 0 = .ok (.lload_n 0, 1) := by decide +kernel
theorem dJ13_bitCount_95d88_1 : decode cJ13_bitCount_95d88 1 = .ok (.lload_n 0, 1) := by decide +kernel
theorem dJ13_bitCount_95d88_2 : decode cJ13_bitCount_95d88 2 = .ok (.iconst 1, 1) := by decide +kernel
theorem dJ13_bitCount_95d88_3 : decode cJ13_bitCount_95d88 3 = .ok (.lushr, 1) := by decide +kernel
theorem dJ13_bitCount_95d88_4 : decode cJ13_bitCount_95d88 4 = .ok (.ldc2_w 314, 3) := by decide +kernel
theorem dJ13_bitCount_95d88_7 : decode cJ13_bitCount_95d88 7 = .ok (.land, 1) := by decide +kernel
theorem dJ13_bitCount_95d88_8 : decode cJ13_bitCount_95d88 8 = .ok (.lsub, 1) := by decide +kernel
theorem dJ13_bitCount_95d88_9 : decode cJ13_bitCount_95d88 9 = .ok (.lstore_n 0, 1) := by decide +kernel
theorem dJ13_bitCount_95d88_10 : decode cJ13_bitCount_95d88 10 = .ok (.lload_n 0, 1) := by decide +kernel
theorem dJ13_bitCount_95d88_11 : decode cJ13_bitCount_95d88 11 = .ok (.ldc2_w 316, 3) := by decide +kernel
theorem dJ13_bitCount_95d88_14 : decode cJ13_bitCount_95d88 14 = .ok (.land, 1) := by decide +kernel
theorem dJ13_bitCount_95d88_15 : decode cJ13_bitCount_95d88 15 = .ok (.lload_n 0, 1) := by decide +kernel
theorem dJ13_bitCount_95d88_16 : decode cJ13_bitCount_95d88 16 = .ok (.iconst 2, 1) := by decide +kernel
theorem dJ13_bitCount_95d88_17 : decode cJ13_bitCount_95d88 17 = .ok (.lushr, 1) := by decide +kernel
theorem dJ13_bitCount_95d88_18 : decode cJ13_bitCount_95d88 18 = .ok (.ldc2_w 316, 3) := by decide +kernel
theorem dJ13_bitCount_95d88_21 : decode cJ13_bitCount_95d88 21 = .ok (.land, 1) := by decide +kernel
theorem dJ13_bitCount_95d88_22 : decode cJ13_bitCount_95d88 22 = .ok (.ladd, 1) := by decide +kernel
theorem dJ13_bitCount_95d88_23 : decode cJ13_bitCount_95d88 23 = .ok (.lstore_n 0, 1) := by decide +kernel
theorem dJ13_bitCount_95d88_24 : decode cJ13_bitCount_95d88 24 = .ok (.lload_n 0, 1) := by decide +kernel
theorem dJ13_bitCount_95d88_25 : decode cJ13_bitCount_95d88 25 = .ok (.lload_n 0, 1) := by decide +kernel
theorem dJ13_bitCount_95d88_26 : decode cJ13_bitCount_95d88 26 = .ok (.iconst 4, 1) := by decide +kernel
theorem dJ13_bitCount_95d88_27 : decode cJ13_bitCount_95d88 27 = .ok (.lushr, 1) := by decide +kernel
theorem dJ13_bitCount_95d88_28 : decode cJ13_bitCount_95d88 28 = .ok (.ladd, 1) := by decide +kernel
theorem dJ13_bitCount_95d88_29 : decode cJ13_bitCount_95d88 29 = .ok (.ldc2_w 318, 3) := by decide +kernel
theorem dJ13_bitCount_95d88_32 : decode cJ13_bitCount_95d88 32 = .ok (.land, 1) := by decide +kernel
theorem dJ13_bitCount_95d88_33 : decode cJ13_bitCount_95d88 33 = .ok (.lstore_n 0, 1) := by decide +kernel
theorem dJ13_bitCount_95d88_34 : decode cJ13_bitCount_95d88 34 = .ok (.lload_n 0, 1) := by decide +kernel
theorem dJ13_bitCount_95d88_35 : decode cJ13_bitCount_95d88 35 = .ok (.lload_n 0, 1) := by decide +kernel
theorem dJ13_bitCount_95d88_36 : decode cJ13_bitCount_95d88 36 = .ok (.bipush 8, 2) := by decide +kernel
theorem dJ13_bitCount_95d88_38 : decode cJ13_bitCount_95d88 38 = .ok (.lushr, 1) := by decide +kernel
theorem dJ13_bitCount_95d88_39 : decode cJ13_bitCount_95d88 39 = .ok (.ladd, 1) := by decide +kernel
theorem dJ13_bitCount_95d88_40 : decode cJ13_bitCount_95d88 40 = .ok (.lstore_n 0, 1) := by decide +kernel
theorem dJ13_bitCount_95d88_41 : decode cJ13_bitCount_95d88 41 = .ok (.lload_n 0, 1) := by decide +kernel
theorem dJ13_bitCount_95d88_42 : decode cJ13_bitCount_95d88 42 = .ok (.lload_n 0, 1) := by decide +kernel
theorem dJ13_bitCount_95d88_43 : decode cJ13_bitCount_95d88 43 = .ok (.bipush 16, 2) := by decide +kernel
theorem dJ13_bitCount_95d88_45 : decode cJ13_bitCount_95d88 45 = .ok (.lushr, 1) := by decide +kernel
theorem dJ13_bitCount_95d88_46 : decode cJ13_bitCount_95d88 46 = .ok (.ladd, 1) := by decide +kernel
theorem dJ13_bitCount_95d88_47 : decode cJ13_bitCount_95d88 47 = .ok (.lstore_n 0, 1) := by decide +kernel
theorem dJ13_bitCount_95d88_48 : decode cJ13_bitCount_95d88 48 = .ok (.lload_n 0, 1) := by decide +kernel
theorem dJ13_bitCount_95d88_49 : decode cJ13_bitCount_95d88 49 = .ok (.lload_n 0, 1) := by decide +kernel
theorem dJ13_bitCount_95d88_50 : decode cJ13_bitCount_95d88 50 = .ok (.bipush 32, 2) := by decide +kernel
theorem dJ13_bitCount_95d88_52 : decode cJ13_bitCount_95d88 52 = .ok (.lushr, 1) := by decide +kernel
theorem dJ13_bitCount_95d88_53 : decode cJ13_bitCount_95d88 53 = .ok (.ladd, 1) := by decide +kernel
theorem dJ13_bitCount_95d88_54 : decode cJ13_bitCount_95d88 54 = .ok (.lstore_n 0, 1) := by decide +kernel
theorem dJ13_bitCount_95d88_55 : decode cJ13_bitCount_95d88 55 = .ok (.lload_n 0, 1) := by decide +kernel
theorem dJ13_bitCount_95d88_56 : decode cJ13_bitCount_95d88 56 = .ok (.l2i, 1) := by decide +kernel
theorem dJ13_bitCount_95d88_57 : decode cJ13_bitCount_95d88 57 = .ok (.bipush 127, 2) := by decide +kernel
theorem dJ13_bitCount_95d88_59 : decode cJ13_bitCount_95d88 59 = .ok (.iand, 1) := by decide +kernel
theorem dJ13_bitCount_95d88_60 : decode cJ13_bitCount_95d88 60 = .ok (.ireturn, 1) := by decide +kernel
theorem dJ9_min_7cf53_0 : decode cJ9_min_7cf53 0 = .ok (.iload_n 0, 1) := by decide +kernel
theorem dJ9_min_7cf53_1 : decode cJ9_min_7cf53 1 = .ok (.iload_n 1, 1) := by decide +kernel
theorem dJ9_min_7cf53_2 : decode cJ9_min_7cf53 2 = .ok (.if_icmp .gt 7, 3) := by decide +kernel
theorem dJ9_min_7cf53_5 : decode cJ9_min_7cf53 5 = .ok (.iload_n 0, 1) := by decide +kernel
theorem dJ9_min_7cf53_6 : decode cJ9_min_7cf53 6 = .ok (.goto 4, 3) := by decide +kernel
theorem dJ9_min_7cf53_9 : decode cJ9_min_7cf53 9 = .ok (.iload_n 1, 1) := by decide +kernel
theorem dJ9_min_7cf53_10 : decode cJ9_min_7cf53 10 = .ok (.ireturn, 1) := by decide +kernel
theorem dJ0_length_8abf5_0 : decode cJ0_length_8abf5 0 = .ok (.aload_n 0, 1) := by decide +kernel
theorem dJ0_length_8abf5_1 : decode cJ0_length_8abf5 1 = .ok (.getfield 9, 3) := by decide +kernel
theorem dJ0_length_8abf5_4 : decode cJ0_length_8abf5 4 = .ok (.arraylength, 1) := by decide +kernel
theorem dJ0_length_8abf5_5 : decode cJ0_length_8abf5 5 = .ok (.aload_n 0, 1) := by decide +kernel
theorem dJ0_length_8abf5_6 : decode cJ0_length_8abf5 6 = .ok (.invokevirtual 335, 3) := by decide +kernel
theorem dJ0_length_8abf5_9 : decode cJ0_length_8abf5 9 = .ok (.ishr, 1) := by decide +kernel
theorem dJ0_length_8abf5_10 : decode cJ0_length_8abf5 10 = .ok (.ireturn, 1) := by decide +kernel
theorem dJ0_charAt_5068e_0 : decode cJ0_charAt_5068e 0 = .ok (.aload_n 0, 1) := by decide +kernel
theorem dJ0_charAt_5068e_1 : decode cJ0_charAt_5068e 1 = .ok (.invokevirtual 492, 3) := by decide +kernel
theorem dJ0_charAt_5068e_4 : decode cJ0_charAt_5068e 4 = .ok (.ifCond .eq 12, 3) := by decide +kernel
theorem dJ0_charAt_5068e_7 : decode cJ0_charAt_5068e 7 = .ok (.aload_n 0, 1) := by decide +kernel
theorem dJ0_charAt_5068e_8 : decode cJ0_charAt_5068e 8 = .ok (.getfield 9, 3) := by decide +kernel
theorem dJ0_charAt_5068e_11 : decode cJ0_charAt_5068e 11 = .ok (.iload_n 1, 1) := by decide +kernel
theorem dJ0_charAt_5068e_12 : decode cJ0_charAt_5068e 12 = .ok (.invokestatic 495, 3) := by decide +kernel
theorem dJ0_charAt_5068e_15 : decode cJ0_charAt_5068e 15 = .ok (.ireturn, 1) := by decide +kernel
theorem dJ0_charAt_5068e_16 : decode cJ0_charAt_5068e 16 = .ok (.aload_n 0, 1) := by decide +kernel
theorem dJ0_charAt_5068e_17 : decode cJ0_charAt_5068e 17 = .ok (.getfield 9, 3) := by decide +kernel
theorem dJ0_charAt_5068e_20 : decode cJ0_charAt_5068e 20 = .ok (.iload_n 1, 1) := by decide +kernel
theorem dJ0_charAt_5068e_21 : decode cJ0_charAt_5068e 21 = .ok (.invokestatic 498, 3) := by decide +kernel
theorem dJ0_charAt_5068e_24 : decode cJ0_charAt_5068e 24 = .ok (.ireturn, 1) := by decide +kernel
theorem dJ0_coder_7d493_0 : decode cJ0_coder_7d493 0 = .ok (.getstatic 38, 3) := by decide +kernel
theorem dJ0_coder_7d493_3 : decode cJ0_coder_7d493 3 = .ok (.ifCond .eq 10, 3) := by decide +kernel
theorem dJ0_coder_7d493_6 : decode cJ0_coder_7d493 6 = .ok (.aload_n 0, 1) := by decide +kernel
theorem dJ0_coder_7d493_7 : decode cJ0_coder_7d493 7 = .ok (.getfield 15, 3) := by decide +kernel
theorem dJ0_coder_7d493_10 : decode cJ0_coder_7d493 10 = .ok (.goto 4, 3) := by decide +kernel
theorem dJ0_coder_7d493_13 : decode cJ0_coder_7d493 13 = .ok (.iconst 1, 1) := by decide +kernel
theorem dJ0_coder_7d493_14 : decode cJ0_coder_7d493 14 = .ok (.ireturn, 1) := by decide +kernel
theorem dJ0_isLatin1_aae02_0 : decode cJ0_isLatin1_aae02 0 = .ok (.getstatic 38, 3) := by decide +kernel
theorem dJ0_isLatin1_aae02_3 : decode cJ0_isLatin1_aae02 3 = .ok (.ifCond .eq 14, 3) := by decide +kernel
theorem dJ0_isLatin1_aae02_6 : decode cJ0_isLatin1_aae02 6 = .ok (.aload_n 0, 1) := by decide +kernel
theorem dJ0_isLatin1_aae02_7 : decode cJ0_isLatin1_aae02 7 = .ok (.getfield 15, 3) := by decide +kernel
theorem dJ0_isLatin1_aae02_10 : decode cJ0_isLatin1_aae02 10 = .ok (.ifCond .ne 7, 3) := by decide +kernel
theorem dJ0_isLatin1_aae02_13 : decode cJ0_isLatin1_aae02 13 = .ok (.iconst 1, 1) := by decide +kernel
theorem dJ0_isLatin1_aae02_14 : decode cJ0_isLatin1_aae02 14 = .ok (.goto 4, 3) := by decide +kernel
theorem dJ0_isLatin1_aae02_17 : decode cJ0_isLatin1_aae02 17 = .ok (.iconst 0, 1) := by decide +kernel
theorem dJ0_isLatin1_aae02_18 : decode cJ0_isLatin1_aae02 18 = .ok (.ireturn, 1) := by decide +kernel
theorem dJ0_checkIndex_df160_0 : decode cJ0_checkIndex_df160 0 = .ok (.iload_n 0, 1) := by decide +kernel
theorem dJ0_checkIndex_df160_1 : decode cJ0_checkIndex_df160 1 = .ok (.iload_n 1, 1) := by decide +kernel
theorem dJ0_checkIndex_df160_2 : decode cJ0_checkIndex_df160 2 = .ok (.getstatic 1053, 3) := by decide +kernel
theorem dJ0_checkIndex_df160_5 : decode cJ0_checkIndex_df160 5 = .ok (.invokestatic 1059, 3) := by decide +kernel
theorem dJ0_checkIndex_df160_8 : decode cJ0_checkIndex_df160 8 = .ok (.pop, 1) := by decide +kernel
theorem dJ0_checkIndex_df160_9 : decode cJ0_checkIndex_df160 9 = .ok (.return_, 1) := by decide +kernel
theorem dJ1_charAt_3b067_0 : decode cJ1_charAt_3b067 0 = .ok (.iload_n 1, 1) := by decide +kernel
theorem dJ1_charAt_3b067_1 : decode cJ1_charAt_3b067 1 = .ok (.aload_n 0, 1) := by decide +kernel
theorem dJ1_charAt_3b067_2 : decode cJ1_charAt_3b067 2 = .ok (.arraylength, 1) := by decide +kernel
theorem dJ1_charAt_3b067_3 : decode cJ1_charAt_3b067 3 = .ok (.invokestatic 9, 3) := by decide +kernel
theorem dJ1_charAt_3b067_6 : decode cJ1_charAt_3b067 6 = .ok (.aload_n 0, 1) := by decide +kernel
theorem dJ1_charAt_3b067_7 : decode cJ1_charAt_3b067 7 = .ok (.iload_n 1, 1) := by decide +kernel
theorem dJ1_charAt_3b067_8 : decode cJ1_charAt_3b067 8 = .ok (.baload, 1) := by decide +kernel
theorem dJ1_charAt_3b067_9 : decode cJ1_charAt_3b067 9 = .ok (.sipush 255, 3) := by decide +kernel
theorem dJ1_charAt_3b067_12 : decode cJ1_charAt_3b067 12 = .ok (.iand, 1) := by decide +kernel
theorem dJ1_charAt_3b067_13 : decode cJ1_charAt_3b067 13 = .ok (.i2c, 1) := by decide +kernel
theorem dJ1_charAt_3b067_14 : decode cJ1_charAt_3b067 14 = .ok (.ireturn, 1) := by decide +kernel
theorem dJ2_getChar_3b067_0 : decode cJ2_getChar_3b067 0 = .ok (.getstatic 44, 3) := by decide +kernel
theorem dJ2_getChar_3b067_3 : decode cJ2_getChar_3b067 3 = .ok (.ifCond .ne 25, 3) := by decide +kernel
theorem dJ2_getChar_3b067_6 : decode cJ2_getChar_3b067 6 = .ok (.iload_n 1, 1) := by decide +kernel
theorem dJ2_getChar_3b067_7 : decode cJ2_getChar_3b067 7 = .ok (.ifCond .lt 11, 3) := by decide +kernel
theorem dJ2_getChar_3b067_10 : decode cJ2_getChar_3b067 10 = .ok (.iload_n 1, 1) := by decide +kernel
theorem dJ2_getChar_3b067_11 : decode cJ2_getChar_3b067 11 = .ok (.aload_n 0, 1) := by decide +kernel
theorem dJ2_getChar_3b067_12 : decode cJ2_getChar_3b067 12 = .ok (.invokestatic 48, 3) := by decide +kernel
theorem dJ2_getChar_3b067_15 : decode cJ2_getChar_3b067 15 = .ok (.if_icmp .lt 13, 3) := by decide +kernel
theorem dJ2_getChar_3b067_18 : decode cJ2_getChar_3b067 18 = .ok (.new 52, 3) := by decide +kernel
theorem dJ2_getChar_3b067_21 : decode cJ2_getChar_3b067 21 = .ok (.dup, 1) := by decide +kernel
theorem dJ2_getChar_3b067_22 : decode cJ2_getChar_3b067 22 = .ok (.ldc 54, 2) := by decide +kernel
theorem dJ2_getChar_3b067_24 : decode cJ2_getChar_3b067 24 = .ok (.invokespecial 56, 3) := by decide +kernel
theorem dJ2_getChar_3b067_27 : decode cJ2_getChar_3b067 27 = .ok (.athrow, 1) := by decide +kernel
theorem dJ2_getChar_3b067_28 : decode cJ2_getChar_3b067 28 = .ok (.iload_n 1, 1) := by decide +kernel
theorem dJ2_getChar_3b067_29 : decode cJ2_getChar_3b067 29 = .ok (.iconst 1, 1) := by decide +kernel
theorem dJ2_getChar_3b067_30 : decode cJ2_getChar_3b067 30 = .ok (.ishl, 1) := by decide +kernel
theorem dJ2_getChar_3b067_31 : decode cJ2_getChar_3b067 31 = .ok (.istore_n 1, 1) := by decide +kernel
theorem dJ2_getChar_3b067_32 : decode cJ2_getChar_3b067 32 = .ok (.aload_n 0, 1) := by decide +kernel
theorem dJ2_getChar_3b067_33 : decode cJ2_getChar_3b067 33 = .ok (.iload_n 1, 1) := by decide +kernel
theorem dJ2_getChar_3b067_34 : decode cJ2_getChar_3b067 34 = .ok (.iinc 1 1, 3) := by decide +kernel
theorem dJ2_getChar_3b067_37 : decode cJ2_getChar_3b067 37 = .ok (.baload, 1) := by decide +kernel
theorem dJ2_getChar_3b067_38 : decode cJ2_getChar_3b067 38 = .ok (.sipush 255, 3) := by decide +kernel
theorem dJ2_getChar_3b067_41 : decode cJ2_getChar_3b067 41 = .ok (.iand, 1) := by decide +kernel
theorem dJ2_getChar_3b067_42 : decode cJ2_getChar_3b067 42 = .ok (.getstatic 59, 3) := by decide +kernel
theorem dJ2_getChar_3b067_45 : decode cJ2_getChar_3b067 45 = .ok (.ishl, 1) := by decide +kernel
theorem dJ2_getChar_3b067_46 : decode cJ2_getChar_3b067 46 = .ok (.aload_n 0, 1) := by decide +kernel
theorem dJ2_getChar_3b067_47 : decode cJ2_getChar_3b067 47 = .ok (.iload_n 1, 1) := by decide +kernel
theorem dJ2_getChar_3b067_48 : decode cJ2_getChar_3b067 48 = .ok (.baload, 1) := by decide +kernel
theorem dJ2_getChar_3b067_49 : decode cJ2_getChar_3b067 49 = .ok (.sipush 255, 3) := by decide +kernel
theorem dJ2_getChar_3b067_52 : decode cJ2_getChar_3b067 52 = .ok (.iand, 1) := by decide +kernel
theorem dJ2_getChar_3b067_53 : decode cJ2_getChar_3b067 53 = .ok (.getstatic 63, 3) := by decide +kernel
theorem dJ2_getChar_3b067_56 : decode cJ2_getChar_3b067 56 = .ok (.ishl, 1) := by decide +kernel
theorem dJ2_getChar_3b067_57 : decode cJ2_getChar_3b067 57 = .ok (.ior, 1) := by decide +kernel
theorem dJ2_getChar_3b067_58 : decode cJ2_getChar_3b067 58 = .ok (.i2c, 1) := by decide +kernel
theorem dJ2_getChar_3b067_59 : decode cJ2_getChar_3b067 59 = .ok (.ireturn, 1) := by decide +kernel
theorem dJ2_length_9d52b_0 : decode cJ2_length_9d52b 0 = .ok (.aload_n 0, 1) := by decide +kernel
theorem dJ2_length_9d52b_1 : decode cJ2_length_9d52b 1 = .ok (.arraylength, 1) := by decide +kernel
theorem dJ2_length_9d52b_2 : decode cJ2_length_9d52b 2 = .ok (.iconst 1, 1) := by decide +kernel
theorem dJ2_length_9d52b_3 : decode cJ2_length_9d52b 3 = .ok (.ishr, 1) := by decide +kernel
theorem dJ2_length_9d52b_4 : decode cJ2_length_9d52b 4 = .ok (.ireturn, 1) := by decide +kernel
theorem dJ2_charAt_3b067_0 : decode cJ2_charAt_3b067 0 = .ok (.iload_n 1, 1) := by decide +kernel
theorem dJ2_charAt_3b067_1 : decode cJ2_charAt_3b067 1 = .ok (.aload_n 0, 1) := by decide +kernel
theorem dJ2_charAt_3b067_2 : decode cJ2_charAt_3b067 2 = .ok (.invokestatic 67, 3) := by decide +kernel
theorem dJ2_charAt_3b067_5 : decode cJ2_charAt_3b067 5 = .ok (.aload_n 0, 1) := by decide +kernel
theorem dJ2_charAt_3b067_6 : decode cJ2_charAt_3b067 6 = .ok (.iload_n 1, 1) := by decide +kernel
theorem dJ2_charAt_3b067_7 : decode cJ2_charAt_3b067 7 = .ok (.invokestatic 71, 3) := by decide +kernel
theorem dJ2_charAt_3b067_10 : decode cJ2_charAt_3b067 10 = .ok (.ireturn, 1) := by decide +kernel
theorem dJ2_checkIndex_2214a_0 : decode cJ2_checkIndex_2214a 0 = .ok (.iload_n 0, 1) := by decide +kernel
theorem dJ2_checkIndex_2214a_1 : decode cJ2_checkIndex_2214a 1 = .ok (.aload_n 1, 1) := by decide +kernel
theorem dJ2_checkIndex_2214a_2 : decode cJ2_checkIndex_2214a 2 = .ok (.invokestatic 48, 3) := by decide +kernel
theorem dJ2_checkIndex_2214a_5 : decode cJ2_checkIndex_2214a 5 = .ok (.invokestatic 414, 3) := by decide +kernel
theorem dJ2_checkIndex_2214a_8 : decode cJ2_checkIndex_2214a 8 = .ok (.return_, 1) := by decide +kernel
theorem dJ7_fill_d0a16_0 : decode cJ7_fill_d0a16 0 = .ok (.iconst 0, 1) := by decide +kernel
theorem dJ7_fill_d0a16_1 : decode cJ7_fill_d0a16 1 = .ok (.istore_n 3, 1) := by decide +kernel
theorem dJ7_fill_d0a16_2 : decode cJ7_fill_d0a16 2 = .ok (.aload_n 0, 1) := by decide +kernel
theorem dJ7_fill_d0a16_3 : decode cJ7_fill_d0a16 3 = .ok (.arraylength, 1) := by decide +kernel
theorem dJ7_fill_d0a16_4 : decode cJ7_fill_d0a16 4 = .ok (.istore 4, 2) := by decide +kernel
theorem dJ7_fill_d0a16_6 : decode cJ7_fill_d0a16 6 = .ok (.iload_n 3, 1) := by decide +kernel
theorem dJ7_fill_d0a16_7 : decode cJ7_fill_d0a16 7 = .ok (.iload 4, 2) := by decide +kernel
theorem dJ7_fill_d0a16_9 : decode cJ7_fill_d0a16 9 = .ok (.if_icmp .ge 13, 3) := by decide +kernel
theorem dJ7_fill_d0a16_12 : decode cJ7_fill_d0a16 12 = .ok (.aload_n 0, 1) := by decide +kernel
theorem dJ7_fill_d0a16_13 : decode cJ7_fill_d0a16 13 = .ok (.iload_n 3, 1) := by decide +kernel
theorem dJ7_fill_d0a16_14 : decode cJ7_fill_d0a16 14 = .ok (.lload_n 1, 1) := by decide +kernel
theorem dJ7_fill_d0a16_15 : decode cJ7_fill_d0a16 15 = .ok (.lastore, 1) := by decide +kernel
theorem dJ7_fill_d0a16_16 : decode cJ7_fill_d0a16 16 = .ok (.iinc 3 1, 3) := by decide +kernel
theorem dJ7_fill_d0a16_19 : decode cJ7_fill_d0a16 19 = .ok (.goto (-13), 3) := by decide +kernel
theorem dJ7_fill_d0a16_22 : decode cJ7_fill_d0a16 22 = .ok (.return_, 1) := by decide +kernel
theorem dJ7_fill_53178_0 : decode cJ7_fill_53178 0 = .ok (.iconst 0, 1) := by decide +kernel
theorem dJ7_fill_53178_1 : decode cJ7_fill_53178 1 = .ok (.istore_n 2, 1) := by decide +kernel
theorem dJ7_fill_53178_2 : decode cJ7_fill_53178 2 = .ok (.aload_n 0, 1) := by decide +kernel
theorem dJ7_fill_53178_3 : decode cJ7_fill_53178 3 = .ok (.arraylength, 1) := by decide +kernel
theorem dJ7_fill_53178_4 : decode cJ7_fill_53178 4 = .ok (.istore_n 3, 1) := by decide +kernel
theorem dJ7_fill_53178_5 : decode cJ7_fill_53178 5 = .ok (.iload_n 2, 1) := by decide +kernel
theorem dJ7_fill_53178_6 : decode cJ7_fill_53178 6 = .ok (.iload_n 3, 1) := by decide +kernel
theorem dJ7_fill_53178_7 : decode cJ7_fill_53178 7 = .ok (.if_icmp .ge 13, 3) := by decide +kernel
theorem dJ7_fill_53178_10 : decode cJ7_fill_53178 10 = .ok (.aload_n 0, 1) := by decide +kernel
theorem dJ7_fill_53178_11 : decode cJ7_fill_53178 11 = .ok (.iload_n 2, 1) := by decide +kernel
theorem dJ7_fill_53178_12 : decode cJ7_fill_53178 12 = .ok (.iload_n 1, 1) := by decide +kernel
theorem dJ7_fill_53178_13 : decode cJ7_fill_53178 13 = .ok (.iastore, 1) := by decide +kernel
theorem dJ7_fill_53178_14 : decode cJ7_fill_53178 14 = .ok (.iinc 2 1, 3) := by decide +kernel
theorem dJ7_fill_53178_17 : decode cJ7_fill_53178 17 = .ok (.goto (-12), 3) := by decide +kernel
theorem dJ7_fill_53178_20 : decode cJ7_fill_53178 20 = .ok (.return_, 1) := by decide +kernel
theorem dJ3_checkIndex_8e157_0 : decode cJ3_checkIndex_8e157 0 = .ok (.iload_n 0, 1) := by decide +kernel
theorem dJ3_checkIndex_8e157_1 : decode cJ3_checkIndex_8e157 1 = .ok (.ifCond .lt 8, 3) := by decide +kernel
theorem dJ3_checkIndex_8e157_4 : decode cJ3_checkIndex_8e157 4 = .ok (.iload_n 0, 1) := by decide +kernel
theorem dJ3_checkIndex_8e157_5 : decode cJ3_checkIndex_8e157 5 = .ok (.iload_n 1, 1) := by decide +kernel
theorem dJ3_checkIndex_8e157_6 : decode cJ3_checkIndex_8e157 6 = .ok (.if_icmp .lt 10, 3) := by decide +kernel
theorem dJ3_checkIndex_8e157_9 : decode cJ3_checkIndex_8e157 9 = .ok (.aload_n 2, 1) := by decide +kernel
theorem dJ3_checkIndex_8e157_10 : decode cJ3_checkIndex_8e157 10 = .ok (.iload_n 0, 1) := by decide +kernel
theorem dJ3_checkIndex_8e157_11 : decode cJ3_checkIndex_8e157 11 = .ok (.iload_n 1, 1) := by decide +kernel
theorem dJ3_checkIndex_8e157_12 : decode cJ3_checkIndex_8e157 12 = .ok (.invokestatic 95, 3) := by decide +kernel
theorem dJ3_checkIndex_8e157_15 : decode cJ3_checkIndex_8e157 15 = .ok (.athrow, 1) := by decide +kernel
theorem dJ3_checkIndex_8e157_16 : decode cJ3_checkIndex_8e157 16 = .ok (.iload_n 0, 1) := by decide +kernel
theorem dJ3_checkIndex_8e157_17 : decode cJ3_checkIndex_8e157 17 = .ok (.ireturn, 1) := by decide +kernel
theorem dX0_init_0 : decode cX0_init 0 = .ok (.aload_n 0, 1) := by decide +kernel
theorem dX0_init_1 : decode cX0_init 1 = .ok (.invokespecial 3, 3) := by decide +kernel
theorem dX0_init_4 : decode cX0_init 4 = .ok (.aload_n 0, 1) := by decide +kernel
theorem dX0_init_5 : decode cX0_init 5 = .ok (.bipush 6, 2) := by decide +kernel
theorem dX0_init_7 : decode cX0_init 7 = .ok (.anewarray 9, 3) := by decide +kernel
theorem dX0_init_10 : decode cX0_init 10 = .ok (.putfield 11, 3) := by decide +kernel
theorem dX0_init_13 : decode cX0_init 13 = .ok (.aload_n 0, 1) := by decide +kernel
theorem dX0_init_14 : decode cX0_init 14 = .ok (.bipush 16, 2) := by decide +kernel
theorem dX0_init_16 : decode cX0_init 16 = .ok (.newarray .int, 2) := by decide +kernel
theorem dX0_init_18 : decode cX0_init 18 = .ok (.putfield 17, 3) := by decide +kernel
theorem dX0_init_21 : decode cX0_init 21 = .ok (.aload_n 0, 1) := by decide +kernel
theorem dX0_init_22 : decode cX0_init 22 = .ok (.bipush 64, 2) := by decide +kernel
theorem dX0_init_24 : decode cX0_init 24 = .ok (.newarray .int, 2) := by decide +kernel
theorem dX0_init_26 : decode cX0_init 26 = .ok (.putfield 21, 3) := by decide +kernel
theorem dX0_init_29 : decode cX0_init 29 = .ok (.iconst 0, 1) := by decide +kernel
theorem dX0_init_30 : decode cX0_init 30 = .ok (.istore_n 1, 1) := by decide +kernel
theorem dX0_init_31 : decode cX0_init 31 = .ok (.iload_n 1, 1) := by decide +kernel
theorem dX0_init_32 : decode cX0_init 32 = .ok (.bipush 6, 2) := by decide +kernel
theorem dX0_init_34 : decode cX0_init 34 = .ok (.if_icmp .ge 22, 3) := by decide +kernel
theorem dX0_init_37 : decode cX0_init 37 = .ok (.aload_n 0, 1) := by decide +kernel
theorem dX0_init_38 : decode cX0_init 38 = .ok (.getfield 11, 3) := by decide +kernel
theorem dX0_init_41 : decode cX0_init 41 = .ok (.iload_n 1, 1) := by decide +kernel
theorem dX0_init_42 : decode cX0_init 42 = .ok (.new 9, 3) := by decide +kernel
theorem dX0_init_45 : decode cX0_init 45 = .ok (.dup, 1) := by decide +kernel
theorem dX0_init_46 : decode cX0_init 46 = .ok (.invokespecial 24, 3) := by decide +kernel
theorem dX0_init_49 : decode cX0_init 49 = .ok (.aastore, 1) := by decide +kernel
theorem dX0_init_50 : decode cX0_init 50 = .ok (.iinc 1 1, 3) := by decide +kernel
theorem dX0_init_53 : decode cX0_init 53 = .ok (.goto (-22), 3) := by decide +kernel
theorem dX0_init_56 : decode cX0_init 56 = .ok (.return_, 1) := by decide +kernel
theorem dX0_become_0 : decode cX0_become 0 = .ok (.aload_n 0, 1) := by decide +kernel
theorem dX0_become_1 : decode cX0_become 1 = .ok (.aload_n 1, 1) := by decide +kernel
theorem dX0_become_2 : decode cX0_become 2 = .ok (.getfield 25, 3) := by decide +kernel
theorem dX0_become_5 : decode cX0_become 5 = .ok (.putfield 25, 3) := by decide +kernel
theorem dX0_become_8 : decode cX0_become 8 = .ok (.aload_n 0, 1) := by decide +kernel
theorem dX0_become_9 : decode cX0_become 9 = .ok (.aload_n 1, 1) := by decide +kernel
theorem dX0_become_10 : decode cX0_become 10 = .ok (.getfield 29, 3) := by decide +kernel
theorem dX0_become_13 : decode cX0_become 13 = .ok (.putfield 29, 3) := by decide +kernel
theorem dX0_become_16 : decode cX0_become 16 = .ok (.aload_n 1, 1) := by decide +kernel
theorem dX0_become_17 : decode cX0_become 17 = .ok (.getfield 17, 3) := by decide +kernel
theorem dX0_become_20 : decode cX0_become 20 = .ok (.iconst 0, 1) := by decide +kernel
theorem dX0_become_21 : decode cX0_become 21 = .ok (.aload_n 0, 1) := by decide +kernel
theorem dX0_become_22 : decode cX0_become 22 = .ok (.getfield 17, 3) := by decide +kernel
theorem dX0_become_25 : decode cX0_become 25 = .ok (.iconst 0, 1) := by decide +kernel
theorem dX0_become_26 : decode cX0_become 26 = .ok (.bipush 16, 2) := by decide +kernel
theorem dX0_become_28 : decode cX0_become 28 = .ok (.invokestatic 32, 3) := by decide +kernel
theorem dX0_become_31 : decode cX0_become 31 = .ok (.aload_n 1, 1) := by decide +kernel
theorem dX0_become_32 : decode cX0_become 32 = .ok (.getfield 21, 3) := by decide +kernel
theorem dX0_become_35 : decode cX0_become 35 = .ok (.iconst 0, 1) := by decide +kernel
theorem dX0_become_36 : decode cX0_become 36 = .ok (.aload_n 0, 1) := by decide +kernel
theorem dX0_become_37 : decode cX0_become 37 = .ok (.getfield 21, 3) := by decide +kernel
theorem dX0_become_40 : decode cX0_become 40 = .ok (.iconst 0, 1) := by decide +kernel
theorem dX0_become_41 : decode cX0_become 41 = .ok (.bipush 64, 2) := by decide +kernel
theorem dX0_become_43 : decode cX0_become 43 = .ok (.invokestatic 32, 3) := by decide +kernel
theorem dX0_become_46 : decode cX0_become 46 = .ok (.iconst 0, 1) := by decide +kernel
theorem dX0_become_47 : decode cX0_become 47 = .ok (.istore_n 2, 1) := by decide +kernel
theorem dX0_become_48 : decode cX0_become 48 = .ok (.iload_n 2, 1) := by decide +kernel
theorem dX0_become_49 : decode cX0_become 49 = .ok (.bipush 6, 2) := by decide +kernel
theorem dX0_become_51 : decode cX0_become 51 = .ok (.if_icmp .ge 24, 3) := by decide +kernel
theorem dX0_become_54 : decode cX0_become 54 = .ok (.aload_n 0, 1) := by decide +kernel
theorem dX0_become_55 : decode cX0_become 55 = .ok (.getfield 11, 3) := by decide +kernel
theorem dX0_become_58 : decode cX0_become 58 = .ok (.iload_n 2, 1) := by decide +kernel
theorem dX0_become_59 : decode cX0_become 59 = .ok (.aaload, 1) := by decide +kernel
theorem dX0_become_60 : decode cX0_become 60 = .ok (.aload_n 1, 1) := by decide +kernel
theorem dX0_become_61 : decode cX0_become 61 = .ok (.getfield 11, 3) := by decide +kernel
theorem dX0_become_64 : decode cX0_become 64 = .ok (.iload_n 2, 1) := by decide +kernel
theorem dX0_become_65 : decode cX0_become 65 = .ok (.aaload, 1) := by decide +kernel
theorem dX0_become_66 : decode cX0_become 66 = .ok (.invokevirtual 38, 3) := by decide +kernel
theorem dX0_become_69 : decode cX0_become 69 = .ok (.iinc 2 1, 3) := by decide +kernel
theorem dX0_become_72 : decode cX0_become 72 = .ok (.goto (-24), 3) := by decide +kernel
theorem dX0_become_75 : decode cX0_become 75 = .ok (.return_, 1) := by decide +kernel
theorem dX0_hasField_0 : decode cX0_hasField 0 = .ok (.iload_n 1, 1) := by decide +kernel
theorem dX0_hasField_1 : decode cX0_hasField 1 = .ok (.ifCond .lt 15, 3) := by decide +kernel
theorem dX0_hasField_4 : decode cX0_hasField 4 = .ok (.iload_n 1, 1) := by decide +kernel
theorem dX0_hasField_5 : decode cX0_hasField 5 = .ok (.aload_n 0, 1) := by decide +kernel
theorem dX0_hasField_6 : decode cX0_hasField 6 = .ok (.getfield 25, 3) := by decide +kernel
theorem dX0_hasField_9 : decode cX0_hasField 9 = .ok (.if_icmp .ge 7, 3) := by decide +kernel
theorem dX0_hasField_12 : decode cX0_hasField 12 = .ok (.iconst 1, 1) := by decide +kernel
theorem dX0_hasField_13 : decode cX0_hasField 13 = .ok (.goto 4, 3) := by decide +kernel
theorem dX0_hasField_16 : decode cX0_hasField 16 = .ok (.iconst 0, 1) := by decide +kernel
theorem dX0_hasField_17 : decode cX0_hasField 17 = .ok (.ireturn, 1) := by decide +kernel
theorem dX0_hasWay_0 : decode cX0_hasWay 0 = .ok (.aload_n 0, 1) := by decide +kernel
theorem dX0_hasWay_1 : decode cX0_hasWay 1 = .ok (.iload_n 1, 1) := by decide +kernel
theorem dX0_hasWay_2 : decode cX0_hasWay 2 = .ok (.invokevirtual 42, 3) := by decide +kernel
theorem dX0_hasWay_5 : decode cX0_hasWay 5 = .ok (.ifCond .eq 16, 3) := by decide +kernel
theorem dX0_hasWay_8 : decode cX0_hasWay 8 = .ok (.iload_n 2, 1) := by decide +kernel
theorem dX0_hasWay_9 : decode cX0_hasWay 9 = .ok (.ifCond .lt 12, 3) := by decide +kernel
theorem dX0_hasWay_12 : decode cX0_hasWay 12 = .ok (.iload_n 2, 1) := by decide +kernel
theorem dX0_hasWay_13 : decode cX0_hasWay 13 = .ok (.iconst 4, 1) := by decide +kernel
theorem dX0_hasWay_14 : decode cX0_hasWay 14 = .ok (.if_icmp .ge 7, 3) := by decide +kernel
theorem dX0_hasWay_17 : decode cX0_hasWay 17 = .ok (.iconst 1, 1) := by decide +kernel
theorem dX0_hasWay_18 : decode cX0_hasWay 18 = .ok (.goto 4, 3) := by decide +kernel
theorem dX0_hasWay_21 : decode cX0_hasWay 21 = .ok (.iconst 0, 1) := by decide +kernel
theorem dX0_hasWay_22 : decode cX0_hasWay 22 = .ok (.ireturn, 1) := by decide +kernel
theorem dX0_hasWalker_0 : decode cX0_hasWalker 0 = .ok (.iload_n 1, 1) := by decide +kernel
theorem dX0_hasWalker_1 : decode cX0_hasWalker 1 = .ok (.ifCond .lt 15, 3) := by decide +kernel
theorem dX0_hasWalker_4 : decode cX0_hasWalker 4 = .ok (.iload_n 1, 1) := by decide +kernel
theorem dX0_hasWalker_5 : decode cX0_hasWalker 5 = .ok (.aload_n 0, 1) := by decide +kernel
theorem dX0_hasWalker_6 : decode cX0_hasWalker 6 = .ok (.getfield 29, 3) := by decide +kernel
theorem dX0_hasWalker_9 : decode cX0_hasWalker 9 = .ok (.if_icmp .ge 7, 3) := by decide +kernel
theorem dX0_hasWalker_12 : decode cX0_hasWalker 12 = .ok (.iconst 1, 1) := by decide +kernel
theorem dX0_hasWalker_13 : decode cX0_hasWalker 13 = .ok (.goto 4, 3) := by decide +kernel
theorem dX0_hasWalker_16 : decode cX0_hasWalker 16 = .ok (.iconst 0, 1) := by decide +kernel
theorem dX0_hasWalker_17 : decode cX0_hasWalker 17 = .ok (.ireturn, 1) := by decide +kernel
theorem dX0_ways_0 : decode cX0_ways 0 = .ok (.aload_n 0, 1) := by decide +kernel
theorem dX0_ways_1 : decode cX0_ways 1 = .ok (.getfield 25, 3) := by decide +kernel
theorem dX0_ways_4 : decode cX0_ways 4 = .ok (.iconst 4, 1) := by decide +kernel
theorem dX0_ways_5 : decode cX0_ways 5 = .ok (.imul, 1) := by decide +kernel
theorem dX0_ways_6 : decode cX0_ways 6 = .ok (.ireturn, 1) := by decide +kernel
theorem dX0_addField_0 : decode cX0_addField 0 = .ok (.aload_n 0, 1) := by decide +kernel
theorem dX0_addField_1 : decode cX0_addField 1 = .ok (.getfield 25, 3) := by decide +kernel
theorem dX0_addField_4 : decode cX0_addField 4 = .ok (.bipush 16, 2) := by decide +kernel
theorem dX0_addField_6 : decode cX0_addField 6 = .ok (.if_icmp .lt 5, 3) := by decide +kernel
theorem dX0_addField_9 : decode cX0_addField 9 = .ok (.iconst (-1), 1) := by decide +kernel
theorem dX0_addField_10 : decode cX0_addField 10 = .ok (.ireturn, 1) := by decide +kernel
theorem dX0_addField_11 : decode cX0_addField 11 = .ok (.aload_n 0, 1) := by decide +kernel
theorem dX0_addField_12 : decode cX0_addField 12 = .ok (.getfield 25, 3) := by decide +kernel
theorem dX0_addField_15 : decode cX0_addField 15 = .ok (.istore_n 2, 1) := by decide +kernel
theorem dX0_addField_16 : decode cX0_addField 16 = .ok (.aload_n 0, 1) := by decide +kernel
theorem dX0_addField_17 : decode cX0_addField 17 = .ok (.getfield 17, 3) := by decide +kernel
theorem dX0_addField_20 : decode cX0_addField 20 = .ok (.iload_n 2, 1) := by decide +kernel
theorem dX0_addField_21 : decode cX0_addField 21 = .ok (.iload_n 1, 1) := by decide +kernel
theorem dX0_addField_22 : decode cX0_addField 22 = .ok (.iastore, 1) := by decide +kernel
theorem dX0_addField_23 : decode cX0_addField 23 = .ok (.iconst 0, 1) := by decide +kernel
theorem dX0_addField_24 : decode cX0_addField 24 = .ok (.istore_n 3, 1) := by decide +kernel
theorem dX0_addField_25 : decode cX0_addField 25 = .ok (.iload_n 3, 1) := by decide +kernel
theorem dX0_addField_26 : decode cX0_addField 26 = .ok (.iconst 4, 1) := by decide +kernel
theorem dX0_addField_27 : decode cX0_addField 27 = .ok (.if_icmp .ge 20, 3) := by decide +kernel
theorem dX0_addField_30 : decode cX0_addField 30 = .ok (.aload_n 0, 1) := by decide +kernel
theorem dX0_addField_31 : decode cX0_addField 31 = .ok (.getfield 21, 3) := by decide +kernel
theorem dX0_addField_34 : decode cX0_addField 34 = .ok (.iload_n 2, 1) := by decide +kernel
theorem dX0_addField_35 : decode cX0_addField 35 = .ok (.iload_n 3, 1) := by decide +kernel
theorem dX0_addField_36 : decode cX0_addField 36 = .ok (.invokestatic 46, 3) := by decide +kernel
theorem dX0_addField_39 : decode cX0_addField 39 = .ok (.iconst (-1), 1) := by decide +kernel
theorem dX0_addField_40 : decode cX0_addField 40 = .ok (.iastore, 1) := by decide +kernel
theorem dX0_addField_41 : decode cX0_addField 41 = .ok (.iinc 3 1, 3) := by decide +kernel
theorem dX0_addField_44 : decode cX0_addField 44 = .ok (.goto (-19), 3) := by decide +kernel
theorem dX0_addField_47 : decode cX0_addField 47 = .ok (.aload_n 0, 1) := by decide +kernel
theorem dX0_addField_48 : decode cX0_addField 48 = .ok (.dup, 1) := by decide +kernel
theorem dX0_addField_49 : decode cX0_addField 49 = .ok (.getfield 25, 3) := by decide +kernel
theorem dX0_addField_52 : decode cX0_addField 52 = .ok (.iconst 1, 1) := by decide +kernel
theorem dX0_addField_53 : decode cX0_addField 53 = .ok (.iadd, 1) := by decide +kernel
theorem dX0_addField_54 : decode cX0_addField 54 = .ok (.putfield 25, 3) := by decide +kernel
theorem dX0_addField_57 : decode cX0_addField 57 = .ok (.iload_n 2, 1) := by decide +kernel
theorem dX0_addField_58 : decode cX0_addField 58 = .ok (.ireturn, 1) := by decide +kernel
theorem dX0_addWalker_0 : decode cX0_addWalker 0 = .ok (.aload_n 0, 1) := by decide +kernel
theorem dX0_addWalker_1 : decode cX0_addWalker 1 = .ok (.getfield 29, 3) := by decide +kernel
theorem dX0_addWalker_4 : decode cX0_addWalker 4 = .ok (.bipush 6, 2) := by decide +kernel
theorem dX0_addWalker_6 : decode cX0_addWalker 6 = .ok (.if_icmp .lt 5, 3) := by decide +kernel
theorem dX0_addWalker_9 : decode cX0_addWalker 9 = .ok (.iconst (-1), 1) := by decide +kernel
theorem dX0_addWalker_10 : decode cX0_addWalker 10 = .ok (.ireturn, 1) := by decide +kernel
theorem dX0_addWalker_11 : decode cX0_addWalker 11 = .ok (.aload_n 0, 1) := by decide +kernel
theorem dX0_addWalker_12 : decode cX0_addWalker 12 = .ok (.getfield 11, 3) := by decide +kernel
theorem dX0_addWalker_15 : decode cX0_addWalker 15 = .ok (.aload_n 0, 1) := by decide +kernel
theorem dX0_addWalker_16 : decode cX0_addWalker 16 = .ok (.getfield 29, 3) := by decide +kernel
theorem dX0_addWalker_19 : decode cX0_addWalker 19 = .ok (.aaload, 1) := by decide +kernel
theorem dX0_addWalker_20 : decode cX0_addWalker 20 = .ok (.iload_n 1, 1) := by decide +kernel
theorem dX0_addWalker_21 : decode cX0_addWalker 21 = .ok (.iload_n 2, 1) := by decide +kernel
theorem dX0_addWalker_22 : decode cX0_addWalker 22 = .ok (.invokevirtual 50, 3) := by decide +kernel
theorem dX0_addWalker_25 : decode cX0_addWalker 25 = .ok (.aload_n 0, 1) := by decide +kernel
theorem dX0_addWalker_26 : decode cX0_addWalker 26 = .ok (.dup, 1) := by decide +kernel
theorem dX0_addWalker_27 : decode cX0_addWalker 27 = .ok (.getfield 29, 3) := by decide +kernel
theorem dX0_addWalker_30 : decode cX0_addWalker 30 = .ok (.iconst 1, 1) := by decide +kernel
theorem dX0_addWalker_31 : decode cX0_addWalker 31 = .ok (.iadd, 1) := by decide +kernel
theorem dX0_addWalker_32 : decode cX0_addWalker 32 = .ok (.putfield 29, 3) := by decide +kernel
theorem dX0_addWalker_35 : decode cX0_addWalker 35 = .ok (.aload_n 0, 1) := by decide +kernel
theorem dX0_addWalker_36 : decode cX0_addWalker 36 = .ok (.getfield 29, 3) := by decide +kernel
theorem dX0_addWalker_39 : decode cX0_addWalker 39 = .ok (.iconst 1, 1) := by decide +kernel
theorem dX0_addWalker_40 : decode cX0_addWalker 40 = .ok (.isub, 1) := by decide +kernel
theorem dX0_addWalker_41 : decode cX0_addWalker 41 = .ok (.ireturn, 1) := by decide +kernel
theorem dX0_roughOf_0 : decode cX0_roughOf 0 = .ok (.aload_n 0, 1) := by decide +kernel
theorem dX0_roughOf_1 : decode cX0_roughOf 1 = .ok (.iload_n 1, 1) := by decide +kernel
theorem dX0_roughOf_2 : decode cX0_roughOf 2 = .ok (.invokevirtual 42, 3) := by decide +kernel
theorem dX0_roughOf_5 : decode cX0_roughOf 5 = .ok (.ifCond .eq 12, 3) := by decide +kernel
theorem dX0_roughOf_8 : decode cX0_roughOf 8 = .ok (.aload_n 0, 1) := by decide +kernel
theorem dX0_roughOf_9 : decode cX0_roughOf 9 = .ok (.getfield 17, 3) := by decide +kernel
theorem dX0_roughOf_12 : decode cX0_roughOf 12 = .ok (.iload_n 1, 1) := by decide +kernel
theorem dX0_roughOf_13 : decode cX0_roughOf 13 = .ok (.iaload, 1) := by decide +kernel
theorem dX0_roughOf_14 : decode cX0_roughOf 14 = .ok (.goto 4, 3) := by decide +kernel
theorem dX0_roughOf_17 : decode cX0_roughOf 17 = .ok (.iconst 0, 1) := by decide +kernel
theorem dX0_roughOf_18 : decode cX0_roughOf 18 = .ok (.ireturn, 1) := by decide +kernel
theorem dX0_makeRough_0 : decode cX0_makeRough 0 = .ok (.aload_n 0, 1) := by decide +kernel
theorem dX0_makeRough_1 : decode cX0_makeRough 1 = .ok (.iload_n 1, 1) := by decide +kernel
theorem dX0_makeRough_2 : decode cX0_makeRough 2 = .ok (.invokevirtual 42, 3) := by decide +kernel
theorem dX0_makeRough_5 : decode cX0_makeRough 5 = .ok (.ifCond .eq 10, 3) := by decide +kernel
theorem dX0_makeRough_8 : decode cX0_makeRough 8 = .ok (.aload_n 0, 1) := by decide +kernel
theorem dX0_makeRough_9 : decode cX0_makeRough 9 = .ok (.getfield 17, 3) := by decide +kernel
theorem dX0_makeRough_12 : decode cX0_makeRough 12 = .ok (.iload_n 1, 1) := by decide +kernel
theorem dX0_makeRough_13 : decode cX0_makeRough 13 = .ok (.iload_n 2, 1) := by decide +kernel
theorem dX0_makeRough_14 : decode cX0_makeRough 14 = .ok (.iastore, 1) := by decide +kernel
theorem dX0_makeRough_15 : decode cX0_makeRough 15 = .ok (.return_, 1) := by decide +kernel
theorem dX0_gluedTo_0 : decode cX0_gluedTo 0 = .ok (.iload_n 1, 1) := by decide +kernel
theorem dX0_gluedTo_1 : decode cX0_gluedTo 1 = .ok (.ifCond .lt 20, 3) := by decide +kernel
theorem dX0_gluedTo_4 : decode cX0_gluedTo 4 = .ok (.iload_n 1, 1) := by decide +kernel
theorem dX0_gluedTo_5 : decode cX0_gluedTo 5 = .ok (.aload_n 0, 1) := by decide +kernel
theorem dX0_gluedTo_6 : decode cX0_gluedTo 6 = .ok (.invokevirtual 54, 3) := by decide +kernel
theorem dX0_gluedTo_9 : decode cX0_gluedTo 9 = .ok (.if_icmp .ge 12, 3) := by decide +kernel
theorem dX0_gluedTo_12 : decode cX0_gluedTo 12 = .ok (.aload_n 0, 1) := by decide +kernel
theorem dX0_gluedTo_13 : decode cX0_gluedTo 13 = .ok (.getfield 21, 3) := by decide +kernel
theorem dX0_gluedTo_16 : decode cX0_gluedTo 16 = .ok (.iload_n 1, 1) := by decide +kernel
theorem dX0_gluedTo_17 : decode cX0_gluedTo 17 = .ok (.iaload, 1) := by decide +kernel
theorem dX0_gluedTo_18 : decode cX0_gluedTo 18 = .ok (.goto 4, 3) := by decide +kernel
theorem dX0_gluedTo_21 : decode cX0_gluedTo 21 = .ok (.iconst (-1), 1) := by decide +kernel
theorem dX0_gluedTo_22 : decode cX0_gluedTo 22 = .ok (.ireturn, 1) := by decide +kernel
theorem dX0_isFree_0 : decode cX0_isFree 0 = .ok (.aload_n 0, 1) := by decide +kernel
theorem dX0_isFree_1 : decode cX0_isFree 1 = .ok (.iload_n 1, 1) := by decide +kernel
theorem dX0_isFree_2 : decode cX0_isFree 2 = .ok (.invokevirtual 58, 3) := by decide +kernel
theorem dX0_isFree_5 : decode cX0_isFree 5 = .ok (.iconst (-1), 1) := by decide +kernel
theorem dX0_isFree_6 : decode cX0_isFree 6 = .ok (.if_icmp .ne 7, 3) := by decide +kernel
theorem dX0_isFree_9 : decode cX0_isFree 9 = .ok (.iconst 1, 1) := by decide +kernel
theorem dX0_isFree_10 : decode cX0_isFree 10 = .ok (.goto 4, 3) := by decide +kernel
theorem dX0_isFree_13 : decode cX0_isFree 13 = .ok (.iconst 0, 1) := by decide +kernel
theorem dX0_isFree_14 : decode cX0_isFree 14 = .ok (.ireturn, 1) := by decide +kernel
theorem dX0_join_0 : decode cX0_join 0 = .ok (.iload_n 1, 1) := by decide +kernel
theorem dX0_join_1 : decode cX0_join 1 = .ok (.ifCond .lt 37, 3) := by decide +kernel
theorem dX0_join_4 : decode cX0_join 4 = .ok (.iload_n 1, 1) := by decide +kernel
theorem dX0_join_5 : decode cX0_join 5 = .ok (.aload_n 0, 1) := by decide +kernel
theorem dX0_join_6 : decode cX0_join 6 = .ok (.invokevirtual 54, 3) := by decide +kernel
theorem dX0_join_9 : decode cX0_join 9 = .ok (.if_icmp .ge 29, 3) := by decide +kernel
theorem dX0_join_12 : decode cX0_join 12 = .ok (.iload_n 2, 1) := by decide +kernel
theorem dX0_join_13 : decode cX0_join 13 = .ok (.ifCond .lt 25, 3) := by decide +kernel
theorem dX0_join_16 : decode cX0_join 16 = .ok (.iload_n 2, 1) := by decide +kernel
theorem dX0_join_17 : decode cX0_join 17 = .ok (.aload_n 0, 1) := by decide +kernel
theorem dX0_join_18 : decode cX0_join 18 = .ok (.invokevirtual 54, 3) := by decide +kernel
theorem dX0_join_21 : decode cX0_join 21 = .ok (.if_icmp .ge 17, 3) := by decide +kernel
theorem dX0_join_24 : decode cX0_join 24 = .ok (.aload_n 0, 1) := by decide +kernel
theorem dX0_join_25 : decode cX0_join 25 = .ok (.getfield 21, 3) := by decide +kernel
theorem dX0_join_28 : decode cX0_join 28 = .ok (.iload_n 1, 1) := by decide +kernel
theorem dX0_join_29 : decode cX0_join 29 = .ok (.iload_n 2, 1) := by decide +kernel
theorem dX0_join_30 : decode cX0_join 30 = .ok (.iastore, 1) := by decide +kernel
theorem dX0_join_31 : decode cX0_join 31 = .ok (.aload_n 0, 1) := by decide +kernel
theorem dX0_join_32 : decode cX0_join 32 = .ok (.getfield 21, 3) := by decide +kernel
theorem dX0_join_35 : decode cX0_join 35 = .ok (.iload_n 2, 1) := by decide +kernel
theorem dX0_join_36 : decode cX0_join 36 = .ok (.iload_n 1, 1) := by decide +kernel
theorem dX0_join_37 : decode cX0_join 37 = .ok (.iastore, 1) := by decide +kernel
theorem dX0_join_38 : decode cX0_join 38 = .ok (.return_, 1) := by decide +kernel
theorem dX0_sever_0 : decode cX0_sever 0 = .ok (.aload_n 0, 1) := by decide +kernel
theorem dX0_sever_1 : decode cX0_sever 1 = .ok (.iload_n 1, 1) := by decide +kernel
theorem dX0_sever_2 : decode cX0_sever 2 = .ok (.invokevirtual 58, 3) := by decide +kernel
theorem dX0_sever_5 : decode cX0_sever 5 = .ok (.istore_n 2, 1) := by decide +kernel
theorem dX0_sever_6 : decode cX0_sever 6 = .ok (.iload_n 2, 1) := by decide +kernel
theorem dX0_sever_7 : decode cX0_sever 7 = .ok (.iconst (-1), 1) := by decide +kernel
theorem dX0_sever_8 : decode cX0_sever 8 = .ok (.if_icmp .eq 17, 3) := by decide +kernel
theorem dX0_sever_11 : decode cX0_sever 11 = .ok (.aload_n 0, 1) := by decide +kernel
theorem dX0_sever_12 : decode cX0_sever 12 = .ok (.getfield 21, 3) := by decide +kernel
theorem dX0_sever_15 : decode cX0_sever 15 = .ok (.iload_n 1, 1) := by decide +kernel
theorem dX0_sever_16 : decode cX0_sever 16 = .ok (.iconst (-1), 1) := by decide +kernel
theorem dX0_sever_17 : decode cX0_sever 17 = .ok (.iastore, 1) := by decide +kernel
theorem dX0_sever_18 : decode cX0_sever 18 = .ok (.aload_n 0, 1) := by decide +kernel
theorem dX0_sever_19 : decode cX0_sever 19 = .ok (.getfield 21, 3) := by decide +kernel
theorem dX0_sever_22 : decode cX0_sever 22 = .ok (.iload_n 2, 1) := by decide +kernel
theorem dX0_sever_23 : decode cX0_sever 23 = .ok (.iconst (-1), 1) := by decide +kernel
theorem dX0_sever_24 : decode cX0_sever 24 = .ok (.iastore, 1) := by decide +kernel
theorem dX0_sever_25 : decode cX0_sever 25 = .ok (.return_, 1) := by decide +kernel
theorem dX0_gluedSidesOf_0 : decode cX0_gluedSidesOf 0 = .ok (.iconst 0, 1) := by decide +kernel
theorem dX0_gluedSidesOf_1 : decode cX0_gluedSidesOf 1 = .ok (.istore_n 2, 1) := by decide +kernel
theorem dX0_gluedSidesOf_2 : decode cX0_gluedSidesOf 2 = .ok (.iconst 0, 1) := by decide +kernel
theorem dX0_gluedSidesOf_3 : decode cX0_gluedSidesOf 3 = .ok (.istore_n 3, 1) := by decide +kernel
theorem dX0_gluedSidesOf_4 : decode cX0_gluedSidesOf 4 = .ok (.iload_n 3, 1) := by decide +kernel
theorem dX0_gluedSidesOf_5 : decode cX0_gluedSidesOf 5 = .ok (.iconst 4, 1) := by decide +kernel
theorem dX0_gluedSidesOf_6 : decode cX0_gluedSidesOf 6 = .ok (.if_icmp .ge 27, 3) := by decide +kernel
theorem dX0_gluedSidesOf_9 : decode cX0_gluedSidesOf 9 = .ok (.aload_n 0, 1) := by decide +kernel
theorem dX0_gluedSidesOf_10 : decode cX0_gluedSidesOf 10 = .ok (.iload_n 1, 1) := by decide +kernel
theorem dX0_gluedSidesOf_11 : decode cX0_gluedSidesOf 11 = .ok (.iload_n 3, 1) := by decide +kernel
theorem dX0_gluedSidesOf_12 : decode cX0_gluedSidesOf 12 = .ok (.invokestatic 46, 3) := by decide +kernel
theorem dX0_gluedSidesOf_15 : decode cX0_gluedSidesOf 15 = .ok (.invokevirtual 62, 3) := by decide +kernel
theorem dX0_gluedSidesOf_18 : decode cX0_gluedSidesOf 18 = .ok (.ifCond .ne 9, 3) := by decide +kernel
theorem dX0_gluedSidesOf_21 : decode cX0_gluedSidesOf 21 = .ok (.iload_n 2, 1) := by decide +kernel
theorem dX0_gluedSidesOf_22 : decode cX0_gluedSidesOf 22 = .ok (.iconst 1, 1) := by decide +kernel
theorem dX0_gluedSidesOf_23 : decode cX0_gluedSidesOf 23 = .ok (.iload_n 3, 1) := by decide +kernel
theorem dX0_gluedSidesOf_24 : decode cX0_gluedSidesOf 24 = .ok (.ishl, 1) := by decide +kernel
theorem dX0_gluedSidesOf_25 : decode cX0_gluedSidesOf 25 = .ok (.ior, 1) := by decide +kernel
theorem dX0_gluedSidesOf_26 : decode cX0_gluedSidesOf 26 = .ok (.istore_n 2, 1) := by decide +kernel
theorem dX0_gluedSidesOf_27 : decode cX0_gluedSidesOf 27 = .ok (.iinc 3 1, 3) := by decide +kernel
theorem dX0_gluedSidesOf_30 : decode cX0_gluedSidesOf 30 = .ok (.goto (-26), 3) := by decide +kernel
theorem dX0_gluedSidesOf_33 : decode cX0_gluedSidesOf 33 = .ok (.iload_n 2, 1) := by decide +kernel
theorem dX0_gluedSidesOf_34 : decode cX0_gluedSidesOf 34 = .ok (.ireturn, 1) := by decide +kernel
theorem dX0_gluedSides_0 : decode cX0_gluedSides 0 = .ok (.iconst 0, 1) := by decide +kernel
theorem dX0_gluedSides_1 : decode cX0_gluedSides 1 = .ok (.istore_n 1, 1) := by decide +kernel
theorem dX0_gluedSides_2 : decode cX0_gluedSides 2 = .ok (.iconst 0, 1) := by decide +kernel
theorem dX0_gluedSides_3 : decode cX0_gluedSides 3 = .ok (.istore_n 2, 1) := by decide +kernel
theorem dX0_gluedSides_4 : decode cX0_gluedSides 4 = .ok (.iload_n 2, 1) := by decide +kernel
theorem dX0_gluedSides_5 : decode cX0_gluedSides 5 = .ok (.aload_n 0, 1) := by decide +kernel
theorem dX0_gluedSides_6 : decode cX0_gluedSides 6 = .ok (.invokevirtual 54, 3) := by decide +kernel
theorem dX0_gluedSides_9 : decode cX0_gluedSides 9 = .ok (.if_icmp .ge 20, 3) := by decide +kernel
theorem dX0_gluedSides_12 : decode cX0_gluedSides 12 = .ok (.aload_n 0, 1) := by decide +kernel
theorem dX0_gluedSides_13 : decode cX0_gluedSides 13 = .ok (.iload_n 2, 1) := by decide +kernel
theorem dX0_gluedSides_14 : decode cX0_gluedSides 14 = .ok (.invokevirtual 62, 3) := by decide +kernel
theorem dX0_gluedSides_17 : decode cX0_gluedSides 17 = .ok (.ifCond .ne 6, 3) := by decide +kernel
theorem dX0_gluedSides_20 : decode cX0_gluedSides 20 = .ok (.iinc 1 1, 3) := by decide +kernel
theorem dX0_gluedSides_23 : decode cX0_gluedSides 23 = .ok (.iinc 2 1, 3) := by decide +kernel
theorem dX0_gluedSides_26 : decode cX0_gluedSides 26 = .ok (.goto (-22), 3) := by decide +kernel
theorem dX0_gluedSides_29 : decode cX0_gluedSides 29 = .ok (.iload_n 1, 1) := by decide +kernel
theorem dX0_gluedSides_30 : decode cX0_gluedSides 30 = .ok (.ireturn, 1) := by decide +kernel
theorem dX0_walkersOn_0 : decode cX0_walkersOn 0 = .ok (.iconst 0, 1) := by decide +kernel
theorem dX0_walkersOn_1 : decode cX0_walkersOn 1 = .ok (.istore_n 2, 1) := by decide +kernel
theorem dX0_walkersOn_2 : decode cX0_walkersOn 2 = .ok (.iconst 0, 1) := by decide +kernel
theorem dX0_walkersOn_3 : decode cX0_walkersOn 3 = .ok (.istore_n 3, 1) := by decide +kernel
theorem dX0_walkersOn_4 : decode cX0_walkersOn 4 = .ok (.iload_n 3, 1) := by decide +kernel
theorem dX0_walkersOn_5 : decode cX0_walkersOn 5 = .ok (.aload_n 0, 1) := by decide +kernel
theorem dX0_walkersOn_6 : decode cX0_walkersOn 6 = .ok (.getfield 29, 3) := by decide +kernel
theorem dX0_walkersOn_9 : decode cX0_walkersOn 9 = .ok (.if_icmp .ge 31, 3) := by decide +kernel
theorem dX0_walkersOn_12 : decode cX0_walkersOn 12 = .ok (.aload_n 0, 1) := by decide +kernel
theorem dX0_walkersOn_13 : decode cX0_walkersOn 13 = .ok (.getfield 11, 3) := by decide +kernel
theorem dX0_walkersOn_16 : decode cX0_walkersOn 16 = .ok (.iload_n 3, 1) := by decide +kernel
theorem dX0_walkersOn_17 : decode cX0_walkersOn 17 = .ok (.aaload, 1) := by decide +kernel
theorem dX0_walkersOn_18 : decode cX0_walkersOn 18 = .ok (.getfield 65, 3) := by decide +kernel
theorem dX0_walkersOn_21 : decode cX0_walkersOn 21 = .ok (.invokestatic 68, 3) := by decide +kernel
theorem dX0_walkersOn_24 : decode cX0_walkersOn 24 = .ok (.iload_n 1, 1) := by decide +kernel
theorem dX0_walkersOn_25 : decode cX0_walkersOn 25 = .ok (.if_icmp .ne 9, 3) := by decide +kernel
theorem dX0_walkersOn_28 : decode cX0_walkersOn 28 = .ok (.iload_n 2, 1) := by decide +kernel
theorem dX0_walkersOn_29 : decode cX0_walkersOn 29 = .ok (.iconst 1, 1) := by decide +kernel
theorem dX0_walkersOn_30 : decode cX0_walkersOn 30 = .ok (.iload_n 3, 1) := by decide +kernel
theorem dX0_walkersOn_31 : decode cX0_walkersOn 31 = .ok (.ishl, 1) := by decide +kernel
theorem dX0_walkersOn_32 : decode cX0_walkersOn 32 = .ok (.ior, 1) := by decide +kernel
theorem dX0_walkersOn_33 : decode cX0_walkersOn 33 = .ok (.istore_n 2, 1) := by decide +kernel
theorem dX0_walkersOn_34 : decode cX0_walkersOn 34 = .ok (.iinc 3 1, 3) := by decide +kernel
theorem dX0_walkersOn_37 : decode cX0_walkersOn 37 = .ok (.goto (-33), 3) := by decide +kernel
theorem dX0_walkersOn_40 : decode cX0_walkersOn 40 = .ok (.iload_n 2, 1) := by decide +kernel
theorem dX0_walkersOn_41 : decode cX0_walkersOn 41 = .ok (.ireturn, 1) := by decide +kernel
theorem dX0_milesOfAll_0 : decode cX0_milesOfAll 0 = .ok (.iconst 0, 1) := by decide +kernel
theorem dX0_milesOfAll_1 : decode cX0_milesOfAll 1 = .ok (.istore_n 1, 1) := by decide +kernel
theorem dX0_milesOfAll_2 : decode cX0_milesOfAll 2 = .ok (.iconst 0, 1) := by decide +kernel
theorem dX0_milesOfAll_3 : decode cX0_milesOfAll 3 = .ok (.istore_n 2, 1) := by decide +kernel
theorem dX0_milesOfAll_4 : decode cX0_milesOfAll 4 = .ok (.iload_n 2, 1) := by decide +kernel
theorem dX0_milesOfAll_5 : decode cX0_milesOfAll 5 = .ok (.aload_n 0, 1) := by decide +kernel
theorem dX0_milesOfAll_6 : decode cX0_milesOfAll 6 = .ok (.getfield 29, 3) := by decide +kernel
theorem dX0_milesOfAll_9 : decode cX0_milesOfAll 9 = .ok (.if_icmp .ge 21, 3) := by decide +kernel
theorem dX0_milesOfAll_12 : decode cX0_milesOfAll 12 = .ok (.iload_n 1, 1) := by decide +kernel
theorem dX0_milesOfAll_13 : decode cX0_milesOfAll 13 = .ok (.aload_n 0, 1) := by decide +kernel
theorem dX0_milesOfAll_14 : decode cX0_milesOfAll 14 = .ok (.getfield 11, 3) := by decide +kernel
theorem dX0_milesOfAll_17 : decode cX0_milesOfAll 17 = .ok (.iload_n 2, 1) := by decide +kernel
theorem dX0_milesOfAll_18 : decode cX0_milesOfAll 18 = .ok (.aaload, 1) := by decide +kernel
theorem dX0_milesOfAll_19 : decode cX0_milesOfAll 19 = .ok (.getfield 71, 3) := by decide +kernel
theorem dX0_milesOfAll_22 : decode cX0_milesOfAll 22 = .ok (.iadd, 1) := by decide +kernel
theorem dX0_milesOfAll_23 : decode cX0_milesOfAll 23 = .ok (.istore_n 1, 1) := by decide +kernel
theorem dX0_milesOfAll_24 : decode cX0_milesOfAll 24 = .ok (.iinc 2 1, 3) := by decide +kernel
theorem dX0_milesOfAll_27 : decode cX0_milesOfAll 27 = .ok (.goto (-23), 3) := by decide +kernel
theorem dX0_milesOfAll_30 : decode cX0_milesOfAll 30 = .ok (.iload_n 1, 1) := by decide +kernel
theorem dX0_milesOfAll_31 : decode cX0_milesOfAll 31 = .ok (.ireturn, 1) := by decide +kernel
theorem dX0_goOn_0 : decode cX0_goOn 0 = .ok (.aload_n 0, 1) := by decide +kernel
theorem dX0_goOn_1 : decode cX0_goOn 1 = .ok (.iload_n 1, 1) := by decide +kernel
theorem dX0_goOn_2 : decode cX0_goOn 2 = .ok (.invokevirtual 58, 3) := by decide +kernel
theorem dX0_goOn_5 : decode cX0_goOn 5 = .ok (.istore_n 2, 1) := by decide +kernel
theorem dX0_goOn_6 : decode cX0_goOn 6 = .ok (.iload_n 2, 1) := by decide +kernel
theorem dX0_goOn_7 : decode cX0_goOn 7 = .ok (.iconst (-1), 1) := by decide +kernel
theorem dX0_goOn_8 : decode cX0_goOn 8 = .ok (.if_icmp .ne 7, 3) := by decide +kernel
theorem dX0_goOn_11 : decode cX0_goOn 11 = .ok (.iconst (-1), 1) := by decide +kernel
theorem dX0_goOn_12 : decode cX0_goOn 12 = .ok (.goto 8, 3) := by decide +kernel
theorem dX0_goOn_15 : decode cX0_goOn 15 = .ok (.iload_n 2, 1) := by decide +kernel
theorem dX0_goOn_16 : decode cX0_goOn 16 = .ok (.iconst 2, 1) := by decide +kernel
theorem dX0_goOn_17 : decode cX0_goOn 17 = .ok (.invokestatic 74, 3) := by decide +kernel
theorem dX0_goOn_20 : decode cX0_goOn 20 = .ok (.ireturn, 1) := by decide +kernel
theorem dX0_goOnOften_0 : decode cX0_goOnOften 0 = .ok (.iload_n 1, 1) := by decide +kernel
theorem dX0_goOnOften_1 : decode cX0_goOnOften 1 = .ok (.istore_n 3, 1) := by decide +kernel
theorem dX0_goOnOften_2 : decode cX0_goOnOften 2 = .ok (.iconst 0, 1) := by decide +kernel
theorem dX0_goOnOften_3 : decode cX0_goOnOften 3 = .ok (.istore 4, 2) := by decide +kernel
theorem dX0_goOnOften_5 : decode cX0_goOnOften 5 = .ok (.iload 4, 2) := by decide +kernel
theorem dX0_goOnOften_7 : decode cX0_goOnOften 7 = .ok (.iload_n 2, 1) := by decide +kernel
theorem dX0_goOnOften_8 : decode cX0_goOnOften 8 = .ok (.if_icmp .ge 15, 3) := by decide +kernel
theorem dX0_goOnOften_11 : decode cX0_goOnOften 11 = .ok (.aload_n 0, 1) := by decide +kernel
theorem dX0_goOnOften_12 : decode cX0_goOnOften 12 = .ok (.iload_n 3, 1) := by decide +kernel
theorem dX0_goOnOften_13 : decode cX0_goOnOften 13 = .ok (.invokevirtual 77, 3) := by decide +kernel
theorem dX0_goOnOften_16 : decode cX0_goOnOften 16 = .ok (.istore_n 3, 1) := by decide +kernel
theorem dX0_goOnOften_17 : decode cX0_goOnOften 17 = .ok (.iinc 4 1, 3) := by decide +kernel
theorem dX0_goOnOften_20 : decode cX0_goOnOften 20 = .ok (.goto (-15), 3) := by decide +kernel
theorem dX0_goOnOften_23 : decode cX0_goOnOften 23 = .ok (.iload_n 3, 1) := by decide +kernel
theorem dX0_goOnOften_24 : decode cX0_goOnOften 24 = .ok (.ireturn, 1) := by decide +kernel
theorem dX0_seenFrom_0 : decode cX0_seenFrom 0 = .ok (.iconst 0, 1) := by decide +kernel
theorem dX0_seenFrom_1 : decode cX0_seenFrom 1 = .ok (.istore_n 2, 1) := by decide +kernel
theorem dX0_seenFrom_2 : decode cX0_seenFrom 2 = .ok (.iload_n 1, 1) := by decide +kernel
theorem dX0_seenFrom_3 : decode cX0_seenFrom 3 = .ok (.istore_n 3, 1) := by decide +kernel
theorem dX0_seenFrom_4 : decode cX0_seenFrom 4 = .ok (.iconst 0, 1) := by decide +kernel
theorem dX0_seenFrom_5 : decode cX0_seenFrom 5 = .ok (.istore 4, 2) := by decide +kernel
theorem dX0_seenFrom_7 : decode cX0_seenFrom 7 = .ok (.iload 4, 2) := by decide +kernel
theorem dX0_seenFrom_9 : decode cX0_seenFrom 9 = .ok (.bipush 64, 2) := by decide +kernel
theorem dX0_seenFrom_11 : decode cX0_seenFrom 11 = .ok (.if_icmp .ge 29, 3) := by decide +kernel
theorem dX0_seenFrom_14 : decode cX0_seenFrom 14 = .ok (.iload_n 3, 1) := by decide +kernel
theorem dX0_seenFrom_15 : decode cX0_seenFrom 15 = .ok (.iconst (-1), 1) := by decide +kernel
theorem dX0_seenFrom_16 : decode cX0_seenFrom 16 = .ok (.if_icmp .eq 24, 3) := by decide +kernel
theorem dX0_seenFrom_19 : decode cX0_seenFrom 19 = .ok (.iload_n 2, 1) := by decide +kernel
theorem dX0_seenFrom_20 : decode cX0_seenFrom 20 = .ok (.iconst 1, 1) := by decide +kernel
theorem dX0_seenFrom_21 : decode cX0_seenFrom 21 = .ok (.iload_n 3, 1) := by decide +kernel
theorem dX0_seenFrom_22 : decode cX0_seenFrom 22 = .ok (.invokestatic 68, 3) := by decide +kernel
theorem dX0_seenFrom_25 : decode cX0_seenFrom 25 = .ok (.ishl, 1) := by decide +kernel
theorem dX0_seenFrom_26 : decode cX0_seenFrom 26 = .ok (.ior, 1) := by decide +kernel
theorem dX0_seenFrom_27 : decode cX0_seenFrom 27 = .ok (.istore_n 2, 1) := by decide +kernel
theorem dX0_seenFrom_28 : decode cX0_seenFrom 28 = .ok (.aload_n 0, 1) := by decide +kernel
theorem dX0_seenFrom_29 : decode cX0_seenFrom 29 = .ok (.iload_n 3, 1) := by decide +kernel
theorem dX0_seenFrom_30 : decode cX0_seenFrom 30 = .ok (.invokevirtual 77, 3) := by decide +kernel
theorem dX0_seenFrom_33 : decode cX0_seenFrom 33 = .ok (.istore_n 3, 1) := by decide +kernel
theorem dX0_seenFrom_34 : decode cX0_seenFrom 34 = .ok (.iinc 4 1, 3) := by decide +kernel
theorem dX0_seenFrom_37 : decode cX0_seenFrom 37 = .ok (.goto (-30), 3) := by decide +kernel
theorem dX0_seenFrom_40 : decode cX0_seenFrom 40 = .ok (.iload_n 2, 1) := by decide +kernel
theorem dX0_seenFrom_41 : decode cX0_seenFrom 41 = .ok (.ireturn, 1) := by decide +kernel
theorem dX0_roundCorner_0 : decode cX0_roundCorner 0 = .ok (.lconst 0, 1) := by decide +kernel
theorem dX0_roundCorner_1 : decode cX0_roundCorner 1 = .ok (.lstore_n 2, 1) := by decide +kernel
theorem dX0_roundCorner_2 : decode cX0_roundCorner 2 = .ok (.iload_n 1, 1) := by decide +kernel
theorem dX0_roundCorner_3 : decode cX0_roundCorner 3 = .ok (.istore 4, 2) := by decide +kernel
theorem dX0_roundCorner_5 : decode cX0_roundCorner 5 = .ok (.iconst 0, 1) := by decide +kernel
theorem dX0_roundCorner_6 : decode cX0_roundCorner 6 = .ok (.istore 5, 2) := by decide +kernel
theorem dX0_roundCorner_8 : decode cX0_roundCorner 8 = .ok (.iload 5, 2) := by decide +kernel
theorem dX0_roundCorner_10 : decode cX0_roundCorner 10 = .ok (.bipush 64, 2) := by decide +kernel
theorem dX0_roundCorner_12 : decode cX0_roundCorner 12 = .ok (.if_icmp .ge 48, 3) := by decide +kernel
theorem dX0_roundCorner_15 : decode cX0_roundCorner 15 = .ok (.lload_n 2, 1) := by decide +kernel
theorem dX0_roundCorner_16 : decode cX0_roundCorner 16 = .ok (.lconst 1, 1) := by decide +kernel
theorem dX0_roundCorner_17 : decode cX0_roundCorner 17 = .ok (.iload 4, 2) := by decide +kernel
theorem dX0_roundCorner_19 : decode cX0_roundCorner 19 = .ok (.lshl, 1) := by decide +kernel
theorem dX0_roundCorner_20 : decode cX0_roundCorner 20 = .ok (.lor, 1) := by decide +kernel
theorem dX0_roundCorner_21 : decode cX0_roundCorner 21 = .ok (.lstore_n 2, 1) := by decide +kernel
theorem dX0_roundCorner_22 : decode cX0_roundCorner 22 = .ok (.aload_n 0, 1) := by decide +kernel
theorem dX0_roundCorner_23 : decode cX0_roundCorner 23 = .ok (.iload 4, 2) := by decide +kernel
theorem dX0_roundCorner_25 : decode cX0_roundCorner 25 = .ok (.invokevirtual 58, 3) := by decide +kernel
theorem dX0_roundCorner_28 : decode cX0_roundCorner 28 = .ok (.istore 6, 2) := by decide +kernel
theorem dX0_roundCorner_30 : decode cX0_roundCorner 30 = .ok (.iload 6, 2) := by decide +kernel
theorem dX0_roundCorner_32 : decode cX0_roundCorner 32 = .ok (.iconst (-1), 1) := by decide +kernel
theorem dX0_roundCorner_33 : decode cX0_roundCorner 33 = .ok (.if_icmp .ne 5, 3) := by decide +kernel
theorem dX0_roundCorner_36 : decode cX0_roundCorner 36 = .ok (.lconst 0, 1) := by decide +kernel
theorem dX0_roundCorner_37 : decode cX0_roundCorner 37 = .ok (.lreturn, 1) := by decide +kernel
theorem dX0_roundCorner_38 : decode cX0_roundCorner 38 = .ok (.iload 6, 2) := by decide +kernel
theorem dX0_roundCorner_40 : decode cX0_roundCorner 40 = .ok (.iconst 3, 1) := by decide +kernel
theorem dX0_roundCorner_41 : decode cX0_roundCorner 41 = .ok (.invokestatic 74, 3) := by decide +kernel
theorem dX0_roundCorner_44 : decode cX0_roundCorner 44 = .ok (.istore 4, 2) := by decide +kernel
theorem dX0_roundCorner_46 : decode cX0_roundCorner 46 = .ok (.iload 4, 2) := by decide +kernel
theorem dX0_roundCorner_48 : decode cX0_roundCorner 48 = .ok (.iload_n 1, 1) := by decide +kernel
theorem dX0_roundCorner_49 : decode cX0_roundCorner 49 = .ok (.if_icmp .ne 5, 3) := by decide +kernel
theorem dX0_roundCorner_52 : decode cX0_roundCorner 52 = .ok (.lload_n 2, 1) := by decide +kernel
theorem dX0_roundCorner_53 : decode cX0_roundCorner 53 = .ok (.lreturn, 1) := by decide +kernel
theorem dX0_roundCorner_54 : decode cX0_roundCorner 54 = .ok (.iinc 5 1, 3) := by decide +kernel
theorem dX0_roundCorner_57 : decode cX0_roundCorner 57 = .ok (.goto (-49), 3) := by decide +kernel
theorem dX0_roundCorner_60 : decode cX0_roundCorner 60 = .ok (.lconst 0, 1) := by decide +kernel
theorem dX0_roundCorner_61 : decode cX0_roundCorner 61 = .ok (.lreturn, 1) := by decide +kernel
theorem dX0_sumOfCorners_0 : decode cX0_sumOfCorners 0 = .ok (.lconst 0, 1) := by decide +kernel
theorem dX0_sumOfCorners_1 : decode cX0_sumOfCorners 1 = .ok (.lstore_n 3, 1) := by decide +kernel
theorem dX0_sumOfCorners_2 : decode cX0_sumOfCorners 2 = .ok (.iconst 0, 1) := by decide +kernel
theorem dX0_sumOfCorners_3 : decode cX0_sumOfCorners 3 = .ok (.istore 5, 2) := by decide +kernel
theorem dX0_sumOfCorners_5 : decode cX0_sumOfCorners 5 = .ok (.iconst 0, 1) := by decide +kernel
theorem dX0_sumOfCorners_6 : decode cX0_sumOfCorners 6 = .ok (.istore 6, 2) := by decide +kernel
theorem dX0_sumOfCorners_8 : decode cX0_sumOfCorners 8 = .ok (.iload 6, 2) := by decide +kernel
theorem dX0_sumOfCorners_10 : decode cX0_sumOfCorners 10 = .ok (.aload_n 0, 1) := by decide +kernel
theorem dX0_sumOfCorners_11 : decode cX0_sumOfCorners 11 = .ok (.invokevirtual 54, 3) := by decide +kernel
theorem dX0_sumOfCorners_14 : decode cX0_sumOfCorners 14 = .ok (.if_icmp .ge 58, 3) := by decide +kernel
theorem dX0_sumOfCorners_17 : decode cX0_sumOfCorners 17 = .ok (.lload_n 3, 1) := by decide +kernel
theorem dX0_sumOfCorners_18 : decode cX0_sumOfCorners 18 = .ok (.iload 6, 2) := by decide +kernel
theorem dX0_sumOfCorners_20 : decode cX0_sumOfCorners 20 = .ok (.lshr, 1) := by decide +kernel
theorem dX0_sumOfCorners_21 : decode cX0_sumOfCorners 21 = .ok (.lconst 1, 1) := by decide +kernel
theorem dX0_sumOfCorners_22 : decode cX0_sumOfCorners 22 = .ok (.land, 1) := by decide +kernel
theorem dX0_sumOfCorners_23 : decode cX0_sumOfCorners 23 = .ok (.lconst 0, 1) := by decide +kernel
theorem dX0_sumOfCorners_24 : decode cX0_sumOfCorners 24 = .ok (.lcmp, 1) := by decide +kernel
theorem dX0_sumOfCorners_25 : decode cX0_sumOfCorners 25 = .ok (.ifCond .ne 41, 3) := by decide +kernel
theorem dX0_sumOfCorners_28 : decode cX0_sumOfCorners 28 = .ok (.aload_n 0, 1) := by decide +kernel
theorem dX0_sumOfCorners_29 : decode cX0_sumOfCorners 29 = .ok (.iload 6, 2) := by decide +kernel
theorem dX0_sumOfCorners_31 : decode cX0_sumOfCorners 31 = .ok (.invokevirtual 80, 3) := by decide +kernel
theorem dX0_sumOfCorners_34 : decode cX0_sumOfCorners 34 = .ok (.lstore 7, 2) := by decide +kernel
theorem dX0_sumOfCorners_36 : decode cX0_sumOfCorners 36 = .ok (.iload 5, 2) := by decide +kernel
theorem dX0_sumOfCorners_38 : decode cX0_sumOfCorners 38 = .ok (.lload 7, 2) := by decide +kernel
theorem dX0_sumOfCorners_40 : decode cX0_sumOfCorners 40 = .ok (.lconst 0, 1) := by decide +kernel
theorem dX0_sumOfCorners_41 : decode cX0_sumOfCorners 41 = .ok (.lcmp, 1) := by decide +kernel
theorem dX0_sumOfCorners_42 : decode cX0_sumOfCorners 42 = .ok (.ifCond .ne 7, 3) := by decide +kernel
theorem dX0_sumOfCorners_45 : decode cX0_sumOfCorners 45 = .ok (.iconst 0, 1) := by decide +kernel
theorem dX0_sumOfCorners_46 : decode cX0_sumOfCorners 46 = .ok (.goto 12, 3) := by decide +kernel
theorem dX0_sumOfCorners_49 : decode cX0_sumOfCorners 49 = .ok (.iload_n 1, 1) := by decide +kernel
theorem dX0_sumOfCorners_50 : decode cX0_sumOfCorners 50 = .ok (.iload_n 2, 1) := by decide +kernel
theorem dX0_sumOfCorners_51 : decode cX0_sumOfCorners 51 = .ok (.lload 7, 2) := by decide +kernel
theorem dX0_sumOfCorners_53 : decode cX0_sumOfCorners 53 = .ok (.invokestatic 84, 3) := by decide +kernel
theorem dX0_sumOfCorners_56 : decode cX0_sumOfCorners 56 = .ok (.imul, 1) := by decide +kernel
theorem dX0_sumOfCorners_57 : decode cX0_sumOfCorners 57 = .ok (.isub, 1) := by decide +kernel
theorem dX0_sumOfCorners_58 : decode cX0_sumOfCorners 58 = .ok (.iadd, 1) := by decide +kernel
theorem dX0_sumOfCorners_59 : decode cX0_sumOfCorners 59 = .ok (.istore 5, 2) := by decide +kernel
theorem dX0_sumOfCorners_61 : decode cX0_sumOfCorners 61 = .ok (.lload_n 3, 1) := by decide +kernel
theorem dX0_sumOfCorners_62 : decode cX0_sumOfCorners 62 = .ok (.lload 7, 2) := by decide +kernel
theorem dX0_sumOfCorners_64 : decode cX0_sumOfCorners 64 = .ok (.lor, 1) := by decide +kernel
theorem dX0_sumOfCorners_65 : decode cX0_sumOfCorners 65 = .ok (.lstore_n 3, 1) := by decide +kernel
theorem dX0_sumOfCorners_66 : decode cX0_sumOfCorners 66 = .ok (.iinc 6 1, 3) := by decide +kernel
theorem dX0_sumOfCorners_69 : decode cX0_sumOfCorners 69 = .ok (.goto (-61), 3) := by decide +kernel
theorem dX0_sumOfCorners_72 : decode cX0_sumOfCorners 72 = .ok (.iload 5, 2) := by decide +kernel
theorem dX0_sumOfCorners_74 : decode cX0_sumOfCorners 74 = .ok (.ireturn, 1) := by decide +kernel
theorem dX0_spread_0 : decode cX0_spread 0 = .ok (.aload_n 1, 1) := by decide +kernel
theorem dX0_spread_1 : decode cX0_spread 1 = .ok (.ldc 90, 2) := by decide +kernel
theorem dX0_spread_3 : decode cX0_spread 3 = .ok (.invokestatic 91, 3) := by decide +kernel
theorem dX0_spread_6 : decode cX0_spread 6 = .ok (.aload_n 1, 1) := by decide +kernel
theorem dX0_spread_7 : decode cX0_spread 7 = .ok (.iload_n 2, 1) := by decide +kernel
theorem dX0_spread_8 : decode cX0_spread 8 = .ok (.iconst 0, 1) := by decide +kernel
theorem dX0_spread_9 : decode cX0_spread 9 = .ok (.invokestatic 97, 3) := by decide +kernel
theorem dX0_spread_12 : decode cX0_spread 12 = .ok (.pop, 1) := by decide +kernel
theorem dX0_spread_13 : decode cX0_spread 13 = .ok (.iconst 1, 1) := by decide +kernel
theorem dX0_spread_14 : decode cX0_spread 14 = .ok (.istore 4, 2) := by decide +kernel
theorem dX0_spread_16 : decode cX0_spread 16 = .ok (.iconst 0, 1) := by decide +kernel
theorem dX0_spread_17 : decode cX0_spread 17 = .ok (.istore 5, 2) := by decide +kernel
theorem dX0_spread_19 : decode cX0_spread 19 = .ok (.iload 5, 2) := by decide +kernel
theorem dX0_spread_21 : decode cX0_spread 21 = .ok (.bipush 16, 2) := by decide +kernel
theorem dX0_spread_23 : decode cX0_spread 23 = .ok (.if_icmp .ge 92, 3) := by decide +kernel
theorem dX0_spread_26 : decode cX0_spread 26 = .ok (.iload 4, 2) := by decide +kernel
theorem dX0_spread_28 : decode cX0_spread 28 = .ok (.ifCond .eq 87, 3) := by decide +kernel
theorem dX0_spread_31 : decode cX0_spread 31 = .ok (.iconst 0, 1) := by decide +kernel
theorem dX0_spread_32 : decode cX0_spread 32 = .ok (.istore 4, 2) := by decide +kernel
theorem dX0_spread_34 : decode cX0_spread 34 = .ok (.iconst 0, 1) := by decide +kernel
theorem dX0_spread_35 : decode cX0_spread 35 = .ok (.istore 6, 2) := by decide +kernel
theorem dX0_spread_37 : decode cX0_spread 37 = .ok (.iload 6, 2) := by decide +kernel
theorem dX0_spread_39 : decode cX0_spread 39 = .ok (.aload_n 0, 1) := by decide +kernel
theorem dX0_spread_40 : decode cX0_spread 40 = .ok (.invokevirtual 54, 3) := by decide +kernel
theorem dX0_spread_43 : decode cX0_spread 43 = .ok (.if_icmp .ge 66, 3) := by decide +kernel
theorem dX0_spread_46 : decode cX0_spread 46 = .ok (.aload_n 0, 1) := by decide +kernel
theorem dX0_spread_47 : decode cX0_spread 47 = .ok (.iload 6, 2) := by decide +kernel
theorem dX0_spread_49 : decode cX0_spread 49 = .ok (.invokevirtual 77, 3) := by decide +kernel
theorem dX0_spread_52 : decode cX0_spread 52 = .ok (.istore 7, 2) := by decide +kernel
theorem dX0_spread_54 : decode cX0_spread 54 = .ok (.iload 7, 2) := by decide +kernel
theorem dX0_spread_56 : decode cX0_spread 56 = .ok (.iconst (-1), 1) := by decide +kernel
theorem dX0_spread_57 : decode cX0_spread 57 = .ok (.if_icmp .eq 46, 3) := by decide +kernel
theorem dX0_spread_60 : decode cX0_spread 60 = .ok (.iload_n 3, 1) := by decide +kernel
theorem dX0_spread_61 : decode cX0_spread 61 = .ok (.ifCond .eq 15, 3) := by decide +kernel
theorem dX0_spread_64 : decode cX0_spread 64 = .ok (.aload_n 0, 1) := by decide +kernel
theorem dX0_spread_65 : decode cX0_spread 65 = .ok (.iload 7, 2) := by decide +kernel
theorem dX0_spread_67 : decode cX0_spread 67 = .ok (.invokestatic 68, 3) := by decide +kernel
theorem dX0_spread_70 : decode cX0_spread 70 = .ok (.invokevirtual 101, 3) := by decide +kernel
theorem dX0_spread_73 : decode cX0_spread 73 = .ok (.goto 4, 3) := by decide +kernel
theorem dX0_spread_76 : decode cX0_spread 76 = .ok (.iconst 1, 1) := by decide +kernel
theorem dX0_spread_77 : decode cX0_spread 77 = .ok (.istore 8, 2) := by decide +kernel
theorem dX0_spread_79 : decode cX0_spread 79 = .ok (.iload 4, 2) := by decide +kernel
theorem dX0_spread_81 : decode cX0_spread 81 = .ok (.aload_n 1, 1) := by decide +kernel
theorem dX0_spread_82 : decode cX0_spread 82 = .ok (.iload 7, 2) := by decide +kernel
theorem dX0_spread_84 : decode cX0_spread 84 = .ok (.invokestatic 68, 3) := by decide +kernel
theorem dX0_spread_87 : decode cX0_spread 87 = .ok (.aload_n 1, 1) := by decide +kernel
theorem dX0_spread_88 : decode cX0_spread 88 = .ok (.iload 6, 2) := by decide +kernel
theorem dX0_spread_90 : decode cX0_spread 90 = .ok (.invokestatic 68, 3) := by decide +kernel
theorem dX0_spread_93 : decode cX0_spread 93 = .ok (.iaload, 1) := by decide +kernel
theorem dX0_spread_94 : decode cX0_spread 94 = .ok (.iload 8, 2) := by decide +kernel
theorem dX0_spread_96 : decode cX0_spread 96 = .ok (.iadd, 1) := by decide +kernel
theorem dX0_spread_97 : decode cX0_spread 97 = .ok (.invokestatic 97, 3) := by decide +kernel
theorem dX0_spread_100 : decode cX0_spread 100 = .ok (.ior, 1) := by decide +kernel
theorem dX0_spread_101 : decode cX0_spread 101 = .ok (.istore 4, 2) := by decide +kernel
theorem dX0_spread_103 : decode cX0_spread 103 = .ok (.iinc 6 1, 3) := by decide +kernel
theorem dX0_spread_106 : decode cX0_spread 106 = .ok (.goto (-69), 3) := by decide +kernel
theorem dX0_spread_109 : decode cX0_spread 109 = .ok (.iinc 5 1, 3) := by decide +kernel
theorem dX0_spread_112 : decode cX0_spread 112 = .ok (.goto (-93), 3) := by decide +kernel
theorem dX0_spread_115 : decode cX0_spread 115 = .ok (.return_, 1) := by decide +kernel
theorem dX0_spreadTurning_0 : decode cX0_spreadTurning 0 = .ok (.aload_n 1, 1) := by decide +kernel
theorem dX0_spreadTurning_1 : decode cX0_spreadTurning 1 = .ok (.ldc 90, 2) := by decide +kernel
theorem dX0_spreadTurning_3 : decode cX0_spreadTurning 3 = .ok (.invokestatic 91, 3) := by decide +kernel
theorem dX0_spreadTurning_6 : decode cX0_spreadTurning 6 = .ok (.aload_n 1, 1) := by decide +kernel
theorem dX0_spreadTurning_7 : decode cX0_spreadTurning 7 = .ok (.iload_n 2, 1) := by decide +kernel
theorem dX0_spreadTurning_8 : decode cX0_spreadTurning 8 = .ok (.iconst 0, 1) := by decide +kernel
theorem dX0_spreadTurning_9 : decode cX0_spreadTurning 9 = .ok (.invokestatic 97, 3) := by decide +kernel
theorem dX0_spreadTurning_12 : decode cX0_spreadTurning 12 = .ok (.pop, 1) := by decide +kernel
theorem dX0_spreadTurning_13 : decode cX0_spreadTurning 13 = .ok (.iconst 1, 1) := by decide +kernel
theorem dX0_spreadTurning_14 : decode cX0_spreadTurning 14 = .ok (.istore_n 3, 1) := by decide +kernel
theorem dX0_spreadTurning_15 : decode cX0_spreadTurning 15 = .ok (.iconst 0, 1) := by decide +kernel
theorem dX0_spreadTurning_16 : decode cX0_spreadTurning 16 = .ok (.istore 4, 2) := by decide +kernel
theorem dX0_spreadTurning_18 : decode cX0_spreadTurning 18 = .ok (.iload 4, 2) := by decide +kernel
theorem dX0_spreadTurning_20 : decode cX0_spreadTurning 20 = .ok (.bipush 64, 2) := by decide +kernel
theorem dX0_spreadTurning_22 : decode cX0_spreadTurning 22 = .ok (.if_icmp .ge 88, 3) := by decide +kernel
theorem dX0_spreadTurning_25 : decode cX0_spreadTurning 25 = .ok (.iload_n 3, 1) := by decide +kernel
theorem dX0_spreadTurning_26 : decode cX0_spreadTurning 26 = .ok (.ifCond .eq 84, 3) := by decide +kernel
theorem dX0_spreadTurning_29 : decode cX0_spreadTurning 29 = .ok (.iconst 0, 1) := by decide +kernel
theorem dX0_spreadTurning_30 : decode cX0_spreadTurning 30 = .ok (.istore_n 3, 1) := by decide +kernel
theorem dX0_spreadTurning_31 : decode cX0_spreadTurning 31 = .ok (.iconst 0, 1) := by decide +kernel
theorem dX0_spreadTurning_32 : decode cX0_spreadTurning 32 = .ok (.istore 5, 2) := by decide +kernel
theorem dX0_spreadTurning_34 : decode cX0_spreadTurning 34 = .ok (.iload 5, 2) := by decide +kernel
theorem dX0_spreadTurning_36 : decode cX0_spreadTurning 36 = .ok (.aload_n 0, 1) := by decide +kernel
theorem dX0_spreadTurning_37 : decode cX0_spreadTurning 37 = .ok (.invokevirtual 54, 3) := by decide +kernel
theorem dX0_spreadTurning_40 : decode cX0_spreadTurning 40 = .ok (.if_icmp .ge 64, 3) := by decide +kernel
theorem dX0_spreadTurning_43 : decode cX0_spreadTurning 43 = .ok (.iload_n 3, 1) := by decide +kernel
theorem dX0_spreadTurning_44 : decode cX0_spreadTurning 44 = .ok (.aload_n 1, 1) := by decide +kernel
theorem dX0_spreadTurning_45 : decode cX0_spreadTurning 45 = .ok (.aload_n 0, 1) := by decide +kernel
theorem dX0_spreadTurning_46 : decode cX0_spreadTurning 46 = .ok (.iload 5, 2) := by decide +kernel
theorem dX0_spreadTurning_48 : decode cX0_spreadTurning 48 = .ok (.invokevirtual 77, 3) := by decide +kernel
theorem dX0_spreadTurning_51 : decode cX0_spreadTurning 51 = .ok (.aload_n 1, 1) := by decide +kernel
theorem dX0_spreadTurning_52 : decode cX0_spreadTurning 52 = .ok (.iload 5, 2) := by decide +kernel
theorem dX0_spreadTurning_54 : decode cX0_spreadTurning 54 = .ok (.iaload, 1) := by decide +kernel
theorem dX0_spreadTurning_55 : decode cX0_spreadTurning 55 = .ok (.invokestatic 97, 3) := by decide +kernel
theorem dX0_spreadTurning_58 : decode cX0_spreadTurning 58 = .ok (.ior, 1) := by decide +kernel
theorem dX0_spreadTurning_59 : decode cX0_spreadTurning 59 = .ok (.istore_n 3, 1) := by decide +kernel
theorem dX0_spreadTurning_60 : decode cX0_spreadTurning 60 = .ok (.iload_n 3, 1) := by decide +kernel
theorem dX0_spreadTurning_61 : decode cX0_spreadTurning 61 = .ok (.aload_n 1, 1) := by decide +kernel
theorem dX0_spreadTurning_62 : decode cX0_spreadTurning 62 = .ok (.iload 5, 2) := by decide +kernel
theorem dX0_spreadTurning_64 : decode cX0_spreadTurning 64 = .ok (.iconst 1, 1) := by decide +kernel
theorem dX0_spreadTurning_65 : decode cX0_spreadTurning 65 = .ok (.invokestatic 74, 3) := by decide +kernel
theorem dX0_spreadTurning_68 : decode cX0_spreadTurning 68 = .ok (.aload_n 1, 1) := by decide +kernel
theorem dX0_spreadTurning_69 : decode cX0_spreadTurning 69 = .ok (.iload 5, 2) := by decide +kernel
theorem dX0_spreadTurning_71 : decode cX0_spreadTurning 71 = .ok (.iaload, 1) := by decide +kernel
theorem dX0_spreadTurning_72 : decode cX0_spreadTurning 72 = .ok (.iconst 1, 1) := by decide +kernel
theorem dX0_spreadTurning_73 : decode cX0_spreadTurning 73 = .ok (.iadd, 1) := by decide +kernel
theorem dX0_spreadTurning_74 : decode cX0_spreadTurning 74 = .ok (.invokestatic 97, 3) := by decide +kernel
theorem dX0_spreadTurning_77 : decode cX0_spreadTurning 77 = .ok (.ior, 1) := by decide +kernel
theorem dX0_spreadTurning_78 : decode cX0_spreadTurning 78 = .ok (.istore_n 3, 1) := by decide +kernel
theorem dX0_spreadTurning_79 : decode cX0_spreadTurning 79 = .ok (.iload_n 3, 1) := by decide +kernel
theorem dX0_spreadTurning_80 : decode cX0_spreadTurning 80 = .ok (.aload_n 1, 1) := by decide +kernel
theorem dX0_spreadTurning_81 : decode cX0_spreadTurning 81 = .ok (.iload 5, 2) := by decide +kernel
theorem dX0_spreadTurning_83 : decode cX0_spreadTurning 83 = .ok (.iconst 3, 1) := by decide +kernel
theorem dX0_spreadTurning_84 : decode cX0_spreadTurning 84 = .ok (.invokestatic 74, 3) := by decide +kernel
theorem dX0_spreadTurning_87 : decode cX0_spreadTurning 87 = .ok (.aload_n 1, 1) := by decide +kernel
theorem dX0_spreadTurning_88 : decode cX0_spreadTurning 88 = .ok (.iload 5, 2) := by decide +kernel
theorem dX0_spreadTurning_90 : decode cX0_spreadTurning 90 = .ok (.iaload, 1) := by decide +kernel
theorem dX0_spreadTurning_91 : decode cX0_spreadTurning 91 = .ok (.iconst 1, 1) := by decide +kernel
theorem dX0_spreadTurning_92 : decode cX0_spreadTurning 92 = .ok (.iadd, 1) := by decide +kernel
theorem dX0_spreadTurning_93 : decode cX0_spreadTurning 93 = .ok (.invokestatic 97, 3) := by decide +kernel
theorem dX0_spreadTurning_96 : decode cX0_spreadTurning 96 = .ok (.ior, 1) := by decide +kernel
theorem dX0_spreadTurning_97 : decode cX0_spreadTurning 97 = .ok (.istore_n 3, 1) := by decide +kernel
theorem dX0_spreadTurning_98 : decode cX0_spreadTurning 98 = .ok (.iinc 5 1, 3) := by decide +kernel
theorem dX0_spreadTurning_101 : decode cX0_spreadTurning 101 = .ok (.goto (-67), 3) := by decide +kernel
theorem dX0_spreadTurning_104 : decode cX0_spreadTurning 104 = .ok (.iinc 4 1, 3) := by decide +kernel
theorem dX0_spreadTurning_107 : decode cX0_spreadTurning 107 = .ok (.goto (-89), 3) := by decide +kernel
theorem dX0_spreadTurning_110 : decode cX0_spreadTurning 110 = .ok (.return_, 1) := by decide +kernel
theorem dX0_lower_0 : decode cX0_lower 0 = .ok (.iload_n 1, 1) := by decide +kernel
theorem dX0_lower_1 : decode cX0_lower 1 = .ok (.ifCond .lt 16, 3) := by decide +kernel
theorem dX0_lower_4 : decode cX0_lower 4 = .ok (.iload_n 1, 1) := by decide +kernel
theorem dX0_lower_5 : decode cX0_lower 5 = .ok (.aload_n 0, 1) := by decide +kernel
theorem dX0_lower_6 : decode cX0_lower 6 = .ok (.arraylength, 1) := by decide +kernel
theorem dX0_lower_7 : decode cX0_lower 7 = .ok (.if_icmp .ge 10, 3) := by decide +kernel
theorem dX0_lower_10 : decode cX0_lower 10 = .ok (.aload_n 0, 1) := by decide +kernel
theorem dX0_lower_11 : decode cX0_lower 11 = .ok (.iload_n 1, 1) := by decide +kernel
theorem dX0_lower_12 : decode cX0_lower 12 = .ok (.iaload, 1) := by decide +kernel
theorem dX0_lower_13 : decode cX0_lower 13 = .ok (.iload_n 2, 1) := by decide +kernel
theorem dX0_lower_14 : decode cX0_lower 14 = .ok (.if_icmp .gt 5, 3) := by decide +kernel
theorem dX0_lower_17 : decode cX0_lower 17 = .ok (.iconst 0, 1) := by decide +kernel
theorem dX0_lower_18 : decode cX0_lower 18 = .ok (.ireturn, 1) := by decide +kernel
theorem dX0_lower_19 : decode cX0_lower 19 = .ok (.aload_n 0, 1) := by decide +kernel
theorem dX0_lower_20 : decode cX0_lower 20 = .ok (.iload_n 1, 1) := by decide +kernel
theorem dX0_lower_21 : decode cX0_lower 21 = .ok (.iload_n 2, 1) := by decide +kernel
theorem dX0_lower_22 : decode cX0_lower 22 = .ok (.iastore, 1) := by decide +kernel
theorem dX0_lower_23 : decode cX0_lower 23 = .ok (.iconst 1, 1) := by decide +kernel
theorem dX0_lower_24 : decode cX0_lower 24 = .ok (.ireturn, 1) := by decide +kernel
theorem dX1_init_0 : decode cX1_init 0 = .ok (.aload_n 0, 1) := by decide +kernel
theorem dX1_init_1 : decode cX1_init 1 = .ok (.invokespecial 3, 3) := by decide +kernel
theorem dX1_init_4 : decode cX1_init 4 = .ok (.aload_n 0, 1) := by decide +kernel
theorem dX1_init_5 : decode cX1_init 5 = .ok (.bipush 40, 2) := by decide +kernel
theorem dX1_init_7 : decode cX1_init 7 = .ok (.newarray .long, 2) := by decide +kernel
theorem dX1_init_9 : decode cX1_init 9 = .ok (.putfield 9, 3) := by decide +kernel
theorem dX1_init_12 : decode cX1_init 12 = .ok (.return_, 1) := by decide +kernel
theorem dX1_begin_0 : decode cX1_begin 0 = .ok (.aload_n 0, 1) := by decide +kernel
theorem dX1_begin_1 : decode cX1_begin 1 = .ok (.iload_n 1, 1) := by decide +kernel
theorem dX1_begin_2 : decode cX1_begin 2 = .ok (.putfield 15, 3) := by decide +kernel
theorem dX1_begin_5 : decode cX1_begin 5 = .ok (.aload_n 0, 1) := by decide +kernel
theorem dX1_begin_6 : decode cX1_begin 6 = .ok (.iload_n 2, 1) := by decide +kernel
theorem dX1_begin_7 : decode cX1_begin 7 = .ok (.putfield 19, 3) := by decide +kernel
theorem dX1_begin_10 : decode cX1_begin 10 = .ok (.aload_n 0, 1) := by decide +kernel
theorem dX1_begin_11 : decode cX1_begin 11 = .ok (.getfield 9, 3) := by decide +kernel
theorem dX1_begin_14 : decode cX1_begin 14 = .ok (.lconst 0, 1) := by decide +kernel
theorem dX1_begin_15 : decode cX1_begin 15 = .ok (.invokestatic 22, 3) := by decide +kernel
theorem dX1_begin_18 : decode cX1_begin 18 = .ok (.return_, 1) := by decide +kernel
theorem dX1_hasRow_0 : decode cX1_hasRow 0 = .ok (.iload_n 1, 1) := by decide +kernel
theorem dX1_hasRow_1 : decode cX1_hasRow 1 = .ok (.ifCond .lt 29, 3) := by decide +kernel
theorem dX1_hasRow_4 : decode cX1_hasRow 4 = .ok (.iload_n 2, 1) := by decide +kernel
theorem dX1_hasRow_5 : decode cX1_hasRow 5 = .ok (.ifCond .lt 25, 3) := by decide +kernel
theorem dX1_hasRow_8 : decode cX1_hasRow 8 = .ok (.iload_n 2, 1) := by decide +kernel
theorem dX1_hasRow_9 : decode cX1_hasRow 9 = .ok (.aload_n 0, 1) := by decide +kernel
theorem dX1_hasRow_10 : decode cX1_hasRow 10 = .ok (.getfield 19, 3) := by decide +kernel
theorem dX1_hasRow_13 : decode cX1_hasRow 13 = .ok (.if_icmp .gt 17, 3) := by decide +kernel
theorem dX1_hasRow_16 : decode cX1_hasRow 16 = .ok (.iload_n 1, 1) := by decide +kernel
theorem dX1_hasRow_17 : decode cX1_hasRow 17 = .ok (.aload_n 0, 1) := by decide +kernel
theorem dX1_hasRow_18 : decode cX1_hasRow 18 = .ok (.getfield 19, 3) := by decide +kernel
theorem dX1_hasRow_21 : decode cX1_hasRow 21 = .ok (.iload_n 2, 1) := by decide +kernel
theorem dX1_hasRow_22 : decode cX1_hasRow 22 = .ok (.isub, 1) := by decide +kernel
theorem dX1_hasRow_23 : decode cX1_hasRow 23 = .ok (.if_icmp .gt 7, 3) := by decide +kernel
theorem dX1_hasRow_26 : decode cX1_hasRow 26 = .ok (.iconst 1, 1) := by decide +kernel
theorem dX1_hasRow_27 : decode cX1_hasRow 27 = .ok (.goto 4, 3) := by decide +kernel
theorem dX1_hasRow_30 : decode cX1_hasRow 30 = .ok (.iconst 0, 1) := by decide +kernel
theorem dX1_hasRow_31 : decode cX1_hasRow 31 = .ok (.ireturn, 1) := by decide +kernel
theorem dX1_lowestBits_0 : decode cX1_lowestBits 0 = .ok (.aload_n 0, 1) := by decide +kernel
theorem dX1_lowestBits_1 : decode cX1_lowestBits 1 = .ok (.getfield 15, 3) := by decide +kernel
theorem dX1_lowestBits_4 : decode cX1_lowestBits 4 = .ok (.lookupswitch 38 #[(8, 28), (16, 33)], 28) := by decide +kernel
theorem dX1_lowestBits_32 : decode cX1_lowestBits 32 = .ok (.lload_n 1, 1) := by decide +kernel
theorem dX1_lowestBits_33 : decode cX1_lowestBits 33 = .ok (.l2i, 1) := by decide +kernel
theorem dX1_lowestBits_34 : decode cX1_lowestBits 34 = .ok (.i2b, 1) := by decide +kernel
theorem dX1_lowestBits_35 : decode cX1_lowestBits 35 = .ok (.i2l, 1) := by decide +kernel
theorem dX1_lowestBits_36 : decode cX1_lowestBits 36 = .ok (.lreturn, 1) := by decide +kernel
theorem dX1_lowestBits_37 : decode cX1_lowestBits 37 = .ok (.lload_n 1, 1) := by decide +kernel
theorem dX1_lowestBits_38 : decode cX1_lowestBits 38 = .ok (.l2i, 1) := by decide +kernel
theorem dX1_lowestBits_39 : decode cX1_lowestBits 39 = .ok (.i2s, 1) := by decide +kernel
theorem dX1_lowestBits_40 : decode cX1_lowestBits 40 = .ok (.i2l, 1) := by decide +kernel
theorem dX1_lowestBits_41 : decode cX1_lowestBits 41 = .ok (.lreturn, 1) := by decide +kernel
theorem dX1_lowestBits_42 : decode cX1_lowestBits 42 = .ok (.lload_n 1, 1) := by decide +kernel
theorem dX1_lowestBits_43 : decode cX1_lowestBits 43 = .ok (.lreturn, 1) := by decide +kernel
theorem dX2_init_0 : decode cX2_init 0 = .ok (.aload_n 0, 1) := by decide +kernel
theorem dX2_init_1 : decode cX2_init 1 = .ok (.invokespecial 3, 3) := by decide +kernel
theorem dX2_init_4 : decode cX2_init 4 = .ok (.aload_n 0, 1) := by decide +kernel
theorem dX2_init_5 : decode cX2_init 5 = .ok (.bipush 120, 2) := by decide +kernel
theorem dX2_init_7 : decode cX2_init 7 = .ok (.newarray .int, 2) := by decide +kernel
theorem dX2_init_9 : decode cX2_init 9 = .ok (.putfield 9, 3) := by decide +kernel
theorem dX2_init_12 : decode cX2_init 12 = .ok (.return_, 1) := by decide +kernel
theorem dX2_add_0 : decode cX2_add 0 = .ok (.aload_n 0, 1) := by decide +kernel
theorem dX2_add_1 : decode cX2_add 1 = .ok (.getfield 15, 3) := by decide +kernel
theorem dX2_add_4 : decode cX2_add 4 = .ok (.bipush 120, 2) := by decide +kernel
theorem dX2_add_6 : decode cX2_add 6 = .ok (.if_icmp .ge 23, 3) := by decide +kernel
theorem dX2_add_9 : decode cX2_add 9 = .ok (.aload_n 0, 1) := by decide +kernel
theorem dX2_add_10 : decode cX2_add 10 = .ok (.getfield 9, 3) := by decide +kernel
theorem dX2_add_13 : decode cX2_add 13 = .ok (.aload_n 0, 1) := by decide +kernel
theorem dX2_add_14 : decode cX2_add 14 = .ok (.getfield 15, 3) := by decide +kernel
theorem dX2_add_17 : decode cX2_add 17 = .ok (.iload_n 1, 1) := by decide +kernel
theorem dX2_add_18 : decode cX2_add 18 = .ok (.iastore, 1) := by decide +kernel
theorem dX2_add_19 : decode cX2_add 19 = .ok (.aload_n 0, 1) := by decide +kernel
theorem dX2_add_20 : decode cX2_add 20 = .ok (.dup, 1) := by decide +kernel
theorem dX2_add_21 : decode cX2_add 21 = .ok (.getfield 15, 3) := by decide +kernel
theorem dX2_add_24 : decode cX2_add 24 = .ok (.iconst 1, 1) := by decide +kernel
theorem dX2_add_25 : decode cX2_add 25 = .ok (.iadd, 1) := by decide +kernel
theorem dX2_add_26 : decode cX2_add 26 = .ok (.putfield 15, 3) := by decide +kernel
theorem dX2_add_29 : decode cX2_add 29 = .ok (.return_, 1) := by decide +kernel
theorem dX2_begin_0 : decode cX2_begin 0 = .ok (.aload_n 0, 1) := by decide +kernel
theorem dX2_begin_1 : decode cX2_begin 1 = .ok (.iconst 0, 1) := by decide +kernel
theorem dX2_begin_2 : decode cX2_begin 2 = .ok (.putfield 19, 3) := by decide +kernel
theorem dX2_begin_5 : decode cX2_begin 5 = .ok (.aload_n 0, 1) := by decide +kernel
theorem dX2_begin_6 : decode cX2_begin 6 = .ok (.invokevirtual 22, 3) := by decide +kernel
theorem dX2_begin_9 : decode cX2_begin 9 = .ok (.return_, 1) := by decide +kernel
theorem dX2_advance_0 : decode cX2_advance 0 = .ok (.aload_n 0, 1) := by decide +kernel
theorem dX2_advance_1 : decode cX2_advance 1 = .ok (.aload_n 0, 1) := by decide +kernel
theorem dX2_advance_2 : decode cX2_advance 2 = .ok (.getfield 19, 3) := by decide +kernel
theorem dX2_advance_5 : decode cX2_advance 5 = .ok (.putfield 25, 3) := by decide +kernel
theorem dX2_advance_8 : decode cX2_advance 8 = .ok (.aload_n 0, 1) := by decide +kernel
theorem dX2_advance_9 : decode cX2_advance 9 = .ok (.getfield 25, 3) := by decide +kernel
theorem dX2_advance_12 : decode cX2_advance 12 = .ok (.aload_n 0, 1) := by decide +kernel
theorem dX2_advance_13 : decode cX2_advance 13 = .ok (.getfield 15, 3) := by decide +kernel
theorem dX2_advance_16 : decode cX2_advance 16 = .ok (.if_icmp .ge 30, 3) := by decide +kernel
theorem dX2_advance_19 : decode cX2_advance 19 = .ok (.aload_n 0, 1) := by decide +kernel
theorem dX2_advance_20 : decode cX2_advance 20 = .ok (.getfield 9, 3) := by decide +kernel
theorem dX2_advance_23 : decode cX2_advance 23 = .ok (.aload_n 0, 1) := by decide +kernel
theorem dX2_advance_24 : decode cX2_advance 24 = .ok (.getfield 25, 3) := by decide +kernel
theorem dX2_advance_27 : decode cX2_advance 27 = .ok (.iaload, 1) := by decide +kernel
theorem dX2_advance_28 : decode cX2_advance 28 = .ok (.bipush 32, 2) := by decide +kernel
theorem dX2_advance_30 : decode cX2_advance 30 = .ok (.if_icmp .ne 16, 3) := by decide +kernel
theorem dX2_advance_33 : decode cX2_advance 33 = .ok (.aload_n 0, 1) := by decide +kernel
theorem dX2_advance_34 : decode cX2_advance 34 = .ok (.dup, 1) := by decide +kernel
theorem dX2_advance_35 : decode cX2_advance 35 = .ok (.getfield 25, 3) := by decide +kernel
theorem dX2_advance_38 : decode cX2_advance 38 = .ok (.iconst 1, 1) := by decide +kernel
theorem dX2_advance_39 : decode cX2_advance 39 = .ok (.iadd, 1) := by decide +kernel
theorem dX2_advance_40 : decode cX2_advance 40 = .ok (.putfield 25, 3) := by decide +kernel
theorem dX2_advance_43 : decode cX2_advance 43 = .ok (.goto (-35), 3) := by decide +kernel
theorem dX2_advance_46 : decode cX2_advance 46 = .ok (.aload_n 0, 1) := by decide +kernel
theorem dX2_advance_47 : decode cX2_advance 47 = .ok (.aload_n 0, 1) := by decide +kernel
theorem dX2_advance_48 : decode cX2_advance 48 = .ok (.getfield 25, 3) := by decide +kernel
theorem dX2_advance_51 : decode cX2_advance 51 = .ok (.putfield 19, 3) := by decide +kernel
theorem dX2_advance_54 : decode cX2_advance 54 = .ok (.aload_n 0, 1) := by decide +kernel
theorem dX2_advance_55 : decode cX2_advance 55 = .ok (.iconst 0, 1) := by decide +kernel
theorem dX2_advance_56 : decode cX2_advance 56 = .ok (.putfield 28, 3) := by decide +kernel
theorem dX2_advance_59 : decode cX2_advance 59 = .ok (.aload_n 0, 1) := by decide +kernel
theorem dX2_advance_60 : decode cX2_advance 60 = .ok (.getfield 19, 3) := by decide +kernel
theorem dX2_advance_63 : decode cX2_advance 63 = .ok (.aload_n 0, 1) := by decide +kernel
theorem dX2_advance_64 : decode cX2_advance 64 = .ok (.getfield 15, 3) := by decide +kernel
theorem dX2_advance_67 : decode cX2_advance 67 = .ok (.if_icmp .ge 31, 3) := by decide +kernel
theorem dX2_advance_70 : decode cX2_advance 70 = .ok (.aload_n 0, 1) := by decide +kernel
theorem dX2_advance_71 : decode cX2_advance 71 = .ok (.getfield 9, 3) := by decide +kernel
theorem dX2_advance_74 : decode cX2_advance 74 = .ok (.aload_n 0, 1) := by decide +kernel
theorem dX2_advance_75 : decode cX2_advance 75 = .ok (.getfield 19, 3) := by decide +kernel
theorem dX2_advance_78 : decode cX2_advance 78 = .ok (.iaload, 1) := by decide +kernel
theorem dX2_advance_79 : decode cX2_advance 79 = .ok (.invokestatic 31, 3) := by decide +kernel
theorem dX2_advance_82 : decode cX2_advance 82 = .ok (.ifCond .eq 16, 3) := by decide +kernel
theorem dX2_advance_85 : decode cX2_advance 85 = .ok (.aload_n 0, 1) := by decide +kernel
theorem dX2_advance_86 : decode cX2_advance 86 = .ok (.dup, 1) := by decide +kernel
theorem dX2_advance_87 : decode cX2_advance 87 = .ok (.getfield 19, 3) := by decide +kernel
theorem dX2_advance_90 : decode cX2_advance 90 = .ok (.iconst 1, 1) := by decide +kernel
theorem dX2_advance_91 : decode cX2_advance 91 = .ok (.iadd, 1) := by decide +kernel
theorem dX2_advance_92 : decode cX2_advance 92 = .ok (.putfield 19, 3) := by decide +kernel
theorem dX2_advance_95 : decode cX2_advance 95 = .ok (.goto (-36), 3) := by decide +kernel
theorem dX2_advance_98 : decode cX2_advance 98 = .ok (.aload_n 0, 1) := by decide +kernel
theorem dX2_advance_99 : decode cX2_advance 99 = .ok (.getfield 19, 3) := by decide +kernel
theorem dX2_advance_102 : decode cX2_advance 102 = .ok (.aload_n 0, 1) := by decide +kernel
theorem dX2_advance_103 : decode cX2_advance 103 = .ok (.getfield 25, 3) := by decide +kernel
theorem dX2_advance_106 : decode cX2_advance 106 = .ok (.if_icmp .le 9, 3) := by decide +kernel
theorem dX2_advance_109 : decode cX2_advance 109 = .ok (.aload_n 0, 1) := by decide +kernel
theorem dX2_advance_110 : decode cX2_advance 110 = .ok (.iconst 2, 1) := by decide +kernel
theorem dX2_advance_111 : decode cX2_advance 111 = .ok (.putfield 35, 3) := by decide +kernel
theorem dX2_advance_114 : decode cX2_advance 114 = .ok (.return_, 1) := by decide +kernel
theorem dX2_advance_115 : decode cX2_advance 115 = .ok (.aload_n 0, 1) := by decide +kernel
theorem dX2_advance_116 : decode cX2_advance 116 = .ok (.getfield 19, 3) := by decide +kernel
theorem dX2_advance_119 : decode cX2_advance 119 = .ok (.aload_n 0, 1) := by decide +kernel
theorem dX2_advance_120 : decode cX2_advance 120 = .ok (.getfield 15, 3) := by decide +kernel
theorem dX2_advance_123 : decode cX2_advance 123 = .ok (.if_icmp .ge 61, 3) := by decide +kernel
theorem dX2_advance_126 : decode cX2_advance 126 = .ok (.aload_n 0, 1) := by decide +kernel
theorem dX2_advance_127 : decode cX2_advance 127 = .ok (.getfield 9, 3) := by decide +kernel
theorem dX2_advance_130 : decode cX2_advance 130 = .ok (.aload_n 0, 1) := by decide +kernel
theorem dX2_advance_131 : decode cX2_advance 131 = .ok (.getfield 19, 3) := by decide +kernel
theorem dX2_advance_134 : decode cX2_advance 134 = .ok (.iaload, 1) := by decide +kernel
theorem dX2_advance_135 : decode cX2_advance 135 = .ok (.invokestatic 38, 3) := by decide +kernel
theorem dX2_advance_138 : decode cX2_advance 138 = .ok (.ifCond .eq 46, 3) := by decide +kernel
theorem dX2_advance_141 : decode cX2_advance 141 = .ok (.aload_n 0, 1) := by decide +kernel
theorem dX2_advance_142 : decode cX2_advance 142 = .ok (.aload_n 0, 1) := by decide +kernel
theorem dX2_advance_143 : decode cX2_advance 143 = .ok (.getfield 28, 3) := by decide +kernel
theorem dX2_advance_146 : decode cX2_advance 146 = .ok (.bipush 10, 2) := by decide +kernel
theorem dX2_advance_148 : decode cX2_advance 148 = .ok (.imul, 1) := by decide +kernel
theorem dX2_advance_149 : decode cX2_advance 149 = .ok (.aload_n 0, 1) := by decide +kernel
theorem dX2_advance_150 : decode cX2_advance 150 = .ok (.getfield 9, 3) := by decide +kernel
theorem dX2_advance_153 : decode cX2_advance 153 = .ok (.aload_n 0, 1) := by decide +kernel
theorem dX2_advance_154 : decode cX2_advance 154 = .ok (.getfield 19, 3) := by decide +kernel
theorem dX2_advance_157 : decode cX2_advance 157 = .ok (.iaload, 1) := by decide +kernel
theorem dX2_advance_158 : decode cX2_advance 158 = .ok (.iadd, 1) := by decide +kernel
theorem dX2_advance_159 : decode cX2_advance 159 = .ok (.bipush 48, 2) := by decide +kernel
theorem dX2_advance_161 : decode cX2_advance 161 = .ok (.isub, 1) := by decide +kernel
theorem dX2_advance_162 : decode cX2_advance 162 = .ok (.sipush 1000, 3) := by decide +kernel
theorem dX2_advance_165 : decode cX2_advance 165 = .ok (.invokestatic 41, 3) := by decide +kernel
theorem dX2_advance_168 : decode cX2_advance 168 = .ok (.putfield 28, 3) := by decide +kernel
theorem dX2_advance_171 : decode cX2_advance 171 = .ok (.aload_n 0, 1) := by decide +kernel
theorem dX2_advance_172 : decode cX2_advance 172 = .ok (.dup, 1) := by decide +kernel
theorem dX2_advance_173 : decode cX2_advance 173 = .ok (.getfield 19, 3) := by decide +kernel
theorem dX2_advance_176 : decode cX2_advance 176 = .ok (.iconst 1, 1) := by decide +kernel
theorem dX2_advance_177 : decode cX2_advance 177 = .ok (.iadd, 1) := by decide +kernel
theorem dX2_advance_178 : decode cX2_advance 178 = .ok (.putfield 19, 3) := by decide +kernel
theorem dX2_advance_181 : decode cX2_advance 181 = .ok (.goto (-66), 3) := by decide +kernel
theorem dX2_advance_184 : decode cX2_advance 184 = .ok (.aload_n 0, 1) := by decide +kernel
theorem dX2_advance_185 : decode cX2_advance 185 = .ok (.getfield 19, 3) := by decide +kernel
theorem dX2_advance_188 : decode cX2_advance 188 = .ok (.aload_n 0, 1) := by decide +kernel
theorem dX2_advance_189 : decode cX2_advance 189 = .ok (.getfield 25, 3) := by decide +kernel
theorem dX2_advance_192 : decode cX2_advance 192 = .ok (.if_icmp .le 9, 3) := by decide +kernel
theorem dX2_advance_195 : decode cX2_advance 195 = .ok (.aload_n 0, 1) := by decide +kernel
theorem dX2_advance_196 : decode cX2_advance 196 = .ok (.iconst 3, 1) := by decide +kernel
theorem dX2_advance_197 : decode cX2_advance 197 = .ok (.putfield 35, 3) := by decide +kernel
theorem dX2_advance_200 : decode cX2_advance 200 = .ok (.return_, 1) := by decide +kernel
theorem dX2_advance_201 : decode cX2_advance 201 = .ok (.aload_n 0, 1) := by decide +kernel
theorem dX2_advance_202 : decode cX2_advance 202 = .ok (.getfield 25, 3) := by decide +kernel
theorem dX2_advance_205 : decode cX2_advance 205 = .ok (.aload_n 0, 1) := by decide +kernel
theorem dX2_advance_206 : decode cX2_advance 206 = .ok (.getfield 15, 3) := by decide +kernel
theorem dX2_advance_209 : decode cX2_advance 209 = .ok (.if_icmp .lt 9, 3) := by decide +kernel
theorem dX2_advance_212 : decode cX2_advance 212 = .ok (.aload_n 0, 1) := by decide +kernel
theorem dX2_advance_213 : decode cX2_advance 213 = .ok (.iconst 0, 1) := by decide +kernel
theorem dX2_advance_214 : decode cX2_advance 214 = .ok (.putfield 35, 3) := by decide +kernel
theorem dX2_advance_217 : decode cX2_advance 217 = .ok (.return_, 1) := by decide +kernel
theorem dX2_advance_218 : decode cX2_advance 218 = .ok (.aload_n 0, 1) := by decide +kernel
theorem dX2_advance_219 : decode cX2_advance 219 = .ok (.aload_n 0, 1) := by decide +kernel
theorem dX2_advance_220 : decode cX2_advance 220 = .ok (.getfield 9, 3) := by decide +kernel
theorem dX2_advance_223 : decode cX2_advance 223 = .ok (.aload_n 0, 1) := by decide +kernel
theorem dX2_advance_224 : decode cX2_advance 224 = .ok (.getfield 25, 3) := by decide +kernel
theorem dX2_advance_227 : decode cX2_advance 227 = .ok (.iaload, 1) := by decide +kernel
theorem dX2_advance_228 : decode cX2_advance 228 = .ok (.bipush 59, 2) := by decide +kernel
theorem dX2_advance_230 : decode cX2_advance 230 = .ok (.if_icmp .ne 7, 3) := by decide +kernel
theorem dX2_advance_233 : decode cX2_advance 233 = .ok (.iconst 1, 1) := by decide +kernel
theorem dX2_advance_234 : decode cX2_advance 234 = .ok (.goto 4, 3) := by decide +kernel
theorem dX2_advance_237 : decode cX2_advance 237 = .ok (.iconst 4, 1) := by decide +kernel
theorem dX2_advance_238 : decode cX2_advance 238 = .ok (.putfield 35, 3) := by decide +kernel
theorem dX2_advance_241 : decode cX2_advance 241 = .ok (.aload_n 0, 1) := by decide +kernel
theorem dX2_advance_242 : decode cX2_advance 242 = .ok (.dup, 1) := by decide +kernel
theorem dX2_advance_243 : decode cX2_advance 243 = .ok (.getfield 19, 3) := by decide +kernel
theorem dX2_advance_246 : decode cX2_advance 246 = .ok (.iconst 1, 1) := by decide +kernel
theorem dX2_advance_247 : decode cX2_advance 247 = .ok (.iadd, 1) := by decide +kernel
theorem dX2_advance_248 : decode cX2_advance 248 = .ok (.putfield 19, 3) := by decide +kernel
theorem dX2_advance_251 : decode cX2_advance 251 = .ok (.return_, 1) := by decide +kernel
theorem dX2_isNumberBelow_0 : decode cX2_isNumberBelow 0 = .ok (.aload_n 0, 1) := by decide +kernel
theorem dX2_isNumberBelow_1 : decode cX2_isNumberBelow 1 = .ok (.getfield 35, 3) := by decide +kernel
theorem dX2_isNumberBelow_4 : decode cX2_isNumberBelow 4 = .ok (.iconst 3, 1) := by decide +kernel
theorem dX2_isNumberBelow_5 : decode cX2_isNumberBelow 5 = .ok (.if_icmp .ne 15, 3) := by decide +kernel
theorem dX2_isNumberBelow_8 : decode cX2_isNumberBelow 8 = .ok (.aload_n 0, 1) := by decide +kernel
theorem dX2_isNumberBelow_9 : decode cX2_isNumberBelow 9 = .ok (.getfield 28, 3) := by decide +kernel
theorem dX2_isNumberBelow_12 : decode cX2_isNumberBelow 12 = .ok (.iload_n 1, 1) := by decide +kernel
theorem dX2_isNumberBelow_13 : decode cX2_isNumberBelow 13 = .ok (.if_icmp .ge 7, 3) := by decide +kernel
theorem dX2_isNumberBelow_16 : decode cX2_isNumberBelow 16 = .ok (.iconst 1, 1) := by decide +kernel
theorem dX2_isNumberBelow_17 : decode cX2_isNumberBelow 17 = .ok (.goto 4, 3) := by decide +kernel
theorem dX2_isNumberBelow_20 : decode cX2_isNumberBelow 20 = .ok (.iconst 0, 1) := by decide +kernel
theorem dX2_isNumberBelow_21 : decode cX2_isNumberBelow 21 = .ok (.ireturn, 1) := by decide +kernel
theorem dX2_isWord_0 : decode cX2_isWord 0 = .ok (.aload_n 0, 1) := by decide +kernel
theorem dX2_isWord_1 : decode cX2_isWord 1 = .ok (.getfield 35, 3) := by decide +kernel
theorem dX2_isWord_4 : decode cX2_isWord 4 = .ok (.iconst 2, 1) := by decide +kernel
theorem dX2_isWord_5 : decode cX2_isWord 5 = .ok (.if_icmp .ne 19, 3) := by decide +kernel
theorem dX2_isWord_8 : decode cX2_isWord 8 = .ok (.aload_n 0, 1) := by decide +kernel
theorem dX2_isWord_9 : decode cX2_isWord 9 = .ok (.getfield 19, 3) := by decide +kernel
theorem dX2_isWord_12 : decode cX2_isWord 12 = .ok (.aload_n 0, 1) := by decide +kernel
theorem dX2_isWord_13 : decode cX2_isWord 13 = .ok (.getfield 25, 3) := by decide +kernel
theorem dX2_isWord_16 : decode cX2_isWord 16 = .ok (.isub, 1) := by decide +kernel
theorem dX2_isWord_17 : decode cX2_isWord 17 = .ok (.aload_n 1, 1) := by decide +kernel
theorem dX2_isWord_18 : decode cX2_isWord 18 = .ok (.invokevirtual 47, 3) := by decide +kernel
theorem dX2_isWord_21 : decode cX2_isWord 21 = .ok (.if_icmp .eq 5, 3) := by decide +kernel
theorem dX2_isWord_24 : decode cX2_isWord 24 = .ok (.iconst 0, 1) := by decide +kernel
theorem dX2_isWord_25 : decode cX2_isWord 25 = .ok (.ireturn, 1) := by decide +kernel
theorem dX2_isWord_26 : decode cX2_isWord 26 = .ok (.iconst 0, 1) := by decide +kernel
theorem dX2_isWord_27 : decode cX2_isWord 27 = .ok (.istore_n 2, 1) := by decide +kernel
theorem dX2_isWord_28 : decode cX2_isWord 28 = .ok (.iload_n 2, 1) := by decide +kernel
theorem dX2_isWord_29 : decode cX2_isWord 29 = .ok (.aload_n 1, 1) := by decide +kernel
theorem dX2_isWord_30 : decode cX2_isWord 30 = .ok (.invokevirtual 47, 3) := by decide +kernel
theorem dX2_isWord_33 : decode cX2_isWord 33 = .ok (.if_icmp .ge 30, 3) := by decide +kernel
theorem dX2_isWord_36 : decode cX2_isWord 36 = .ok (.aload_n 0, 1) := by decide +kernel
theorem dX2_isWord_37 : decode cX2_isWord 37 = .ok (.getfield 9, 3) := by decide +kernel
theorem dX2_isWord_40 : decode cX2_isWord 40 = .ok (.aload_n 0, 1) := by decide +kernel
theorem dX2_isWord_41 : decode cX2_isWord 41 = .ok (.getfield 25, 3) := by decide +kernel
theorem dX2_isWord_44 : decode cX2_isWord 44 = .ok (.iload_n 2, 1) := by decide +kernel
theorem dX2_isWord_45 : decode cX2_isWord 45 = .ok (.iadd, 1) := by decide +kernel
theorem dX2_isWord_46 : decode cX2_isWord 46 = .ok (.iaload, 1) := by decide +kernel
theorem dX2_isWord_47 : decode cX2_isWord 47 = .ok (.aload_n 1, 1) := by decide +kernel
theorem dX2_isWord_48 : decode cX2_isWord 48 = .ok (.iload_n 2, 1) := by decide +kernel
theorem dX2_isWord_49 : decode cX2_isWord 49 = .ok (.invokevirtual 52, 3) := by decide +kernel
theorem dX2_isWord_52 : decode cX2_isWord 52 = .ok (.if_icmp .eq 5, 3) := by decide +kernel
theorem dX2_isWord_55 : decode cX2_isWord 55 = .ok (.iconst 0, 1) := by decide +kernel
theorem dX2_isWord_56 : decode cX2_isWord 56 = .ok (.ireturn, 1) := by decide +kernel
theorem dX2_isWord_57 : decode cX2_isWord 57 = .ok (.iinc 2 1, 3) := by decide +kernel
theorem dX2_isWord_60 : decode cX2_isWord 60 = .ok (.goto (-32), 3) := by decide +kernel
theorem dX2_isWord_63 : decode cX2_isWord 63 = .ok (.iconst 1, 1) := by decide +kernel
theorem dX2_isWord_64 : decode cX2_isWord 64 = .ok (.ireturn, 1) := by decide +kernel
theorem dX2_isLetter_0 : decode cX2_isLetter 0 = .ok (.iload_n 0, 1) := by decide +kernel
theorem dX2_isLetter_1 : decode cX2_isLetter 1 = .ok (.bipush 97, 2) := by decide +kernel
theorem dX2_isLetter_3 : decode cX2_isLetter 3 = .ok (.if_icmp .lt 13, 3) := by decide +kernel
theorem dX2_isLetter_6 : decode cX2_isLetter 6 = .ok (.iload_n 0, 1) := by decide +kernel
theorem dX2_isLetter_7 : decode cX2_isLetter 7 = .ok (.bipush 122, 2) := by decide +kernel
theorem dX2_isLetter_9 : decode cX2_isLetter 9 = .ok (.if_icmp .gt 7, 3) := by decide +kernel
theorem dX2_isLetter_12 : decode cX2_isLetter 12 = .ok (.iconst 1, 1) := by decide +kernel
theorem dX2_isLetter_13 : decode cX2_isLetter 13 = .ok (.goto 4, 3) := by decide +kernel
theorem dX2_isLetter_16 : decode cX2_isLetter 16 = .ok (.iconst 0, 1) := by decide +kernel
theorem dX2_isLetter_17 : decode cX2_isLetter 17 = .ok (.ireturn, 1) := by decide +kernel
theorem dX2_isDigit_0 : decode cX2_isDigit 0 = .ok (.iload_n 0, 1) := by decide +kernel
theorem dX2_isDigit_1 : decode cX2_isDigit 1 = .ok (.bipush 48, 2) := by decide +kernel
theorem dX2_isDigit_3 : decode cX2_isDigit 3 = .ok (.if_icmp .lt 13, 3) := by decide +kernel
theorem dX2_isDigit_6 : decode cX2_isDigit 6 = .ok (.iload_n 0, 1) := by decide +kernel
theorem dX2_isDigit_7 : decode cX2_isDigit 7 = .ok (.bipush 57, 2) := by decide +kernel
theorem dX2_isDigit_9 : decode cX2_isDigit 9 = .ok (.if_icmp .gt 7, 3) := by decide +kernel
theorem dX2_isDigit_12 : decode cX2_isDigit 12 = .ok (.iconst 1, 1) := by decide +kernel
theorem dX2_isDigit_13 : decode cX2_isDigit 13 = .ok (.goto 4, 3) := by decide +kernel
theorem dX2_isDigit_16 : decode cX2_isDigit 16 = .ok (.iconst 0, 1) := by decide +kernel
theorem dX2_isDigit_17 : decode cX2_isDigit 17 = .ok (.ireturn, 1) := by decide +kernel
theorem dX3_tellAll_0 : decode cX3_tellAll 0 = .ok (.aload_n 0, 1) := by decide +kernel
theorem dX3_tellAll_1 : decode cX3_tellAll 1 = .ok (.invokevirtual 9, 3) := by decide +kernel
theorem dX3_tellAll_4 : decode cX3_tellAll 4 = .ok (.iconst 1, 1) := by decide +kernel
theorem dX3_tellAll_5 : decode cX3_tellAll 5 = .ok (.istore_n 2, 1) := by decide +kernel
theorem dX3_tellAll_6 : decode cX3_tellAll 6 = .ok (.iload_n 2, 1) := by decide +kernel
theorem dX3_tellAll_7 : decode cX3_tellAll 7 = .ok (.bipush 121, 2) := by decide +kernel
theorem dX3_tellAll_9 : decode cX3_tellAll 9 = .ok (.if_icmp .gt 52, 3) := by decide +kernel
theorem dX3_tellAll_12 : decode cX3_tellAll 12 = .ok (.aload_n 0, 1) := by decide +kernel
theorem dX3_tellAll_13 : decode cX3_tellAll 13 = .ok (.aload_n 1, 1) := by decide +kernel
theorem dX3_tellAll_14 : decode cX3_tellAll 14 = .ok (.invokestatic 14, 3) := by decide +kernel
theorem dX3_tellAll_17 : decode cX3_tellAll 17 = .ok (.ifCond .ne 10, 3) := by decide +kernel
theorem dX3_tellAll_20 : decode cX3_tellAll 20 = .ok (.iconst (-1), 1) := by decide +kernel
theorem dX3_tellAll_21 : decode cX3_tellAll 21 = .ok (.aload_n 0, 1) := by decide +kernel
theorem dX3_tellAll_22 : decode cX3_tellAll 22 = .ok (.getfield 20, 3) := by decide +kernel
theorem dX3_tellAll_25 : decode cX3_tellAll 25 = .ok (.isub, 1) := by decide +kernel
theorem dX3_tellAll_26 : decode cX3_tellAll 26 = .ok (.ireturn, 1) := by decide +kernel
theorem dX3_tellAll_27 : decode cX3_tellAll 27 = .ok (.aload_n 0, 1) := by decide +kernel
theorem dX3_tellAll_28 : decode cX3_tellAll 28 = .ok (.getfield 24, 3) := by decide +kernel
theorem dX3_tellAll_31 : decode cX3_tellAll 31 = .ok (.ifCond .ne 5, 3) := by decide +kernel
theorem dX3_tellAll_34 : decode cX3_tellAll 34 = .ok (.iload_n 2, 1) := by decide +kernel
theorem dX3_tellAll_35 : decode cX3_tellAll 35 = .ok (.ireturn, 1) := by decide +kernel
theorem dX3_tellAll_36 : decode cX3_tellAll 36 = .ok (.aload_n 0, 1) := by decide +kernel
theorem dX3_tellAll_37 : decode cX3_tellAll 37 = .ok (.getfield 24, 3) := by decide +kernel
theorem dX3_tellAll_40 : decode cX3_tellAll 40 = .ok (.iconst 1, 1) := by decide +kernel
theorem dX3_tellAll_41 : decode cX3_tellAll 41 = .ok (.if_icmp .eq 10, 3) := by decide +kernel
theorem dX3_tellAll_44 : decode cX3_tellAll 44 = .ok (.iconst (-1), 1) := by decide +kernel
theorem dX3_tellAll_45 : decode cX3_tellAll 45 = .ok (.aload_n 0, 1) := by decide +kernel
theorem dX3_tellAll_46 : decode cX3_tellAll 46 = .ok (.getfield 20, 3) := by decide +kernel
theorem dX3_tellAll_49 : decode cX3_tellAll 49 = .ok (.isub, 1) := by decide +kernel
theorem dX3_tellAll_50 : decode cX3_tellAll 50 = .ok (.ireturn, 1) := by decide +kernel
theorem dX3_tellAll_51 : decode cX3_tellAll 51 = .ok (.aload_n 0, 1) := by decide +kernel
theorem dX3_tellAll_52 : decode cX3_tellAll 52 = .ok (.invokevirtual 27, 3) := by decide +kernel
theorem dX3_tellAll_55 : decode cX3_tellAll 55 = .ok (.iinc 2 1, 3) := by decide +kernel
theorem dX3_tellAll_58 : decode cX3_tellAll 58 = .ok (.goto (-52), 3) := by decide +kernel
theorem dX3_tellAll_61 : decode cX3_tellAll 61 = .ok (.iconst (-1), 1) := by decide +kernel
theorem dX3_tellAll_62 : decode cX3_tellAll 62 = .ok (.aload_n 0, 1) := by decide +kernel
theorem dX3_tellAll_63 : decode cX3_tellAll 63 = .ok (.getfield 20, 3) := by decide +kernel
theorem dX3_tellAll_66 : decode cX3_tellAll 66 = .ok (.isub, 1) := by decide +kernel
theorem dX3_tellAll_67 : decode cX3_tellAll 67 = .ok (.ireturn, 1) := by decide +kernel
theorem dX3_tellItem_0 : decode cX3_tellItem 0 = .ok (.aload_n 0, 1) := by decide +kernel
theorem dX3_tellItem_1 : decode cX3_tellItem 1 = .ok (.ldc 30, 2) := by decide +kernel
theorem dX3_tellItem_3 : decode cX3_tellItem 3 = .ok (.invokevirtual 32, 3) := by decide +kernel
theorem dX3_tellItem_6 : decode cX3_tellItem 6 = .ok (.ifCond .eq 9, 3) := by decide +kernel
theorem dX3_tellItem_9 : decode cX3_tellItem 9 = .ok (.aload_n 0, 1) := by decide +kernel
theorem dX3_tellItem_10 : decode cX3_tellItem 10 = .ok (.aload_n 1, 1) := by decide +kernel
theorem dX3_tellItem_11 : decode cX3_tellItem 11 = .ok (.invokestatic 36, 3) := by decide +kernel
theorem dX3_tellItem_14 : decode cX3_tellItem 14 = .ok (.ireturn, 1) := by decide +kernel
theorem dX3_tellItem_15 : decode cX3_tellItem 15 = .ok (.aload_n 0, 1) := by decide +kernel
theorem dX3_tellItem_16 : decode cX3_tellItem 16 = .ok (.ldc 39, 2) := by decide +kernel
theorem dX3_tellItem_18 : decode cX3_tellItem 18 = .ok (.invokevirtual 32, 3) := by decide +kernel
theorem dX3_tellItem_21 : decode cX3_tellItem 21 = .ok (.ifCond .eq 9, 3) := by decide +kernel
theorem dX3_tellItem_24 : decode cX3_tellItem 24 = .ok (.aload_n 0, 1) := by decide +kernel
theorem dX3_tellItem_25 : decode cX3_tellItem 25 = .ok (.aload_n 1, 1) := by decide +kernel
theorem dX3_tellItem_26 : decode cX3_tellItem 26 = .ok (.invokestatic 41, 3) := by decide +kernel
theorem dX3_tellItem_29 : decode cX3_tellItem 29 = .ok (.ireturn, 1) := by decide +kernel
theorem dX3_tellItem_30 : decode cX3_tellItem 30 = .ok (.aload_n 0, 1) := by decide +kernel
theorem dX3_tellItem_31 : decode cX3_tellItem 31 = .ok (.ldc 44, 2) := by decide +kernel
theorem dX3_tellItem_33 : decode cX3_tellItem 33 = .ok (.invokevirtual 32, 3) := by decide +kernel
theorem dX3_tellItem_36 : decode cX3_tellItem 36 = .ok (.ifCond .eq 9, 3) := by decide +kernel
theorem dX3_tellItem_39 : decode cX3_tellItem 39 = .ok (.aload_n 0, 1) := by decide +kernel
theorem dX3_tellItem_40 : decode cX3_tellItem 40 = .ok (.aload_n 1, 1) := by decide +kernel
theorem dX3_tellItem_41 : decode cX3_tellItem 41 = .ok (.invokestatic 46, 3) := by decide +kernel
theorem dX3_tellItem_44 : decode cX3_tellItem 44 = .ok (.ireturn, 1) := by decide +kernel
theorem dX3_tellItem_45 : decode cX3_tellItem 45 = .ok (.aload_n 0, 1) := by decide +kernel
theorem dX3_tellItem_46 : decode cX3_tellItem 46 = .ok (.aload_n 1, 1) := by decide +kernel
theorem dX3_tellItem_47 : decode cX3_tellItem 47 = .ok (.invokestatic 49, 3) := by decide +kernel
theorem dX3_tellItem_50 : decode cX3_tellItem 50 = .ok (.ireturn, 1) := by decide +kernel
theorem dX3_tellField_0 : decode cX3_tellField 0 = .ok (.aload_n 1, 1) := by decide +kernel
theorem dX3_tellField_1 : decode cX3_tellField 1 = .ok (.getfield 52, 3) := by decide +kernel
theorem dX3_tellField_4 : decode cX3_tellField 4 = .ok (.bipush 16, 2) := by decide +kernel
theorem dX3_tellField_6 : decode cX3_tellField 6 = .ok (.if_icmp .lt 5, 3) := by decide +kernel
theorem dX3_tellField_9 : decode cX3_tellField 9 = .ok (.iconst 0, 1) := by decide +kernel
theorem dX3_tellField_10 : decode cX3_tellField 10 = .ok (.ireturn, 1) := by decide +kernel
theorem dX3_tellField_11 : decode cX3_tellField 11 = .ok (.aload_n 0, 1) := by decide +kernel
theorem dX3_tellField_12 : decode cX3_tellField 12 = .ok (.invokevirtual 27, 3) := by decide +kernel
theorem dX3_tellField_15 : decode cX3_tellField 15 = .ok (.iconst 0, 1) := by decide +kernel
theorem dX3_tellField_16 : decode cX3_tellField 16 = .ok (.istore_n 2, 1) := by decide +kernel
theorem dX3_tellField_17 : decode cX3_tellField 17 = .ok (.aload_n 0, 1) := by decide +kernel
theorem dX3_tellField_18 : decode cX3_tellField 18 = .ok (.ldc 57, 2) := by decide +kernel
theorem dX3_tellField_20 : decode cX3_tellField 20 = .ok (.invokevirtual 32, 3) := by decide +kernel
theorem dX3_tellField_23 : decode cX3_tellField 23 = .ok (.ifCond .eq 27, 3) := by decide +kernel
theorem dX3_tellField_26 : decode cX3_tellField 26 = .ok (.aload_n 0, 1) := by decide +kernel
theorem dX3_tellField_27 : decode cX3_tellField 27 = .ok (.invokevirtual 27, 3) := by decide +kernel
theorem dX3_tellField_30 : decode cX3_tellField 30 = .ok (.aload_n 0, 1) := by decide +kernel
theorem dX3_tellField_31 : decode cX3_tellField 31 = .ok (.bipush 10, 2) := by decide +kernel
theorem dX3_tellField_33 : decode cX3_tellField 33 = .ok (.invokevirtual 59, 3) := by decide +kernel
theorem dX3_tellField_36 : decode cX3_tellField 36 = .ok (.ifCond .ne 5, 3) := by decide +kernel
theorem dX3_tellField_39 : decode cX3_tellField 39 = .ok (.iconst 0, 1) := by decide +kernel
theorem dX3_tellField_40 : decode cX3_tellField 40 = .ok (.ireturn, 1) := by decide +kernel
theorem dX3_tellField_41 : decode cX3_tellField 41 = .ok (.aload_n 0, 1) := by decide +kernel
theorem dX3_tellField_42 : decode cX3_tellField 42 = .ok (.getfield 63, 3) := by decide +kernel
theorem dX3_tellField_45 : decode cX3_tellField 45 = .ok (.istore_n 2, 1) := by decide +kernel
theorem dX3_tellField_46 : decode cX3_tellField 46 = .ok (.aload_n 0, 1) := by decide +kernel
theorem dX3_tellField_47 : decode cX3_tellField 47 = .ok (.invokevirtual 27, 3) := by decide +kernel
theorem dX3_tellField_50 : decode cX3_tellField 50 = .ok (.aload_n 1, 1) := by decide +kernel
theorem dX3_tellField_51 : decode cX3_tellField 51 = .ok (.iload_n 2, 1) := by decide +kernel
theorem dX3_tellField_52 : decode cX3_tellField 52 = .ok (.invokevirtual 66, 3) := by decide +kernel
theorem dX3_tellField_55 : decode cX3_tellField 55 = .ok (.pop, 1) := by decide +kernel
theorem dX3_tellField_56 : decode cX3_tellField 56 = .ok (.iconst 1, 1) := by decide +kernel
theorem dX3_tellField_57 : decode cX3_tellField 57 = .ok (.ireturn, 1) := by decide +kernel
theorem dX3_tellGlue_0 : decode cX3_tellGlue 0 = .ok (.aload_n 0, 1) := by decide +kernel
theorem dX3_tellGlue_1 : decode cX3_tellGlue 1 = .ok (.invokevirtual 27, 3) := by decide +kernel
theorem dX3_tellGlue_4 : decode cX3_tellGlue 4 = .ok (.aload_n 0, 1) := by decide +kernel
theorem dX3_tellGlue_5 : decode cX3_tellGlue 5 = .ok (.aload_n 1, 1) := by decide +kernel
theorem dX3_tellGlue_6 : decode cX3_tellGlue 6 = .ok (.invokestatic 70, 3) := by decide +kernel
theorem dX3_tellGlue_9 : decode cX3_tellGlue 9 = .ok (.istore_n 2, 1) := by decide +kernel
theorem dX3_tellGlue_10 : decode cX3_tellGlue 10 = .ok (.iload_n 2, 1) := by decide +kernel
theorem dX3_tellGlue_11 : decode cX3_tellGlue 11 = .ok (.iconst (-1), 1) := by decide +kernel
theorem dX3_tellGlue_12 : decode cX3_tellGlue 12 = .ok (.if_icmp .eq 11, 3) := by decide +kernel
theorem dX3_tellGlue_15 : decode cX3_tellGlue 15 = .ok (.aload_n 1, 1) := by decide +kernel
theorem dX3_tellGlue_16 : decode cX3_tellGlue 16 = .ok (.iload_n 2, 1) := by decide +kernel
theorem dX3_tellGlue_17 : decode cX3_tellGlue 17 = .ok (.invokevirtual 74, 3) := by decide +kernel
theorem dX3_tellGlue_20 : decode cX3_tellGlue 20 = .ok (.ifCond .ne 5, 3) := by decide +kernel
theorem dX3_tellGlue_23 : decode cX3_tellGlue 23 = .ok (.iconst 0, 1) := by decide +kernel
theorem dX3_tellGlue_24 : decode cX3_tellGlue 24 = .ok (.ireturn, 1) := by decide +kernel
theorem dX3_tellGlue_25 : decode cX3_tellGlue 25 = .ok (.aload_n 0, 1) := by decide +kernel
theorem dX3_tellGlue_26 : decode cX3_tellGlue 26 = .ok (.invokevirtual 27, 3) := by decide +kernel
theorem dX3_tellGlue_29 : decode cX3_tellGlue 29 = .ok (.aload_n 0, 1) := by decide +kernel
theorem dX3_tellGlue_30 : decode cX3_tellGlue 30 = .ok (.aload_n 1, 1) := by decide +kernel
theorem dX3_tellGlue_31 : decode cX3_tellGlue 31 = .ok (.invokestatic 70, 3) := by decide +kernel
theorem dX3_tellGlue_34 : decode cX3_tellGlue 34 = .ok (.istore_n 3, 1) := by decide +kernel
theorem dX3_tellGlue_35 : decode cX3_tellGlue 35 = .ok (.iload_n 3, 1) := by decide +kernel
theorem dX3_tellGlue_36 : decode cX3_tellGlue 36 = .ok (.iconst (-1), 1) := by decide +kernel
theorem dX3_tellGlue_37 : decode cX3_tellGlue 37 = .ok (.if_icmp .eq 16, 3) := by decide +kernel
theorem dX3_tellGlue_40 : decode cX3_tellGlue 40 = .ok (.aload_n 1, 1) := by decide +kernel
theorem dX3_tellGlue_41 : decode cX3_tellGlue 41 = .ok (.iload_n 3, 1) := by decide +kernel
theorem dX3_tellGlue_42 : decode cX3_tellGlue 42 = .ok (.invokevirtual 74, 3) := by decide +kernel
theorem dX3_tellGlue_45 : decode cX3_tellGlue 45 = .ok (.ifCond .eq 8, 3) := by decide +kernel
theorem dX3_tellGlue_48 : decode cX3_tellGlue 48 = .ok (.iload_n 3, 1) := by decide +kernel
theorem dX3_tellGlue_49 : decode cX3_tellGlue 49 = .ok (.iload_n 2, 1) := by decide +kernel
theorem dX3_tellGlue_50 : decode cX3_tellGlue 50 = .ok (.if_icmp .ne 5, 3) := by decide +kernel
theorem dX3_tellGlue_53 : decode cX3_tellGlue 53 = .ok (.iconst 0, 1) := by decide +kernel
theorem dX3_tellGlue_54 : decode cX3_tellGlue 54 = .ok (.ireturn, 1) := by decide +kernel
theorem dX3_tellGlue_55 : decode cX3_tellGlue 55 = .ok (.aload_n 0, 1) := by decide +kernel
theorem dX3_tellGlue_56 : decode cX3_tellGlue 56 = .ok (.invokevirtual 27, 3) := by decide +kernel
theorem dX3_tellGlue_59 : decode cX3_tellGlue 59 = .ok (.aload_n 1, 1) := by decide +kernel
theorem dX3_tellGlue_60 : decode cX3_tellGlue 60 = .ok (.iload_n 2, 1) := by decide +kernel
theorem dX3_tellGlue_61 : decode cX3_tellGlue 61 = .ok (.iload_n 3, 1) := by decide +kernel
theorem dX3_tellGlue_62 : decode cX3_tellGlue 62 = .ok (.invokevirtual 77, 3) := by decide +kernel
theorem dX3_tellGlue_65 : decode cX3_tellGlue 65 = .ok (.iconst 1, 1) := by decide +kernel
theorem dX3_tellGlue_66 : decode cX3_tellGlue 66 = .ok (.ireturn, 1) := by decide +kernel
theorem dX3_tellCut_0 : decode cX3_tellCut 0 = .ok (.aload_n 0, 1) := by decide +kernel
theorem dX3_tellCut_1 : decode cX3_tellCut 1 = .ok (.invokevirtual 27, 3) := by decide +kernel
theorem dX3_tellCut_4 : decode cX3_tellCut 4 = .ok (.aload_n 0, 1) := by decide +kernel
theorem dX3_tellCut_5 : decode cX3_tellCut 5 = .ok (.aload_n 1, 1) := by decide +kernel
theorem dX3_tellCut_6 : decode cX3_tellCut 6 = .ok (.invokestatic 70, 3) := by decide +kernel
theorem dX3_tellCut_9 : decode cX3_tellCut 9 = .ok (.istore_n 2, 1) := by decide +kernel
theorem dX3_tellCut_10 : decode cX3_tellCut 10 = .ok (.iload_n 2, 1) := by decide +kernel
theorem dX3_tellCut_11 : decode cX3_tellCut 11 = .ok (.iconst (-1), 1) := by decide +kernel
theorem dX3_tellCut_12 : decode cX3_tellCut 12 = .ok (.if_icmp .eq 11, 3) := by decide +kernel
theorem dX3_tellCut_15 : decode cX3_tellCut 15 = .ok (.aload_n 1, 1) := by decide +kernel
theorem dX3_tellCut_16 : decode cX3_tellCut 16 = .ok (.iload_n 2, 1) := by decide +kernel
theorem dX3_tellCut_17 : decode cX3_tellCut 17 = .ok (.invokevirtual 74, 3) := by decide +kernel
theorem dX3_tellCut_20 : decode cX3_tellCut 20 = .ok (.ifCond .eq 5, 3) := by decide +kernel
theorem dX3_tellCut_23 : decode cX3_tellCut 23 = .ok (.iconst 0, 1) := by decide +kernel
theorem dX3_tellCut_24 : decode cX3_tellCut 24 = .ok (.ireturn, 1) := by decide +kernel
theorem dX3_tellCut_25 : decode cX3_tellCut 25 = .ok (.aload_n 0, 1) := by decide +kernel
theorem dX3_tellCut_26 : decode cX3_tellCut 26 = .ok (.invokevirtual 27, 3) := by decide +kernel
theorem dX3_tellCut_29 : decode cX3_tellCut 29 = .ok (.aload_n 1, 1) := by decide +kernel
theorem dX3_tellCut_30 : decode cX3_tellCut 30 = .ok (.iload_n 2, 1) := by decide +kernel
theorem dX3_tellCut_31 : decode cX3_tellCut 31 = .ok (.invokevirtual 81, 3) := by decide +kernel
theorem dX3_tellCut_34 : decode cX3_tellCut 34 = .ok (.iconst 1, 1) := by decide +kernel
theorem dX3_tellCut_35 : decode cX3_tellCut 35 = .ok (.ireturn, 1) := by decide +kernel
theorem dX3_tellWalker_0 : decode cX3_tellWalker 0 = .ok (.aload_n 0, 1) := by decide +kernel
theorem dX3_tellWalker_1 : decode cX3_tellWalker 1 = .ok (.invokestatic 85, 3) := by decide +kernel
theorem dX3_tellWalker_4 : decode cX3_tellWalker 4 = .ok (.istore_n 2, 1) := by decide +kernel
theorem dX3_tellWalker_5 : decode cX3_tellWalker 5 = .ok (.iload_n 2, 1) := by decide +kernel
theorem dX3_tellWalker_6 : decode cX3_tellWalker 6 = .ok (.iconst (-1), 1) := by decide +kernel
theorem dX3_tellWalker_7 : decode cX3_tellWalker 7 = .ok (.if_icmp .eq 12, 3) := by decide +kernel
theorem dX3_tellWalker_10 : decode cX3_tellWalker 10 = .ok (.aload_n 1, 1) := by decide +kernel
theorem dX3_tellWalker_11 : decode cX3_tellWalker 11 = .ok (.getfield 89, 3) := by decide +kernel
theorem dX3_tellWalker_14 : decode cX3_tellWalker 14 = .ok (.bipush 6, 2) := by decide +kernel
theorem dX3_tellWalker_16 : decode cX3_tellWalker 16 = .ok (.if_icmp .lt 5, 3) := by decide +kernel
theorem dX3_tellWalker_19 : decode cX3_tellWalker 19 = .ok (.iconst 0, 1) := by decide +kernel
theorem dX3_tellWalker_20 : decode cX3_tellWalker 20 = .ok (.ireturn, 1) := by decide +kernel
theorem dX3_tellWalker_21 : decode cX3_tellWalker 21 = .ok (.aload_n 0, 1) := by decide +kernel
theorem dX3_tellWalker_22 : decode cX3_tellWalker 22 = .ok (.invokevirtual 27, 3) := by decide +kernel
theorem dX3_tellWalker_25 : decode cX3_tellWalker 25 = .ok (.aload_n 0, 1) := by decide +kernel
theorem dX3_tellWalker_26 : decode cX3_tellWalker 26 = .ok (.ldc 92, 2) := by decide +kernel
theorem dX3_tellWalker_28 : decode cX3_tellWalker 28 = .ok (.invokevirtual 32, 3) := by decide +kernel
theorem dX3_tellWalker_31 : decode cX3_tellWalker 31 = .ok (.ifCond .ne 5, 3) := by decide +kernel
theorem dX3_tellWalker_34 : decode cX3_tellWalker 34 = .ok (.iconst 0, 1) := by decide +kernel
theorem dX3_tellWalker_35 : decode cX3_tellWalker 35 = .ok (.ireturn, 1) := by decide +kernel
theorem dX3_tellWalker_36 : decode cX3_tellWalker 36 = .ok (.aload_n 0, 1) := by decide +kernel
theorem dX3_tellWalker_37 : decode cX3_tellWalker 37 = .ok (.invokevirtual 27, 3) := by decide +kernel
theorem dX3_tellWalker_40 : decode cX3_tellWalker 40 = .ok (.aload_n 0, 1) := by decide +kernel
theorem dX3_tellWalker_41 : decode cX3_tellWalker 41 = .ok (.aload_n 1, 1) := by decide +kernel
theorem dX3_tellWalker_42 : decode cX3_tellWalker 42 = .ok (.invokestatic 70, 3) := by decide +kernel
theorem dX3_tellWalker_45 : decode cX3_tellWalker 45 = .ok (.istore_n 3, 1) := by decide +kernel
theorem dX3_tellWalker_46 : decode cX3_tellWalker 46 = .ok (.iload_n 3, 1) := by decide +kernel
theorem dX3_tellWalker_47 : decode cX3_tellWalker 47 = .ok (.iconst (-1), 1) := by decide +kernel
theorem dX3_tellWalker_48 : decode cX3_tellWalker 48 = .ok (.if_icmp .ne 5, 3) := by decide +kernel
theorem dX3_tellWalker_51 : decode cX3_tellWalker 51 = .ok (.iconst 0, 1) := by decide +kernel
theorem dX3_tellWalker_52 : decode cX3_tellWalker 52 = .ok (.ireturn, 1) := by decide +kernel
theorem dX3_tellWalker_53 : decode cX3_tellWalker 53 = .ok (.aload_n 0, 1) := by decide +kernel
theorem dX3_tellWalker_54 : decode cX3_tellWalker 54 = .ok (.invokevirtual 27, 3) := by decide +kernel
theorem dX3_tellWalker_57 : decode cX3_tellWalker 57 = .ok (.aload_n 1, 1) := by decide +kernel
theorem dX3_tellWalker_58 : decode cX3_tellWalker 58 = .ok (.iload_n 2, 1) := by decide +kernel
theorem dX3_tellWalker_59 : decode cX3_tellWalker 59 = .ok (.iload_n 3, 1) := by decide +kernel
theorem dX3_tellWalker_60 : decode cX3_tellWalker 60 = .ok (.invokevirtual 94, 3) := by decide +kernel
theorem dX3_tellWalker_63 : decode cX3_tellWalker 63 = .ok (.pop, 1) := by decide +kernel
theorem dX3_tellWalker_64 : decode cX3_tellWalker 64 = .ok (.iconst 1, 1) := by decide +kernel
theorem dX3_tellWalker_65 : decode cX3_tellWalker 65 = .ok (.ireturn, 1) := by decide +kernel
theorem dX3_lookAtSide_0 : decode cX3_lookAtSide 0 = .ok (.aload_n 0, 1) := by decide +kernel
theorem dX3_lookAtSide_1 : decode cX3_lookAtSide 1 = .ok (.aload_n 1, 1) := by decide +kernel
theorem dX3_lookAtSide_2 : decode cX3_lookAtSide 2 = .ok (.getfield 52, 3) := by decide +kernel
theorem dX3_lookAtSide_5 : decode cX3_lookAtSide 5 = .ok (.invokevirtual 59, 3) := by decide +kernel
theorem dX3_lookAtSide_8 : decode cX3_lookAtSide 8 = .ok (.ifCond .ne 5, 3) := by decide +kernel
theorem dX3_lookAtSide_11 : decode cX3_lookAtSide 11 = .ok (.iconst (-1), 1) := by decide +kernel
theorem dX3_lookAtSide_12 : decode cX3_lookAtSide 12 = .ok (.ireturn, 1) := by decide +kernel
theorem dX3_lookAtSide_13 : decode cX3_lookAtSide 13 = .ok (.aload_n 0, 1) := by decide +kernel
theorem dX3_lookAtSide_14 : decode cX3_lookAtSide 14 = .ok (.getfield 63, 3) := by decide +kernel
theorem dX3_lookAtSide_17 : decode cX3_lookAtSide 17 = .ok (.istore_n 2, 1) := by decide +kernel
theorem dX3_lookAtSide_18 : decode cX3_lookAtSide 18 = .ok (.aload_n 0, 1) := by decide +kernel
theorem dX3_lookAtSide_19 : decode cX3_lookAtSide 19 = .ok (.invokevirtual 27, 3) := by decide +kernel
theorem dX3_lookAtSide_22 : decode cX3_lookAtSide 22 = .ok (.aload_n 0, 1) := by decide +kernel
theorem dX3_lookAtSide_23 : decode cX3_lookAtSide 23 = .ok (.invokestatic 98, 3) := by decide +kernel
theorem dX3_lookAtSide_26 : decode cX3_lookAtSide 26 = .ok (.istore_n 3, 1) := by decide +kernel
theorem dX3_lookAtSide_27 : decode cX3_lookAtSide 27 = .ok (.iload_n 3, 1) := by decide +kernel
theorem dX3_lookAtSide_28 : decode cX3_lookAtSide 28 = .ok (.iconst (-1), 1) := by decide +kernel
theorem dX3_lookAtSide_29 : decode cX3_lookAtSide 29 = .ok (.if_icmp .ne 7, 3) := by decide +kernel
theorem dX3_lookAtSide_32 : decode cX3_lookAtSide 32 = .ok (.iconst (-1), 1) := by decide +kernel
theorem dX3_lookAtSide_33 : decode cX3_lookAtSide 33 = .ok (.goto 8, 3) := by decide +kernel
theorem dX3_lookAtSide_36 : decode cX3_lookAtSide 36 = .ok (.iload_n 2, 1) := by decide +kernel
theorem dX3_lookAtSide_37 : decode cX3_lookAtSide 37 = .ok (.iload_n 3, 1) := by decide +kernel
theorem dX3_lookAtSide_38 : decode cX3_lookAtSide 38 = .ok (.invokestatic 101, 3) := by decide +kernel
theorem dX3_lookAtSide_41 : decode cX3_lookAtSide 41 = .ok (.ireturn, 1) := by decide +kernel
theorem dX3_sideNamed_0 : decode cX3_sideNamed 0 = .ok (.iconst 0, 1) := by decide +kernel
theorem dX3_sideNamed_1 : decode cX3_sideNamed 1 = .ok (.istore_n 1, 1) := by decide +kernel
theorem dX3_sideNamed_2 : decode cX3_sideNamed 2 = .ok (.iload_n 1, 1) := by decide +kernel
theorem dX3_sideNamed_3 : decode cX3_sideNamed 3 = .ok (.iconst 4, 1) := by decide +kernel
theorem dX3_sideNamed_4 : decode cX3_sideNamed 4 = .ok (.if_icmp .ge 22, 3) := by decide +kernel
theorem dX3_sideNamed_7 : decode cX3_sideNamed 7 = .ok (.aload_n 0, 1) := by decide +kernel
theorem dX3_sideNamed_8 : decode cX3_sideNamed 8 = .ok (.iload_n 1, 1) := by decide +kernel
theorem dX3_sideNamed_9 : decode cX3_sideNamed 9 = .ok (.invokestatic 104, 3) := by decide +kernel
theorem dX3_sideNamed_12 : decode cX3_sideNamed 12 = .ok (.invokevirtual 32, 3) := by decide +kernel
theorem dX3_sideNamed_15 : decode cX3_sideNamed 15 = .ok (.ifCond .eq 5, 3) := by decide +kernel
theorem dX3_sideNamed_18 : decode cX3_sideNamed 18 = .ok (.iload_n 1, 1) := by decide +kernel
theorem dX3_sideNamed_19 : decode cX3_sideNamed 19 = .ok (.ireturn, 1) := by decide +kernel
theorem dX3_sideNamed_20 : decode cX3_sideNamed 20 = .ok (.iinc 1 1, 3) := by decide +kernel
theorem dX3_sideNamed_23 : decode cX3_sideNamed 23 = .ok (.goto (-21), 3) := by decide +kernel
theorem dX3_sideNamed_26 : decode cX3_sideNamed 26 = .ok (.iconst (-1), 1) := by decide +kernel
theorem dX3_sideNamed_27 : decode cX3_sideNamed 27 = .ok (.ireturn, 1) := by decide +kernel
theorem dX3_kindNamed_0 : decode cX3_kindNamed 0 = .ok (.iconst 0, 1) := by decide +kernel
theorem dX3_kindNamed_1 : decode cX3_kindNamed 1 = .ok (.istore_n 1, 1) := by decide +kernel
theorem dX3_kindNamed_2 : decode cX3_kindNamed 2 = .ok (.iload_n 1, 1) := by decide +kernel
theorem dX3_kindNamed_3 : decode cX3_kindNamed 3 = .ok (.bipush 6, 2) := by decide +kernel
theorem dX3_kindNamed_5 : decode cX3_kindNamed 5 = .ok (.if_icmp .ge 22, 3) := by decide +kernel
theorem dX3_kindNamed_8 : decode cX3_kindNamed 8 = .ok (.aload_n 0, 1) := by decide +kernel
theorem dX3_kindNamed_9 : decode cX3_kindNamed 9 = .ok (.iload_n 1, 1) := by decide +kernel
theorem dX3_kindNamed_10 : decode cX3_kindNamed 10 = .ok (.invokestatic 108, 3) := by decide +kernel
theorem dX3_kindNamed_13 : decode cX3_kindNamed 13 = .ok (.invokevirtual 32, 3) := by decide +kernel
theorem dX3_kindNamed_16 : decode cX3_kindNamed 16 = .ok (.ifCond .eq 5, 3) := by decide +kernel
theorem dX3_kindNamed_19 : decode cX3_kindNamed 19 = .ok (.iload_n 1, 1) := by decide +kernel
theorem dX3_kindNamed_20 : decode cX3_kindNamed 20 = .ok (.ireturn, 1) := by decide +kernel
theorem dX3_kindNamed_21 : decode cX3_kindNamed 21 = .ok (.iinc 1 1, 3) := by decide +kernel
theorem dX3_kindNamed_24 : decode cX3_kindNamed 24 = .ok (.goto (-22), 3) := by decide +kernel
theorem dX3_kindNamed_27 : decode cX3_kindNamed 27 = .ok (.iconst (-1), 1) := by decide +kernel
theorem dX3_kindNamed_28 : decode cX3_kindNamed 28 = .ok (.ireturn, 1) := by decide +kernel
theorem dX3_sideName_0 : decode cX3_sideName 0 = .ok (.iload_n 0, 1) := by decide +kernel
theorem dX3_sideName_1 : decode cX3_sideName 1 = .ok (.tableswitch 36 0 2 #[27, 30, 33], 27) := by decide +kernel
theorem dX3_sideName_28 : decode cX3_sideName 28 = .ok (.ldc 111, 2) := by decide +kernel
theorem dX3_sideName_30 : decode cX3_sideName 30 = .ok (.areturn, 1) := by decide +kernel
theorem dX3_sideName_31 : decode cX3_sideName 31 = .ok (.ldc 113, 2) := by decide +kernel
theorem dX3_sideName_33 : decode cX3_sideName 33 = .ok (.areturn, 1) := by decide +kernel
theorem dX3_sideName_34 : decode cX3_sideName 34 = .ok (.ldc 115, 2) := by decide +kernel
theorem dX3_sideName_36 : decode cX3_sideName 36 = .ok (.areturn, 1) := by decide +kernel
theorem dX3_sideName_37 : decode cX3_sideName 37 = .ok (.ldc 117, 2) := by decide +kernel
theorem dX3_sideName_39 : decode cX3_sideName 39 = .ok (.areturn, 1) := by decide +kernel
theorem dX3_kindName_0 : decode cX3_kindName 0 = .ok (.iload_n 0, 1) := by decide +kernel
theorem dX3_kindName_1 : decode cX3_kindName 1 = .ok (.tableswitch 50 0 4 #[35, 38, 41, 44, 47], 35) := by decide +kernel
theorem dX3_kindName_36 : decode cX3_kindName 36 = .ok (.ldc 119, 2) := by decide +kernel
theorem dX3_kindName_38 : decode cX3_kindName 38 = .ok (.areturn, 1) := by decide +kernel
theorem dX3_kindName_39 : decode cX3_kindName 39 = .ok (.ldc 121, 2) := by decide +kernel
theorem dX3_kindName_41 : decode cX3_kindName 41 = .ok (.areturn, 1) := by decide +kernel
theorem dX3_kindName_42 : decode cX3_kindName 42 = .ok (.ldc 123, 2) := by decide +kernel
theorem dX3_kindName_44 : decode cX3_kindName 44 = .ok (.areturn, 1) := by decide +kernel
theorem dX3_kindName_45 : decode cX3_kindName 45 = .ok (.ldc 125, 2) := by decide +kernel
theorem dX3_kindName_47 : decode cX3_kindName 47 = .ok (.areturn, 1) := by decide +kernel
theorem dX3_kindName_48 : decode cX3_kindName 48 = .ok (.ldc 127, 2) := by decide +kernel
theorem dX3_kindName_50 : decode cX3_kindName 50 = .ok (.areturn, 1) := by decide +kernel
theorem dX3_kindName_51 : decode cX3_kindName 51 = .ok (.ldc 129, 2) := by decide +kernel
theorem dX3_kindName_53 : decode cX3_kindName 53 = .ok (.areturn, 1) := by decide +kernel
theorem dX4_init_0 : decode cX4_init 0 = .ok (.aload_n 0, 1) := by decide +kernel
theorem dX4_init_1 : decode cX4_init 1 = .ok (.invokespecial 3, 3) := by decide +kernel
theorem dX4_init_4 : decode cX4_init 4 = .ok (.return_, 1) := by decide +kernel
theorem dX4_begin_0 : decode cX4_begin 0 = .ok (.aload_n 0, 1) := by decide +kernel
theorem dX4_begin_1 : decode cX4_begin 1 = .ok (.iload_n 1, 1) := by decide +kernel
theorem dX4_begin_2 : decode cX4_begin 2 = .ok (.putfield 9, 3) := by decide +kernel
theorem dX4_begin_5 : decode cX4_begin 5 = .ok (.aload_n 0, 1) := by decide +kernel
theorem dX4_begin_6 : decode cX4_begin 6 = .ok (.iload_n 2, 1) := by decide +kernel
theorem dX4_begin_7 : decode cX4_begin 7 = .ok (.putfield 15, 3) := by decide +kernel
theorem dX4_begin_10 : decode cX4_begin 10 = .ok (.aload_n 0, 1) := by decide +kernel
theorem dX4_begin_11 : decode cX4_begin 11 = .ok (.iconst 0, 1) := by decide +kernel
theorem dX4_begin_12 : decode cX4_begin 12 = .ok (.putfield 18, 3) := by decide +kernel
theorem dX4_begin_15 : decode cX4_begin 15 = .ok (.aload_n 0, 1) := by decide +kernel
theorem dX4_begin_16 : decode cX4_begin 16 = .ok (.iconst 0, 1) := by decide +kernel
theorem dX4_begin_17 : decode cX4_begin 17 = .ok (.putfield 21, 3) := by decide +kernel
theorem dX4_begin_20 : decode cX4_begin 20 = .ok (.return_, 1) := by decide +kernel
theorem dX4_become_0 : decode cX4_become 0 = .ok (.aload_n 0, 1) := by decide +kernel
theorem dX4_become_1 : decode cX4_become 1 = .ok (.aload_n 1, 1) := by decide +kernel
theorem dX4_become_2 : decode cX4_become 2 = .ok (.getfield 9, 3) := by decide +kernel
theorem dX4_become_5 : decode cX4_become 5 = .ok (.putfield 9, 3) := by decide +kernel
theorem dX4_become_8 : decode cX4_become 8 = .ok (.aload_n 0, 1) := by decide +kernel
theorem dX4_become_9 : decode cX4_become 9 = .ok (.aload_n 1, 1) := by decide +kernel
theorem dX4_become_10 : decode cX4_become 10 = .ok (.getfield 15, 3) := by decide +kernel
theorem dX4_become_13 : decode cX4_become 13 = .ok (.putfield 15, 3) := by decide +kernel
theorem dX4_become_16 : decode cX4_become 16 = .ok (.aload_n 0, 1) := by decide +kernel
theorem dX4_become_17 : decode cX4_become 17 = .ok (.aload_n 1, 1) := by decide +kernel
theorem dX4_become_18 : decode cX4_become 18 = .ok (.getfield 18, 3) := by decide +kernel
theorem dX4_become_21 : decode cX4_become 21 = .ok (.putfield 18, 3) := by decide +kernel
theorem dX4_become_24 : decode cX4_become 24 = .ok (.aload_n 0, 1) := by decide +kernel
theorem dX4_become_25 : decode cX4_become 25 = .ok (.aload_n 1, 1) := by decide +kernel
theorem dX4_become_26 : decode cX4_become 26 = .ok (.getfield 21, 3) := by decide +kernel
theorem dX4_become_29 : decode cX4_become 29 = .ok (.putfield 21, 3) := by decide +kernel
theorem dX4_become_32 : decode cX4_become 32 = .ok (.return_, 1) := by decide +kernel
theorem dX4_move_0 : decode cX4_move 0 = .ok (.aload_n 1, 1) := by decide +kernel
theorem dX4_move_1 : decode cX4_move 1 = .ok (.aload_n 0, 1) := by decide +kernel
theorem dX4_move_2 : decode cX4_move 2 = .ok (.getfield 15, 3) := by decide +kernel
theorem dX4_move_5 : decode cX4_move 5 = .ok (.invokevirtual 24, 3) := by decide +kernel
theorem dX4_move_8 : decode cX4_move 8 = .ok (.istore_n 2, 1) := by decide +kernel
theorem dX4_move_9 : decode cX4_move 9 = .ok (.iload_n 2, 1) := by decide +kernel
theorem dX4_move_10 : decode cX4_move 10 = .ok (.iconst (-1), 1) := by decide +kernel
theorem dX4_move_11 : decode cX4_move 11 = .ok (.if_icmp .ne 34, 3) := by decide +kernel
theorem dX4_move_14 : decode cX4_move 14 = .ok (.aload_n 0, 1) := by decide +kernel
theorem dX4_move_15 : decode cX4_move 15 = .ok (.dup, 1) := by decide +kernel
theorem dX4_move_16 : decode cX4_move 16 = .ok (.getfield 21, 3) := by decide +kernel
theorem dX4_move_19 : decode cX4_move 19 = .ok (.iconst 1, 1) := by decide +kernel
theorem dX4_move_20 : decode cX4_move 20 = .ok (.iadd, 1) := by decide +kernel
theorem dX4_move_21 : decode cX4_move 21 = .ok (.putfield 21, 3) := by decide +kernel
theorem dX4_move_24 : decode cX4_move 24 = .ok (.aload_n 0, 1) := by decide +kernel
theorem dX4_move_25 : decode cX4_move 25 = .ok (.aload_n 0, 1) := by decide +kernel
theorem dX4_move_26 : decode cX4_move 26 = .ok (.getfield 15, 3) := by decide +kernel
theorem dX4_move_29 : decode cX4_move 29 = .ok (.aload_n 0, 1) := by decide +kernel
theorem dX4_move_30 : decode cX4_move 30 = .ok (.getfield 9, 3) := by decide +kernel
theorem dX4_move_33 : decode cX4_move 33 = .ok (.invokestatic 30, 3) := by decide +kernel
theorem dX4_move_36 : decode cX4_move 36 = .ok (.invokestatic 33, 3) := by decide +kernel
theorem dX4_move_39 : decode cX4_move 39 = .ok (.putfield 15, 3) := by decide +kernel
theorem dX4_move_42 : decode cX4_move 42 = .ok (.goto 49, 3) := by decide +kernel
theorem dX4_move_45 : decode cX4_move 45 = .ok (.aload_n 1, 1) := by decide +kernel
theorem dX4_move_46 : decode cX4_move 46 = .ok (.iload_n 2, 1) := by decide +kernel
theorem dX4_move_47 : decode cX4_move 47 = .ok (.invokestatic 37, 3) := by decide +kernel
theorem dX4_move_50 : decode cX4_move 50 = .ok (.invokevirtual 40, 3) := by decide +kernel
theorem dX4_move_53 : decode cX4_move 53 = .ok (.istore_n 3, 1) := by decide +kernel
theorem dX4_move_54 : decode cX4_move 54 = .ok (.aload_n 0, 1) := by decide +kernel
theorem dX4_move_55 : decode cX4_move 55 = .ok (.dup, 1) := by decide +kernel
theorem dX4_move_56 : decode cX4_move 56 = .ok (.getfield 18, 3) := by decide +kernel
theorem dX4_move_59 : decode cX4_move 59 = .ok (.aload_n 0, 1) := by decide +kernel
theorem dX4_move_60 : decode cX4_move 60 = .ok (.getfield 9, 3) := by decide +kernel
theorem dX4_move_63 : decode cX4_move 63 = .ok (.iload_n 3, 1) := by decide +kernel
theorem dX4_move_64 : decode cX4_move 64 = .ok (.invokestatic 43, 3) := by decide +kernel
theorem dX4_move_67 : decode cX4_move 67 = .ok (.iadd, 1) := by decide +kernel
theorem dX4_move_68 : decode cX4_move 68 = .ok (.putfield 18, 3) := by decide +kernel
theorem dX4_move_71 : decode cX4_move 71 = .ok (.aload_n 0, 1) := by decide +kernel
theorem dX4_move_72 : decode cX4_move 72 = .ok (.iload_n 2, 1) := by decide +kernel
theorem dX4_move_73 : decode cX4_move 73 = .ok (.aload_n 0, 1) := by decide +kernel
theorem dX4_move_74 : decode cX4_move 74 = .ok (.getfield 9, 3) := by decide +kernel
theorem dX4_move_77 : decode cX4_move 77 = .ok (.iload_n 3, 1) := by decide +kernel
theorem dX4_move_78 : decode cX4_move 78 = .ok (.aload_n 0, 1) := by decide +kernel
theorem dX4_move_79 : decode cX4_move 79 = .ok (.getfield 18, 3) := by decide +kernel
theorem dX4_move_82 : decode cX4_move 82 = .ok (.invokestatic 46, 3) := by decide +kernel
theorem dX4_move_85 : decode cX4_move 85 = .ok (.invokestatic 33, 3) := by decide +kernel
theorem dX4_move_88 : decode cX4_move 88 = .ok (.putfield 15, 3) := by decide +kernel
theorem dX4_move_91 : decode cX4_move 91 = .ok (.return_, 1) := by decide +kernel
theorem dX4_moveOften_0 : decode cX4_moveOften 0 = .ok (.iconst 0, 1) := by decide +kernel
theorem dX4_moveOften_1 : decode cX4_moveOften 1 = .ok (.istore_n 3, 1) := by decide +kernel
theorem dX4_moveOften_2 : decode cX4_moveOften 2 = .ok (.iload_n 3, 1) := by decide +kernel
theorem dX4_moveOften_3 : decode cX4_moveOften 3 = .ok (.iload_n 2, 1) := by decide +kernel
theorem dX4_moveOften_4 : decode cX4_moveOften 4 = .ok (.if_icmp .ge 14, 3) := by decide +kernel
theorem dX4_moveOften_7 : decode cX4_moveOften 7 = .ok (.aload_n 0, 1) := by decide +kernel
theorem dX4_moveOften_8 : decode cX4_moveOften 8 = .ok (.aload_n 1, 1) := by decide +kernel
theorem dX4_moveOften_9 : decode cX4_moveOften 9 = .ok (.invokevirtual 50, 3) := by decide +kernel
theorem dX4_moveOften_12 : decode cX4_moveOften 12 = .ok (.iinc 3 1, 3) := by decide +kernel
theorem dX4_moveOften_15 : decode cX4_moveOften 15 = .ok (.goto (-13), 3) := by decide +kernel
theorem dX4_moveOften_18 : decode cX4_moveOften 18 = .ok (.return_, 1) := by decide +kernel
theorem dX4_above_0 : decode cX4_above 0 = .ok (.iload_n 0, 1) := by decide +kernel
theorem dX4_above_1 : decode cX4_above 1 = .ok (.tableswitch 31 3 5 #[27, 29, 27], 27) := by decide +kernel
theorem dX4_above_28 : decode cX4_above 28 = .ok (.iconst 1, 1) := by decide +kernel
theorem dX4_above_29 : decode cX4_above 29 = .ok (.ireturn, 1) := by decide +kernel
theorem dX4_above_30 : decode cX4_above 30 = .ok (.iconst 2, 1) := by decide +kernel
theorem dX4_above_31 : decode cX4_above 31 = .ok (.ireturn, 1) := by decide +kernel
theorem dX4_above_32 : decode cX4_above 32 = .ok (.iconst 0, 1) := by decide +kernel
theorem dX4_above_33 : decode cX4_above 33 = .ok (.ireturn, 1) := by decide +kernel
theorem dX4_isUnder_0 : decode cX4_isUnder 0 = .ok (.iload_n 0, 1) := by decide +kernel
theorem dX4_isUnder_1 : decode cX4_isUnder 1 = .ok (.istore_n 2, 1) := by decide +kernel
theorem dX4_isUnder_2 : decode cX4_isUnder 2 = .ok (.iconst 0, 1) := by decide +kernel
theorem dX4_isUnder_3 : decode cX4_isUnder 3 = .ok (.istore_n 3, 1) := by decide +kernel
theorem dX4_isUnder_4 : decode cX4_isUnder 4 = .ok (.iload_n 3, 1) := by decide +kernel
theorem dX4_isUnder_5 : decode cX4_isUnder 5 = .ok (.bipush 6, 2) := by decide +kernel
theorem dX4_isUnder_7 : decode cX4_isUnder 7 = .ok (.if_icmp .ge 21, 3) := by decide +kernel
theorem dX4_isUnder_10 : decode cX4_isUnder 10 = .ok (.iload_n 2, 1) := by decide +kernel
theorem dX4_isUnder_11 : decode cX4_isUnder 11 = .ok (.iload_n 1, 1) := by decide +kernel
theorem dX4_isUnder_12 : decode cX4_isUnder 12 = .ok (.if_icmp .ne 5, 3) := by decide +kernel
theorem dX4_isUnder_15 : decode cX4_isUnder 15 = .ok (.iconst 1, 1) := by decide +kernel
theorem dX4_isUnder_16 : decode cX4_isUnder 16 = .ok (.ireturn, 1) := by decide +kernel
theorem dX4_isUnder_17 : decode cX4_isUnder 17 = .ok (.iload_n 2, 1) := by decide +kernel
theorem dX4_isUnder_18 : decode cX4_isUnder 18 = .ok (.invokestatic 54, 3) := by decide +kernel
theorem dX4_isUnder_21 : decode cX4_isUnder 21 = .ok (.istore_n 2, 1) := by decide +kernel
theorem dX4_isUnder_22 : decode cX4_isUnder 22 = .ok (.iinc 3 1, 3) := by decide +kernel
theorem dX4_isUnder_25 : decode cX4_isUnder 25 = .ok (.goto (-21), 3) := by decide +kernel
theorem dX4_isUnder_28 : decode cX4_isUnder 28 = .ok (.iconst 0, 1) := by decide +kernel
theorem dX4_isUnder_29 : decode cX4_isUnder 29 = .ok (.ireturn, 1) := by decide +kernel
theorem dX4_payOf_0 : decode cX4_payOf 0 = .ok (.iload_n 0, 1) := by decide +kernel
theorem dX4_payOf_1 : decode cX4_payOf 1 = .ok (.tableswitch 82 0 4 #[35, 82, 37, 61, 50], 35) := by decide +kernel
theorem dX4_payOf_36 : decode cX4_payOf 36 = .ok (.iconst 1, 1) := by decide +kernel
theorem dX4_payOf_37 : decode cX4_payOf 37 = .ok (.ireturn, 1) := by decide +kernel
theorem dX4_payOf_38 : decode cX4_payOf 38 = .ok (.iload_n 0, 1) := by decide +kernel
theorem dX4_payOf_39 : decode cX4_payOf 39 = .ok (.invokestatic 54, 3) := by decide +kernel
theorem dX4_payOf_42 : decode cX4_payOf 42 = .ok (.iload_n 1, 1) := by decide +kernel
theorem dX4_payOf_43 : decode cX4_payOf 43 = .ok (.invokestatic 43, 3) := by decide +kernel
theorem dX4_payOf_46 : decode cX4_payOf 46 = .ok (.iload_n 1, 1) := by decide +kernel
theorem dX4_payOf_47 : decode cX4_payOf 47 = .ok (.iconst 3, 1) := by decide +kernel
theorem dX4_payOf_48 : decode cX4_payOf 48 = .ok (.idiv, 1) := by decide +kernel
theorem dX4_payOf_49 : decode cX4_payOf 49 = .ok (.iadd, 1) := by decide +kernel
theorem dX4_payOf_50 : decode cX4_payOf 50 = .ok (.ireturn, 1) := by decide +kernel
theorem dX4_payOf_51 : decode cX4_payOf 51 = .ok (.iload_n 0, 1) := by decide +kernel
theorem dX4_payOf_52 : decode cX4_payOf 52 = .ok (.invokestatic 54, 3) := by decide +kernel
theorem dX4_payOf_55 : decode cX4_payOf 55 = .ok (.iload_n 1, 1) := by decide +kernel
theorem dX4_payOf_56 : decode cX4_payOf 56 = .ok (.invokestatic 43, 3) := by decide +kernel
theorem dX4_payOf_59 : decode cX4_payOf 59 = .ok (.iload_n 1, 1) := by decide +kernel
theorem dX4_payOf_60 : decode cX4_payOf 60 = .ok (.iadd, 1) := by decide +kernel
theorem dX4_payOf_61 : decode cX4_payOf 61 = .ok (.ireturn, 1) := by decide +kernel
theorem dX4_payOf_62 : decode cX4_payOf 62 = .ok (.iload_n 0, 1) := by decide +kernel
theorem dX4_payOf_63 : decode cX4_payOf 63 = .ok (.invokestatic 54, 3) := by decide +kernel
theorem dX4_payOf_66 : decode cX4_payOf 66 = .ok (.iload_n 1, 1) := by decide +kernel
theorem dX4_payOf_67 : decode cX4_payOf 67 = .ok (.invokestatic 43, 3) := by decide +kernel
theorem dX4_payOf_70 : decode cX4_payOf 70 = .ok (.iload_n 1, 1) := by decide +kernel
theorem dX4_payOf_71 : decode cX4_payOf 71 = .ok (.bipush 9, 2) := by decide +kernel
theorem dX4_payOf_73 : decode cX4_payOf 73 = .ok (.if_icmp .ne 7, 3) := by decide +kernel
theorem dX4_payOf_76 : decode cX4_payOf 76 = .ok (.iconst 1, 1) := by decide +kernel
theorem dX4_payOf_77 : decode cX4_payOf 77 = .ok (.goto 4, 3) := by decide +kernel
theorem dX4_payOf_80 : decode cX4_payOf 80 = .ok (.iconst 0, 1) := by decide +kernel
theorem dX4_payOf_81 : decode cX4_payOf 81 = .ok (.iadd, 1) := by decide +kernel
theorem dX4_payOf_82 : decode cX4_payOf 82 = .ok (.ireturn, 1) := by decide +kernel
theorem dX4_payOf_83 : decode cX4_payOf 83 = .ok (.iload_n 0, 1) := by decide +kernel
theorem dX4_payOf_84 : decode cX4_payOf 84 = .ok (.invokestatic 54, 3) := by decide +kernel
theorem dX4_payOf_87 : decode cX4_payOf 87 = .ok (.iload_n 1, 1) := by decide +kernel
theorem dX4_payOf_88 : decode cX4_payOf 88 = .ok (.invokestatic 43, 3) := by decide +kernel
theorem dX4_payOf_91 : decode cX4_payOf 91 = .ok (.ireturn, 1) := by decide +kernel
theorem dX4_quartersOnComing_0 : decode cX4_quartersOnComing 0 = .ok (.iload_n 0, 1) := by decide +kernel
theorem dX4_quartersOnComing_1 : decode cX4_quartersOnComing 1 = .ok (.tableswitch 102 0 5 #[39, 102, 41, 60, 102, 80], 39) := by decide +kernel
theorem dX4_quartersOnComing_40 : decode cX4_quartersOnComing 40 = .ok (.iconst 0, 1) := by decide +kernel
theorem dX4_quartersOnComing_41 : decode cX4_quartersOnComing 41 = .ok (.ireturn, 1) := by decide +kernel
theorem dX4_quartersOnComing_42 : decode cX4_quartersOnComing 42 = .ok (.iload_n 1, 1) := by decide +kernel
theorem dX4_quartersOnComing_43 : decode cX4_quartersOnComing 43 = .ok (.iconst 5, 1) := by decide +kernel
theorem dX4_quartersOnComing_44 : decode cX4_quartersOnComing 44 = .ok (.if_icmp .lt 7, 3) := by decide +kernel
theorem dX4_quartersOnComing_47 : decode cX4_quartersOnComing 47 = .ok (.iconst 1, 1) := by decide +kernel
theorem dX4_quartersOnComing_48 : decode cX4_quartersOnComing 48 = .ok (.goto 12, 3) := by decide +kernel
theorem dX4_quartersOnComing_51 : decode cX4_quartersOnComing 51 = .ok (.iload_n 0, 1) := by decide +kernel
theorem dX4_quartersOnComing_52 : decode cX4_quartersOnComing 52 = .ok (.invokestatic 54, 3) := by decide +kernel
theorem dX4_quartersOnComing_55 : decode cX4_quartersOnComing 55 = .ok (.iload_n 1, 1) := by decide +kernel
theorem dX4_quartersOnComing_56 : decode cX4_quartersOnComing 56 = .ok (.iload_n 2, 1) := by decide +kernel
theorem dX4_quartersOnComing_57 : decode cX4_quartersOnComing 57 = .ok (.invokestatic 46, 3) := by decide +kernel
theorem dX4_quartersOnComing_60 : decode cX4_quartersOnComing 60 = .ok (.ireturn, 1) := by decide +kernel
theorem dX4_quartersOnComing_61 : decode cX4_quartersOnComing 61 = .ok (.iload_n 2, 1) := by decide +kernel
theorem dX4_quartersOnComing_62 : decode cX4_quartersOnComing 62 = .ok (.iconst 3, 1) := by decide +kernel
theorem dX4_quartersOnComing_63 : decode cX4_quartersOnComing 63 = .ok (.irem, 1) := by decide +kernel
theorem dX4_quartersOnComing_64 : decode cX4_quartersOnComing 64 = .ok (.ifCond .ne 7, 3) := by decide +kernel
theorem dX4_quartersOnComing_67 : decode cX4_quartersOnComing 67 = .ok (.iconst 3, 1) := by decide +kernel
theorem dX4_quartersOnComing_68 : decode cX4_quartersOnComing 68 = .ok (.goto 12, 3) := by decide +kernel
theorem dX4_quartersOnComing_71 : decode cX4_quartersOnComing 71 = .ok (.iload_n 0, 1) := by decide +kernel
theorem dX4_quartersOnComing_72 : decode cX4_quartersOnComing 72 = .ok (.invokestatic 54, 3) := by decide +kernel
theorem dX4_quartersOnComing_75 : decode cX4_quartersOnComing 75 = .ok (.iload_n 1, 1) := by decide +kernel
theorem dX4_quartersOnComing_76 : decode cX4_quartersOnComing 76 = .ok (.iload_n 2, 1) := by decide +kernel
theorem dX4_quartersOnComing_77 : decode cX4_quartersOnComing 77 = .ok (.invokestatic 46, 3) := by decide +kernel
theorem dX4_quartersOnComing_80 : decode cX4_quartersOnComing 80 = .ok (.ireturn, 1) := by decide +kernel
theorem dX4_quartersOnComing_81 : decode cX4_quartersOnComing 81 = .ok (.iload_n 0, 1) := by decide +kernel
theorem dX4_quartersOnComing_82 : decode cX4_quartersOnComing 82 = .ok (.invokestatic 54, 3) := by decide +kernel
theorem dX4_quartersOnComing_85 : decode cX4_quartersOnComing 85 = .ok (.iload_n 1, 1) := by decide +kernel
theorem dX4_quartersOnComing_86 : decode cX4_quartersOnComing 86 = .ok (.iload_n 2, 1) := by decide +kernel
theorem dX4_quartersOnComing_87 : decode cX4_quartersOnComing 87 = .ok (.invokestatic 46, 3) := by decide +kernel
theorem dX4_quartersOnComing_90 : decode cX4_quartersOnComing 90 = .ok (.iload_n 2, 1) := by decide +kernel
theorem dX4_quartersOnComing_91 : decode cX4_quartersOnComing 91 = .ok (.iconst 2, 1) := by decide +kernel
theorem dX4_quartersOnComing_92 : decode cX4_quartersOnComing 92 = .ok (.irem, 1) := by decide +kernel
theorem dX4_quartersOnComing_93 : decode cX4_quartersOnComing 93 = .ok (.ifCond .ne 7, 3) := by decide +kernel
theorem dX4_quartersOnComing_96 : decode cX4_quartersOnComing 96 = .ok (.iconst 0, 1) := by decide +kernel
theorem dX4_quartersOnComing_97 : decode cX4_quartersOnComing 97 = .ok (.goto 4, 3) := by decide +kernel
theorem dX4_quartersOnComing_100 : decode cX4_quartersOnComing 100 = .ok (.iconst 1, 1) := by decide +kernel
theorem dX4_quartersOnComing_101 : decode cX4_quartersOnComing 101 = .ok (.iadd, 1) := by decide +kernel
theorem dX4_quartersOnComing_102 : decode cX4_quartersOnComing 102 = .ok (.ireturn, 1) := by decide +kernel
theorem dX4_quartersOnComing_103 : decode cX4_quartersOnComing 103 = .ok (.iload_n 0, 1) := by decide +kernel
theorem dX4_quartersOnComing_104 : decode cX4_quartersOnComing 104 = .ok (.invokestatic 54, 3) := by decide +kernel
theorem dX4_quartersOnComing_107 : decode cX4_quartersOnComing 107 = .ok (.iload_n 1, 1) := by decide +kernel
theorem dX4_quartersOnComing_108 : decode cX4_quartersOnComing 108 = .ok (.iload_n 2, 1) := by decide +kernel
theorem dX4_quartersOnComing_109 : decode cX4_quartersOnComing 109 = .ok (.invokestatic 46, 3) := by decide +kernel
theorem dX4_quartersOnComing_112 : decode cX4_quartersOnComing 112 = .ok (.ireturn, 1) := by decide +kernel
theorem dX4_quartersAtBump_0 : decode cX4_quartersAtBump 0 = .ok (.iload_n 0, 1) := by decide +kernel
theorem dX4_quartersAtBump_1 : decode cX4_quartersAtBump 1 = .ok (.tableswitch 63 0 5 #[39, 41, 63, 63, 43, 53], 39) := by decide +kernel
theorem dX4_quartersAtBump_40 : decode cX4_quartersAtBump 40 = .ok (.iconst 2, 1) := by decide +kernel
theorem dX4_quartersAtBump_41 : decode cX4_quartersAtBump 41 = .ok (.ireturn, 1) := by decide +kernel
theorem dX4_quartersAtBump_42 : decode cX4_quartersAtBump 42 = .ok (.iconst 3, 1) := by decide +kernel
theorem dX4_quartersAtBump_43 : decode cX4_quartersAtBump 43 = .ok (.ireturn, 1) := by decide +kernel
theorem dX4_quartersAtBump_44 : decode cX4_quartersAtBump 44 = .ok (.iload_n 0, 1) := by decide +kernel
theorem dX4_quartersAtBump_45 : decode cX4_quartersAtBump 45 = .ok (.invokestatic 54, 3) := by decide +kernel
theorem dX4_quartersAtBump_48 : decode cX4_quartersAtBump 48 = .ok (.invokestatic 30, 3) := by decide +kernel
theorem dX4_quartersAtBump_51 : decode cX4_quartersAtBump 51 = .ok (.iconst 3, 1) := by decide +kernel
theorem dX4_quartersAtBump_52 : decode cX4_quartersAtBump 52 = .ok (.iadd, 1) := by decide +kernel
theorem dX4_quartersAtBump_53 : decode cX4_quartersAtBump 53 = .ok (.ireturn, 1) := by decide +kernel
theorem dX4_quartersAtBump_54 : decode cX4_quartersAtBump 54 = .ok (.iconst 2, 1) := by decide +kernel
theorem dX4_quartersAtBump_55 : decode cX4_quartersAtBump 55 = .ok (.iload_n 0, 1) := by decide +kernel
theorem dX4_quartersAtBump_56 : decode cX4_quartersAtBump 56 = .ok (.invokestatic 54, 3) := by decide +kernel
theorem dX4_quartersAtBump_59 : decode cX4_quartersAtBump 59 = .ok (.invokestatic 30, 3) := by decide +kernel
theorem dX4_quartersAtBump_62 : decode cX4_quartersAtBump 62 = .ok (.imul, 1) := by decide +kernel
theorem dX4_quartersAtBump_63 : decode cX4_quartersAtBump 63 = .ok (.ireturn, 1) := by decide +kernel
theorem dX4_quartersAtBump_64 : decode cX4_quartersAtBump 64 = .ok (.iload_n 0, 1) := by decide +kernel
theorem dX4_quartersAtBump_65 : decode cX4_quartersAtBump 65 = .ok (.invokestatic 54, 3) := by decide +kernel
theorem dX4_quartersAtBump_68 : decode cX4_quartersAtBump 68 = .ok (.invokestatic 30, 3) := by decide +kernel
theorem dX4_quartersAtBump_71 : decode cX4_quartersAtBump 71 = .ok (.ireturn, 1) := by decide +kernel
