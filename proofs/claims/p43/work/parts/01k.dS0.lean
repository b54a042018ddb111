theorem dJ0_length_8abf5_0 : decode cJ0_length_8abf5 0 = .ok (.aload_n 0, 1) := by decide +kernel
theorem dJ0_length_8abf5_1 : decode cJ0_length_8abf5 1 = .ok (.getfield 9, 3) := by decide +kernel
theorem dJ0_length_8abf5_4 : decode cJ0_length_8abf5 4 = .ok (.arraylength, 1) := by decide +kernel
theorem dJ0_length_8abf5_5 : decode cJ0_length_8abf5 5 = .ok (.aload_n 0, 1) := by decide +kernel
theorem dJ0_length_8abf5_6 : decode cJ0_length_8abf5 6 = .ok (.invokevirtual 335, 3) := by decide +kernel
theorem dJ0_length_8abf5_9 : decode cJ0_length_8abf5 9 = .ok (.ishr, 1) := by decide +kernel
theorem dJ0_length_8abf5_10 : decode cJ0_length_8abf5 10 = .ok (.ireturn, 1) := by decide +kernel
theorem dJ0_charAt_5068e_0 : decode cJ0_charAt_5068e 0 = .ok (.aload_n 0, 1) := by decide +kernel
theorem dJ0_charAt_5068e_1 : decode cJ0_charAt_5068e 1 = .ok (.invokevirtual 492, 3) := by decide +kernel
theorem dJ0_charAt_5068e_4 : decode cJ0_charAt_5068e 4 = .ok (.ifCond .eq 12, 3) := by decide +kernel
theorem dJ0_charAt_5068e_7 : decode cJ0_charAt_5068e 7 = .ok (.aload_n 0, 1) := by decide +kernel
theorem dJ0_charAt_5068e_8 : decode cJ0_charAt_5068e 8 = .ok (.getfield 9, 3) := by decide +kernel
theorem dJ0_charAt_5068e_11 : decode cJ0_charAt_5068e 11 = .ok (.iload_n 1, 1) := by decide +kernel
theorem dJ0_charAt_5068e_12 : decode cJ0_charAt_5068e 12 = .ok (.invokestatic 495, 3) := by decide +kernel
theorem dJ0_charAt_5068e_15 : decode cJ0_charAt_5068e 15 = .ok (.ireturn, 1) := by decide +kernel
theorem dJ0_charAt_5068e_16 : decode cJ0_charAt_5068e 16 = .ok (.aload_n 0, 1) := by decide +kernel
theorem dJ0_charAt_5068e_17 : decode cJ0_charAt_5068e 17 = .ok (.getfield 9, 3) := by decide +kernel
theorem dJ0_charAt_5068e_20 : decode cJ0_charAt_5068e 20 = .ok (.iload_n 1, 1) := by decide +kernel
theorem dJ0_charAt_5068e_21 : decode cJ0_charAt_5068e 21 = .ok (.invokestatic 498, 3) := by decide +kernel
theorem dJ0_charAt_5068e_24 : decode cJ0_charAt_5068e 24 = .ok (.ireturn, 1) := by decide +kernel
theorem dJ0_coder_7d493_0 : decode cJ0_coder_7d493 0 = .ok (.getstatic 38, 3) := by decide +kernel
theorem dJ0_coder_7d493_3 : decode cJ0_coder_7d493 3 = .ok (.ifCond .eq 10, 3) := by decide +kernel
theorem dJ0_coder_7d493_6 : decode cJ0_coder_7d493 6 = .ok (.aload_n 0, 1) := by decide +kernel
theorem dJ0_coder_7d493_7 : decode cJ0_coder_7d493 7 = .ok (.getfield 15, 3) := by decide +kernel
theorem dJ0_coder_7d493_10 : decode cJ0_coder_7d493 10 = .ok (.goto 4, 3) := by decide +kernel
theorem dJ0_coder_7d493_13 : decode cJ0_coder_7d493 13 = .ok (.iconst 1, 1) := by decide +kernel
theorem dJ0_coder_7d493_14 : decode cJ0_coder_7d493 14 = .ok (.ireturn, 1) := by decide +kernel
theorem dJ0_isLatin1_aae02_0 : decode cJ0_isLatin1_aae02 0 = .ok (.getstatic 38, 3) := by decide +kernel
theorem dJ0_isLatin1_aae02_3 : decode cJ0_isLatin1_aae02 3 = .ok (.ifCond .eq 14, 3) := by decide +kernel
theorem dJ0_isLatin1_aae02_6 : decode cJ0_isLatin1_aae02 6 = .ok (.aload_n 0, 1) := by decide +kernel
theorem dJ0_isLatin1_aae02_7 : decode cJ0_isLatin1_aae02 7 = .ok (.getfield 15, 3) := by decide +kernel
theorem dJ0_isLatin1_aae02_10 : decode cJ0_isLatin1_aae02 10 = .ok (.ifCond .ne 7, 3) := by decide +kernel
theorem dJ0_isLatin1_aae02_13 : decode cJ0_isLatin1_aae02 13 = .ok (.iconst 1, 1) := by decide +kernel
theorem dJ0_isLatin1_aae02_14 : decode cJ0_isLatin1_aae02 14 = .ok (.goto 4, 3) := by decide +kernel
theorem dJ0_isLatin1_aae02_17 : decode cJ0_isLatin1_aae02 17 = .ok (.iconst 0, 1) := by decide +kernel
theorem dJ0_isLatin1_aae02_18 : decode cJ0_isLatin1_aae02 18 = .ok (.ireturn, 1) := by decide +kernel
theorem dJ0_checkIndex_df160_0 : decode cJ0_checkIndex_df160 0 = .ok (.iload_n 0, 1) := by decide +kernel
theorem dJ0_checkIndex_df160_1 : decode cJ0_checkIndex_df160 1 = .ok (.iload_n 1, 1) := by decide +kernel
theorem dJ0_checkIndex_df160_2 : decode cJ0_checkIndex_df160 2 = .ok (.getstatic 1053, 3) := by decide +kernel
theorem dJ0_checkIndex_df160_5 : decode cJ0_checkIndex_df160 5 = .ok (.invokestatic 1059, 3) := by decide +kernel
theorem dJ0_checkIndex_df160_8 : decode cJ0_checkIndex_df160 8 = .ok (.pop, 1) := by decide +kernel
theorem dJ0_checkIndex_df160_9 : decode cJ0_checkIndex_df160 9 = .ok (.return_, 1) := by decide +kernel
theorem dJ1_charAt_3b067_0 : decode cJ1_charAt_3b067 0 = .ok (.iload_n 1, 1) := by decide +kernel
theorem dJ1_charAt_3b067_1 : decode cJ1_charAt_3b067 1 = .ok (.aload_n 0, 1) := by decide +kernel
theorem dJ1_charAt_3b067_2 : decode cJ1_charAt_3b067 2 = .ok (.arraylength, 1) := by decide +kernel
theorem dJ1_charAt_3b067_3 : decode cJ1_charAt_3b067 3 = .ok (.invokestatic 9, 3) := by decide +kernel
theorem dJ1_charAt_3b067_6 : decode cJ1_charAt_3b067 6 = .ok (.aload_n 0, 1) := by decide +kernel
theorem dJ1_charAt_3b067_7 : decode cJ1_charAt_3b067 7 = .ok (.iload_n 1, 1) := by decide +kernel
theorem dJ1_charAt_3b067_8 : decode cJ1_charAt_3b067 8 = .ok (.baload, 1) := by decide +kernel
theorem dJ1_charAt_3b067_9 : decode cJ1_charAt_3b067 9 = .ok (.sipush 255, 3) := by decide +kernel
theorem dJ1_charAt_3b067_12 : decode cJ1_charAt_3b067 12 = .ok (.iand, 1) := by decide +kernel
theorem dJ1_charAt_3b067_13 : decode cJ1_charAt_3b067 13 = .ok (.i2c, 1) := by decide +kernel
theorem dJ1_charAt_3b067_14 : decode cJ1_charAt_3b067 14 = .ok (.ireturn, 1) := by decide +kernel
theorem dJ2_getChar_3b067_0 : decode cJ2_getChar_3b067 0 = .ok (.getstatic 44, 3) := by decide +kernel
theorem dJ2_getChar_3b067_3 : decode cJ2_getChar_3b067 3 = .ok (.ifCond .ne 25, 3) := by decide +kernel
theorem dJ2_getChar_3b067_6 : decode cJ2_getChar_3b067 6 = .ok (.iload_n 1, 1) := by decide +kernel
theorem dJ2_getChar_3b067_7 : decode cJ2_getChar_3b067 7 = .ok (.ifCond .lt 11, 3) := by decide +kernel
theorem dJ2_getChar_3b067_10 : decode cJ2_getChar_3b067 10 = .ok (.iload_n 1, 1) := by decide +kernel
theorem dJ2_getChar_3b067_11 : decode cJ2_getChar_3b067 11 = .ok (.aload_n 0, 1) := by decide +kernel
theorem dJ2_getChar_3b067_12 : decode cJ2_getChar_3b067 12 = .ok (.invokestatic 48, 3) := by decide +kernel
theorem dJ2_getChar_3b067_15 : decode cJ2_getChar_3b067 15 = .ok (.if_icmp .lt 13, 3) := by decide +kernel
theorem dJ2_getChar_3b067_18 : decode cJ2_getChar_3b067 18 = .ok (.new 52, 3) := by decide +kernel
theorem dJ2_getChar_3b067_21 : decode cJ2_getChar_3b067 21 = .ok (.dup, 1) := by decide +kernel
theorem dJ2_getChar_3b067_22 : decode cJ2_getChar_3b067 22 = .ok (.ldc 54, 2) := by decide +kernel
theorem dJ2_getChar_3b067_24 : decode cJ2_getChar_3b067 24 = .ok (.invokespecial 56, 3) := by decide +kernel
theorem dJ2_getChar_3b067_27 : decode cJ2_getChar_3b067 27 = .ok (.athrow, 1) := by decide +kernel
theorem dJ2_getChar_3b067_28 : decode cJ2_getChar_3b067 28 = .ok (.iload_n 1, 1) := by decide +kernel
theorem dJ2_getChar_3b067_29 : decode cJ2_getChar_3b067 29 = .ok (.iconst 1, 1) := by decide +kernel
theorem dJ2_getChar_3b067_30 : decode cJ2_getChar_3b067 30 = .ok (.ishl, 1) := by decide +kernel
theorem dJ2_getChar_3b067_31 : decode cJ2_getChar_3b067 31 = .ok (.istore_n 1, 1) := by decide +kernel
theorem dJ2_getChar_3b067_32 : decode cJ2_getChar_3b067 32 = .ok (.aload_n 0, 1) := by decide +kernel
theorem dJ2_getChar_3b067_33 : decode cJ2_getChar_3b067 33 = .ok (.iload_n 1, 1) := by decide +kernel
theorem dJ2_getChar_3b067_34 : decode cJ2_getChar_3b067 34 = .ok (.iinc 1 1, 3) := by decide +kernel
theorem dJ2_getChar_3b067_37 : decode cJ2_getChar_3b067 37 = .ok (.baload, 1) := by decide +kernel
theorem dJ2_getChar_3b067_38 : decode cJ2_getChar_3b067 38 = .ok (.sipush 255, 3) := by decide +kernel
theorem dJ2_getChar_3b067_41 : decode cJ2_getChar_3b067 41 = .ok (.iand, 1) := by decide +kernel
theorem dJ2_getChar_3b067_42 : decode cJ2_getChar_3b067 42 = .ok (.getstatic 59, 3) := by decide +kernel
theorem dJ2_getChar_3b067_45 : decode cJ2_getChar_3b067 45 = .ok (.ishl, 1) := by decide +kernel
theorem dJ2_getChar_3b067_46 : decode cJ2_getChar_3b067 46 = .ok (.aload_n 0, 1) := by decide +kernel
theorem dJ2_getChar_3b067_47 : decode cJ2_getChar_3b067 47 = .ok (.iload_n 1, 1) := by decide +kernel
theorem dJ2_getChar_3b067_48 : decode cJ2_getChar_3b067 48 = .ok (.baload, 1) := by decide +kernel
theorem dJ2_getChar_3b067_49 : decode cJ2_getChar_3b067 49 = .ok (.sipush 255, 3) := by decide +kernel
theorem dJ2_getChar_3b067_52 : decode cJ2_getChar_3b067 52 = .ok (.iand, 1) := by decide +kernel
theorem dJ2_getChar_3b067_53 : decode cJ2_getChar_3b067 53 = .ok (.getstatic 63, 3) := by decide +kernel
theorem dJ2_getChar_3b067_56 : decode cJ2_getChar_3b067 56 = .ok (.ishl, 1) := by decide +kernel
theorem dJ2_getChar_3b067_57 : decode cJ2_getChar_3b067 57 = .ok (.ior, 1) := by decide +kernel
theorem dJ2_getChar_3b067_58 : decode cJ2_getChar_3b067 58 = .ok (.i2c, 1) := by decide +kernel
theorem dJ2_getChar_3b067_59 : decode cJ2_getChar_3b067 59 = .ok (.ireturn, 1) := by decide +kernel
theorem dJ2_length_9d52b_0 : decode cJ2_length_9d52b 0 = .ok (.aload_n 0, 1) := by decide +kernel
theorem dJ2_length_9d52b_1 : decode cJ2_length_9d52b 1 = .ok (.arraylength, 1) := by decide +kernel
theorem dJ2_length_9d52b_2 : decode cJ2_length_9d52b 2 = .ok (.iconst 1, 1) := by decide +kernel
theorem dJ2_length_9d52b_3 : decode cJ2_length_9d52b 3 = .ok (.ishr, 1) := by decide +kernel
theorem dJ2_length_9d52b_4 : decode cJ2_length_9d52b 4 = .ok (.ireturn, 1) := by decide +kernel
theorem dJ2_charAt_3b067_0 : decode cJ2_charAt_3b067 0 = .ok (.iload_n 1, 1) := by decide +kernel
theorem dJ2_charAt_3b067_1 : decode cJ2_charAt_3b067 1 = .ok (.aload_n 0, 1) := by decide +kernel
theorem dJ2_charAt_3b067_2 : decode cJ2_charAt_3b067 2 = .ok (.invokestatic 67, 3) := by decide +kernel
theorem dJ2_charAt_3b067_5 : decode cJ2_charAt_3b067 5 = .ok (.aload_n 0, 1) := by decide +kernel
theorem dJ2_charAt_3b067_6 : decode cJ2_charAt_3b067 6 = .ok (.iload_n 1, 1) := by decide +kernel
theorem dJ2_charAt_3b067_7 : decode cJ2_charAt_3b067 7 = .ok (.invokestatic 71, 3) := by decide +kernel
theorem dJ2_charAt_3b067_10 : decode cJ2_charAt_3b067 10 = .ok (.ireturn, 1) := by decide +kernel
theorem dJ2_checkIndex_2214a_0 : decode cJ2_checkIndex_2214a 0 = .ok (.iload_n 0, 1) := by decide +kernel
theorem dJ2_checkIndex_2214a_1 : decode cJ2_checkIndex_2214a 1 = .ok (.aload_n 1, 1) := by decide +kernel
theorem dJ2_checkIndex_2214a_2 : decode cJ2_checkIndex_2214a 2 = .ok (.invokestatic 48, 3) := by decide +kernel
theorem dJ2_checkIndex_2214a_5 : decode cJ2_checkIndex_2214a 5 = .ok (.invokestatic 414, 3) := by decide +kernel
theorem dJ2_checkIndex_2214a_8 : decode cJ2_checkIndex_2214a 8 = .ok (.return_, 1) := by decide +kernel
theorem dJ3_checkIndex_8e157_0 : decode cJ3_checkIndex_8e157 0 = .ok (.iload_n 0, 1) := by decide +kernel
theorem dJ3_checkIndex_8e157_1 : decode cJ3_checkIndex_8e157 1 = .ok (.ifCond .lt 8, 3) := by decide +kernel
theorem dJ3_checkIndex_8e157_4 : decode cJ3_checkIndex_8e157 4 = .ok (.iload_n 0, 1) := by decide +kernel
theorem dJ3_checkIndex_8e157_5 : decode cJ3_checkIndex_8e157 5 = .ok (.iload_n 1, 1) := by decide +kernel
theorem dJ3_checkIndex_8e157_6 : decode cJ3_checkIndex_8e157 6 = .ok (.if_icmp .lt 10, 3) := by decide +kernel
theorem dJ3_checkIndex_8e157_9 : decode cJ3_checkIndex_8e157 9 = .ok (.aload_n 2, 1) := by decide +kernel
theorem dJ3_checkIndex_8e157_10 : decode cJ3_checkIndex_8e157 10 = .ok (.iload_n 0, 1) := by decide +kernel
theorem dJ3_checkIndex_8e157_11 : decode cJ3_checkIndex_8e157 11 = .ok (.iload_n 1, 1) := by decide +kernel
theorem dJ3_checkIndex_8e157_12 : decode cJ3_checkIndex_8e157 12 = .ok (.invokestatic 95, 3) := by decide +kernel
theorem dJ3_checkIndex_8e157_15 : decode cJ3_checkIndex_8e157 15 = .ok (.athrow, 1) := by decide +kernel
theorem dJ3_checkIndex_8e157_16 : decode cJ3_checkIndex_8e157 16 = .ok (.iload_n 0, 1) := by decide +kernel
theorem dJ3_checkIndex_8e157_17 : decode cJ3_checkIndex_8e157 17 = .ok (.ireturn, 1) := by decide +kernel
theorem dJ6_bitCount_0f7a4_0 : decode cJ6_bitCount_0f7a4 0 = .ok (.iload_n 0, 1) := by decide +kernel
theorem dJ6_bitCount_0f7a4_1 : decode cJ6_bitCount_0f7a4 1 = .ok (.iload_n 0, 1) := by decide +kernel
theorem dJ6_bitCount_0f7a4_2 : decode cJ6_bitCount_0f7a4 2 = .ok (.iconst 1, 1) := by decide +kernel
theorem dJ6_bitCount_0f7a4_3 : decode cJ6_bitCount_0f7a4 3 = .ok (.iushr, 1) := by decide +kernel
theorem dJ6_bitCount_0f7a4_4 : decode cJ6_bitCount_0f7a4 4 = .ok (.ldc_w 265, 3) := by decide +kernel
theorem dJ6_bitCount_0f7a4_7 : decode cJ6_bitCount_0f7a4 7 = .ok (.iand, 1) := by decide +kernel
theorem dJ6_bitCount_0f7a4_8 : decode cJ6_bitCount_0f7a4 8 = .ok (.isub, 1) := by decide +kernel
theorem dJ6_bitCount_0f7a4_9 : decode cJ6_bitCount_0f7a4 9 = .ok (.istore_n 0, 1) := by decide +kernel
theorem dJ6_bitCount_0f7a4_10 : decode cJ6_bitCount_0f7a4 10 = .ok (.iload_n 0, 1) := by decide +kernel
theorem dJ6_bitCount_0f7a4_11 : decode cJ6_bitCount_0f7a4 11 = .ok (.ldc_w 266, 3) := by decide +kernel
theorem dJ6_bitCount_0f7a4_14 : decode cJ6_bitCount_0f7a4 14 = .ok (.iand, 1) := by decide +kernel
theorem dJ6_bitCount_0f7a4_15 : decode cJ6_bitCount_0f7a4 15 = .ok (.iload_n 0, 1) := by decide +kernel
theorem dJ6_bitCount_0f7a4_16 : decode cJ6_bitCount_0f7a4 16 = .ok (.iconst 2, 1) := by decide +kernel
theorem dJ6_bitCount_0f7a4_17 : decode cJ6_bitCount_0f7a4 17 = .ok (.iushr, 1) := by decide +kernel
theorem dJ6_bitCount_0f7a4_18 : decode cJ6_bitCount_0f7a4 18 = .ok (.ldc_w 266, 3) := by decide +kernel
theorem dJ6_bitCount_0f7a4_21 : decode cJ6_bitCount_0f7a4 21 = .ok (.iand, 1) := by decide +kernel
theorem dJ6_bitCount_0f7a4_22 : decode cJ6_bitCount_0f7a4 22 = .ok (.iadd, 1) := by decide +kernel
theorem dJ6_bitCount_0f7a4_23 : decode cJ6_bitCount_0f7a4 23 = .ok (.istore_n 0, 1) := by decide +kernel
theorem dJ6_bitCount_0f7a4_24 : decode cJ6_bitCount_0f7a4 24 = .ok (.iload_n 0, 1) := by decide +kernel
theorem dJ6_bitCount_0f7a4_25 : decode cJ6_bitCount_0f7a4 25 = .ok (.iload_n 0, 1) := by decide +kernel
theorem dJ6_bitCount_0f7a4_26 : decode cJ6_bitCount_0f7a4 26 = .ok (.iconst 4, 1) := by decide +kernel
theorem dJ6_bitCount_0f7a4_27 : decode cJ6_bitCount_0f7a4 27 = .ok (.iushr, 1) := by decide +kernel
theorem dJ6_bitCount_0f7a4_28 : decode cJ6_bitCount_0f7a4 28 = .ok (.iadd, 1) := by decide +kernel
theorem dJ6_bitCount_0f7a4_29 : decode cJ6_bitCount_0f7a4 29 = .ok (.ldc_w 267, 3) := by decide +kernel
theorem dJ6_bitCount_0f7a4_32 : decode cJ6_bitCount_0f7a4 32 = .ok (.iand, 1) := by decide +kernel
theorem dJ6_bitCount_0f7a4_33 : decode cJ6_bitCount_0f7a4 33 = .ok (.istore_n 0, 1) := by decide +kernel
theorem dJ6_bitCount_0f7a4_34 : decode cJ6_bitCount_0f7a4 34 = .ok (.iload_n 0, 1) := by decide +kernel
theorem dJ6_bitCount_0f7a4_35 : decode cJ6_bitCount_0f7a4 35 = .ok (.iload_n 0, 1) := by decide +kernel
theorem dJ6_bitCount_0f7a4_36 : decode cJ6_bitCount_0f7a4 36 = .ok (.bipush 8, 2) := by decide +kernel
theorem dJ6_bitCount_0f7a4_38 : decode cJ6_bitCount_0f7a4 38 = .ok (.iushr, 1) := by decide +kernel
theorem dJ6_bitCount_0f7a4_39 : decode cJ6_bitCount_0f7a4 39 = .ok (.iadd, 1) := by decide +kernel
theorem dJ6_bitCount_0f7a4_40 : decode cJ6_bitCount_0f7a4 40 = .ok (.istore_n 0, 1) := by decide +kernel
theorem dJ6_bitCount_0f7a4_41 : decode cJ6_bitCount_0f7a4 41 = .ok (.iload_n 0, 1) := by decide +kernel
theorem dJ6_bitCount_0f7a4_42 : decode cJ6_bitCount_0f7a4 42 = .ok (.iload_n 0, 1) := by decide +kernel
theorem dJ6_bitCount_0f7a4_43 : decode cJ6_bitCount_0f7a4 43 = .ok (.bipush 16, 2) := by decide +kernel
theorem dJ6_bitCount_0f7a4_45 : decode cJ6_bitCount_0f7a4 45 = .ok (.iushr, 1) := by decide +kernel
theorem dJ6_bitCount_0f7a4_46 : decode cJ6_bitCount_0f7a4 46 = .ok (.iadd, 1) := by decide +kernel
theorem dJ6_bitCount_0f7a4_47 : decode cJ6_bitCount_0f7a4 47 = .ok (.istore_n 0, 1) := by decide +kernel
theorem dJ6_bitCount_0f7a4_48 : decode cJ6_bitCount_0f7a4 48 = .ok (.iload_n 0, 1) := by decide +kernel
theorem dJ6_bitCount_0f7a4_49 : decode cJ6_bitCount_0f7a4 49 = .ok (.bipush 63, 2) := by decide +kernel
theorem dJ6_bitCount_0f7a4_51 : decode cJ6_bitCount_0f7a4 51 = .ok (.iand, 1) := by decide +kernel
theorem dJ6_bitCount_0f7a4_52 : decode cJ6_bitCount_0f7a4 52 = .ok (.ireturn, 1) := by decide +kernel
theorem dJ7_fill_53178_0 : decode cJ7_fill_53178 0 = .ok (.iconst 0, 1) := by decide +kernel
theorem dJ7_fill_53178_1 : decode cJ7_fill_53178 1 = .ok (.istore_n 2, 1) := by decide +kernel
theorem dJ7_fill_53178_2 : decode cJ7_fill_53178 2 = .ok (.aload_n 0, 1) := by decide +kernel
theorem dJ7_fill_53178_3 : decode cJ7_fill_53178 3 = .ok (.arraylength, 1) := by decide +kernel
theorem dJ7_fill_53178_4 : decode cJ7_fill_53178 4 = .ok (.istore_n 3, 1) := by decide +kernel
theorem dJ7_fill_53178_5 : decode cJ7_fill_53178 5 = .ok (.iload_n 2, 1) := by decide +kernel
theorem dJ7_fill_53178_6 : decode cJ7_fill_53178 6 = .ok (.iload_n 3, 1) := by decide +kernel
theorem dJ7_fill_53178_7 : decode cJ7_fill_53178 7 = .ok (.if_icmp .ge 13, 3) := by decide +kernel
theorem dJ7_fill_53178_10 : decode cJ7_fill_53178 10 = .ok (.aload_n 0, 1) := by decide +kernel
theorem dJ7_fill_53178_11 : decode cJ7_fill_53178 11 = .ok (.iload_n 2, 1) := by decide +kernel
theorem dJ7_fill_53178_12 : decode cJ7_fill_53178 12 = .ok (.iload_n 1, 1) := by decide +kernel
theorem dJ7_fill_53178_13 : decode cJ7_fill_53178 13 = .ok (.iastore, 1) := by decide +kernel
theorem dJ7_fill_53178_14 : decode cJ7_fill_53178 14 = .ok (.iinc 2 1, 3) := by decide +kernel
theorem dJ7_fill_53178_17 : decode cJ7_fill_53178 17 = .ok (.goto (-12), 3) := by decide +kernel
theorem dJ7_fill_53178_20 : decode cJ7_fill_53178 20 = .ok (.return_, 1) := by decide +kernel
theorem dJ9_max_7cf53_0 : decode cJ9_max_7cf53 0 = .ok (.iload_n 0, 1) := by decide +kernel
theorem dJ9_max_7cf53_1 : decode cJ9_max_7cf53 1 = .ok (.iload_n 1, 1) := by decide +kernel
theorem dJ9_max_7cf53_2 : decode cJ9_max_7cf53 2 = .ok (.if_icmp .lt 7, 3) := by decide +kernel
theorem dJ9_max_7cf53_5 : decode cJ9_max_7cf53 5 = .ok (.iload_n 0, 1) := by decide +kernel
theorem dJ9_max_7cf53_6 : decode cJ9_max_7cf53 6 = .ok (.goto 4, 3) := by decide +kernel
theorem dJ9_max_7cf53_9 : decode cJ9_max_7cf53 9 = .ok (.iload_n 1, 1) := by decide +kernel
theorem dJ9_max_7cf53_10 : decode cJ9_max_7cf53 10 = .ok (.ireturn, 1) := by decide +kernel
theorem dJ9_max_f86c9_0 : decode cJ9_max_f86c9 0 = .ok (.lload_n 0, 1) := by decide +kernel
theorem dJ9_max_f86c9_1 : decode cJ9_max_f86c9 1 = .ok (.lload_n 2, 1) := by decide +kernel
theorem dJ9_max_f86c9_2 : decode cJ9_max_f86c9 2 = .ok (.lcmp, 1) := by decide +kernel
theorem dJ9_max_f86c9_3 : decode cJ9_max_f86c9 3 = .ok (.ifCond .lt 7, 3) := by decide +kernel
theorem dJ9_max_f86c9_6 : decode cJ9_max_f86c9 6 = .ok (.lload_n 0, 1) := by decide +kernel
theorem dJ9_max_f86c9_7 : decode cJ9_max_f86c9 7 = .ok (.goto 4, 3) := by decide +kernel
theorem dJ9_max_f86c9_10 : decode cJ9_max_f86c9 10 = .ok (.lload_n 2, 1) := by decide +kernel
theorem dJ9_max_f86c9_11 : decode cJ9_max_f86c9 11 = .ok (.lreturn, 1) := by decide +kernel
theorem dJ9_min_7cf53_0 : decode cJ9_min_7cf53 0 = .ok (.iload_n 0, 1) := by decide +kernel
theorem dJ9_min_7cf53_1 : decode cJ9_min_7cf53 1 = .ok (.iload_n 1, 1) := by decide +kernel
theorem dJ9_min_7cf53_2 : decode cJ9_min_7cf53 2 = .ok (.if_icmp .gt 7, 3) := by decide +kernel
theorem dJ9_min_7cf53_5 : decode cJ9_min_7cf53 5 = .ok (.iload_n 0, 1) := by decide +kernel
theorem dJ9_min_7cf53_6 : decode cJ9_min_7cf53 6 = .ok (.goto 4, 3) := by decide +kernel
theorem dJ9_min_7cf53_9 : decode cJ9_min_7cf53 9 = .ok (.iload_n 1, 1) := by decide +kernel
theorem dJ9_min_7cf53_10 : decode cJ9_min_7cf53 10 = .ok (.ireturn, 1) := by decide +kernel
theorem dX0_init_0 : decode cX0_init 0 = .ok (.aload_n 0, 1) := by decide +kernel
theorem dX0_init_1 : decode cX0_init 1 = .ok (.invokespecial 3, 3) := by decide +kernel
theorem dX0_init_4 : decode cX0_init 4 = .ok (.aload_n 0, 1) := by decide +kernel
theorem dX0_init_5 : decode cX0_init 5 = .ok (.sipush 5040, 3) := by decide +kernel
theorem dX0_init_8 : decode cX0_init 8 = .ok (.newarray .int, 2) := by decide +kernel
theorem dX0_init_10 : decode cX0_init 10 = .ok (.putfield 9, 3) := by decide +kernel
theorem dX0_init_13 : decode cX0_init 13 = .ok (.aload_n 0, 1) := by decide +kernel
theorem dX0_init_14 : decode cX0_init 14 = .ok (.iconst 0, 1) := by decide +kernel
theorem dX0_init_15 : decode cX0_init 15 = .ok (.putfield 15, 3) := by decide +kernel
theorem dX0_init_18 : decode cX0_init 18 = .ok (.aload_n 0, 1) := by decide +kernel
theorem dX0_init_19 : decode cX0_init 19 = .ok (.sipush 5040, 3) := by decide +kernel
theorem dX0_init_22 : decode cX0_init 22 = .ok (.newarray .int, 2) := by decide +kernel
theorem dX0_init_24 : decode cX0_init 24 = .ok (.putfield 19, 3) := by decide +kernel
theorem dX0_init_27 : decode cX0_init 27 = .ok (.aload_n 0, 1) := by decide +kernel
theorem dX0_init_28 : decode cX0_init 28 = .ok (.bipush 7, 2) := by decide +kernel
theorem dX0_init_30 : decode cX0_init 30 = .ok (.newarray .int, 2) := by decide +kernel
theorem dX0_init_32 : decode cX0_init 32 = .ok (.putfield 22, 3) := by decide +kernel
theorem dX0_init_35 : decode cX0_init 35 = .ok (.aload_n 0, 1) := by decide +kernel
theorem dX0_init_36 : decode cX0_init 36 = .ok (.bipush 7, 2) := by decide +kernel
theorem dX0_init_38 : decode cX0_init 38 = .ok (.newarray .int, 2) := by decide +kernel
theorem dX0_init_40 : decode cX0_init 40 = .ok (.putfield 25, 3) := by decide +kernel
theorem dX0_init_43 : decode cX0_init 43 = .ok (.aload_n 0, 1) := by decide +kernel
theorem dX0_init_44 : decode cX0_init 44 = .ok (.iconst 4, 1) := by decide +kernel
theorem dX0_init_45 : decode cX0_init 45 = .ok (.bipush 7, 2) := by decide +kernel
theorem dX0_init_47 : decode cX0_init 47 = .ok (.multianewarray 28 2, 4) := by decide +kernel
theorem dX0_init_51 : decode cX0_init 51 = .ok (.putfield 30, 3) := by decide +kernel
theorem dX0_init_54 : decode cX0_init 54 = .ok (.aload_n 0, 1) := by decide +kernel
theorem dX0_init_55 : decode cX0_init 55 = .ok (.iconst 0, 1) := by decide +kernel
theorem dX0_init_56 : decode cX0_init 56 = .ok (.putfield 33, 3) := by decide +kernel
theorem dX0_init_59 : decode cX0_init 59 = .ok (.aload_n 0, 1) := by decide +kernel
theorem dX0_init_60 : decode cX0_init 60 = .ok (.iconst 0, 1) := by decide +kernel
theorem dX0_init_61 : decode cX0_init 61 = .ok (.putfield 36, 3) := by decide +kernel
theorem dX0_init_64 : decode cX0_init 64 = .ok (.aload_n 0, 1) := by decide +kernel
theorem dX0_init_65 : decode cX0_init 65 = .ok (.iconst 4, 1) := by decide +kernel
theorem dX0_init_66 : decode cX0_init 66 = .ok (.newarray .int, 2) := by decide +kernel
theorem dX0_init_68 : decode cX0_init 68 = .ok (.putfield 39, 3) := by decide +kernel
theorem dX0_init_71 : decode cX0_init 71 = .ok (.return_, 1) := by decide +kernel
theorem dX0_isMadeFor_0 : decode cX0_isMadeFor 0 = .ok (.aload_n 0, 1) := by decide +kernel
theorem dX0_isMadeFor_1 : decode cX0_isMadeFor 1 = .ok (.getfield 33, 3) := by decide +kernel
theorem dX0_isMadeFor_4 : decode cX0_isMadeFor 4 = .ok (.aload_n 1, 1) := by decide +kernel
theorem dX0_isMadeFor_5 : decode cX0_isMadeFor 5 = .ok (.getfield 42, 3) := by decide +kernel
theorem dX0_isMadeFor_8 : decode cX0_isMadeFor 8 = .ok (.if_icmp .ne 27, 3) := by decide +kernel
theorem dX0_isMadeFor_11 : decode cX0_isMadeFor 11 = .ok (.aload_n 0, 1) := by decide +kernel
theorem dX0_isMadeFor_12 : decode cX0_isMadeFor 12 = .ok (.getfield 36, 3) := by decide +kernel
theorem dX0_isMadeFor_15 : decode cX0_isMadeFor 15 = .ok (.aload_n 1, 1) := by decide +kernel
theorem dX0_isMadeFor_16 : decode cX0_isMadeFor 16 = .ok (.getfield 47, 3) := by decide +kernel
theorem dX0_isMadeFor_19 : decode cX0_isMadeFor 19 = .ok (.if_icmp .ne 16, 3) := by decide +kernel
theorem dX0_isMadeFor_22 : decode cX0_isMadeFor 22 = .ok (.aload_n 0, 1) := by decide +kernel
theorem dX0_isMadeFor_23 : decode cX0_isMadeFor 23 = .ok (.getfield 9, 3) := by decide +kernel
theorem dX0_isMadeFor_26 : decode cX0_isMadeFor 26 = .ok (.iconst 0, 1) := by decide +kernel
theorem dX0_isMadeFor_27 : decode cX0_isMadeFor 27 = .ok (.iaload, 1) := by decide +kernel
theorem dX0_isMadeFor_28 : decode cX0_isMadeFor 28 = .ok (.aload_n 1, 1) := by decide +kernel
theorem dX0_isMadeFor_29 : decode cX0_isMadeFor 29 = .ok (.invokevirtual 50, 3) := by decide +kernel
theorem dX0_isMadeFor_32 : decode cX0_isMadeFor 32 = .ok (.if_icmp .eq 5, 3) := by decide +kernel
theorem dX0_isMadeFor_35 : decode cX0_isMadeFor 35 = .ok (.iconst 0, 1) := by decide +kernel
theorem dX0_isMadeFor_36 : decode cX0_isMadeFor 36 = .ok (.ireturn, 1) := by decide +kernel
theorem dX0_isMadeFor_37 : decode cX0_isMadeFor 37 = .ok (.iconst 0, 1) := by decide +kernel
theorem dX0_isMadeFor_38 : decode cX0_isMadeFor 38 = .ok (.istore_n 2, 1) := by decide +kernel
theorem dX0_isMadeFor_39 : decode cX0_isMadeFor 39 = .ok (.iload_n 2, 1) := by decide +kernel
theorem dX0_isMadeFor_40 : decode cX0_isMadeFor 40 = .ok (.aload_n 1, 1) := by decide +kernel
theorem dX0_isMadeFor_41 : decode cX0_isMadeFor 41 = .ok (.getfield 47, 3) := by decide +kernel
theorem dX0_isMadeFor_44 : decode cX0_isMadeFor 44 = .ok (.if_icmp .ge 26, 3) := by decide +kernel
theorem dX0_isMadeFor_47 : decode cX0_isMadeFor 47 = .ok (.aload_n 0, 1) := by decide +kernel
theorem dX0_isMadeFor_48 : decode cX0_isMadeFor 48 = .ok (.getfield 39, 3) := by decide +kernel
theorem dX0_isMadeFor_51 : decode cX0_isMadeFor 51 = .ok (.iload_n 2, 1) := by decide +kernel
theorem dX0_isMadeFor_52 : decode cX0_isMadeFor 52 = .ok (.iaload, 1) := by decide +kernel
theorem dX0_isMadeFor_53 : decode cX0_isMadeFor 53 = .ok (.aload_n 1, 1) := by decide +kernel
theorem dX0_isMadeFor_54 : decode cX0_isMadeFor 54 = .ok (.getfield 54, 3) := by decide +kernel
theorem dX0_isMadeFor_57 : decode cX0_isMadeFor 57 = .ok (.iload_n 2, 1) := by decide +kernel
theorem dX0_isMadeFor_58 : decode cX0_isMadeFor 58 = .ok (.iaload, 1) := by decide +kernel
theorem dX0_isMadeFor_59 : decode cX0_isMadeFor 59 = .ok (.if_icmp .eq 5, 3) := by decide +kernel
theorem dX0_isMadeFor_62 : decode cX0_isMadeFor 62 = .ok (.iconst 0, 1) := by decide +kernel
theorem dX0_isMadeFor_63 : decode cX0_isMadeFor 63 = .ok (.ireturn, 1) := by decide +kernel
theorem dX0_isMadeFor_64 : decode cX0_isMadeFor 64 = .ok (.iinc 2 1, 3) := by decide +kernel
theorem dX0_isMadeFor_67 : decode cX0_isMadeFor 67 = .ok (.goto (-28), 3) := by decide +kernel
theorem dX0_isMadeFor_70 : decode cX0_isMadeFor 70 = .ok (.iconst 1, 1) := by decide +kernel
theorem dX0_isMadeFor_71 : decode cX0_isMadeFor 71 = .ok (.ireturn, 1) := by decide +kernel
theorem dX0_spreadFrom_0 : decode cX0_spreadFrom 0 = .ok (.aload_n 0, 1) := by decide +kernel
theorem dX0_spreadFrom_1 : decode cX0_spreadFrom 1 = .ok (.aload_n 1, 1) := by decide +kernel
theorem dX0_spreadFrom_2 : decode cX0_spreadFrom 2 = .ok (.invokevirtual 57, 3) := by decide +kernel
theorem dX0_spreadFrom_5 : decode cX0_spreadFrom 5 = .ok (.ifCond .eq 4, 3) := by decide +kernel
theorem dX0_spreadFrom_8 : decode cX0_spreadFrom 8 = .ok (.return_, 1) := by decide +kernel
theorem dX0_spreadFrom_9 : decode cX0_spreadFrom 9 = .ok (.aload_n 1, 1) := by decide +kernel
theorem dX0_spreadFrom_10 : decode cX0_spreadFrom 10 = .ok (.getfield 42, 3) := by decide +kernel
theorem dX0_spreadFrom_13 : decode cX0_spreadFrom 13 = .ok (.istore_n 2, 1) := by decide +kernel
theorem dX0_spreadFrom_14 : decode cX0_spreadFrom 14 = .ok (.aload_n 0, 1) := by decide +kernel
theorem dX0_spreadFrom_15 : decode cX0_spreadFrom 15 = .ok (.iload_n 2, 1) := by decide +kernel
theorem dX0_spreadFrom_16 : decode cX0_spreadFrom 16 = .ok (.putfield 33, 3) := by decide +kernel
theorem dX0_spreadFrom_19 : decode cX0_spreadFrom 19 = .ok (.aload_n 0, 1) := by decide +kernel
theorem dX0_spreadFrom_20 : decode cX0_spreadFrom 20 = .ok (.aload_n 1, 1) := by decide +kernel
theorem dX0_spreadFrom_21 : decode cX0_spreadFrom 21 = .ok (.getfield 47, 3) := by decide +kernel
theorem dX0_spreadFrom_24 : decode cX0_spreadFrom 24 = .ok (.putfield 36, 3) := by decide +kernel
theorem dX0_spreadFrom_27 : decode cX0_spreadFrom 27 = .ok (.aload_n 1, 1) := by decide +kernel
theorem dX0_spreadFrom_28 : decode cX0_spreadFrom 28 = .ok (.getfield 54, 3) := by decide +kernel
theorem dX0_spreadFrom_31 : decode cX0_spreadFrom 31 = .ok (.iconst 0, 1) := by decide +kernel
theorem dX0_spreadFrom_32 : decode cX0_spreadFrom 32 = .ok (.aload_n 0, 1) := by decide +kernel
theorem dX0_spreadFrom_33 : decode cX0_spreadFrom 33 = .ok (.getfield 39, 3) := by decide +kernel
theorem dX0_spreadFrom_36 : decode cX0_spreadFrom 36 = .ok (.iconst 0, 1) := by decide +kernel
theorem dX0_spreadFrom_37 : decode cX0_spreadFrom 37 = .ok (.iconst 4, 1) := by decide +kernel
theorem dX0_spreadFrom_38 : decode cX0_spreadFrom 38 = .ok (.invokestatic 61, 3) := by decide +kernel
theorem dX0_spreadFrom_41 : decode cX0_spreadFrom 41 = .ok (.iconst 0, 1) := by decide +kernel
theorem dX0_spreadFrom_42 : decode cX0_spreadFrom 42 = .ok (.istore_n 3, 1) := by decide +kernel
theorem dX0_spreadFrom_43 : decode cX0_spreadFrom 43 = .ok (.iload_n 3, 1) := by decide +kernel
theorem dX0_spreadFrom_44 : decode cX0_spreadFrom 44 = .ok (.aload_n 1, 1) := by decide +kernel
theorem dX0_spreadFrom_45 : decode cX0_spreadFrom 45 = .ok (.getfield 47, 3) := by decide +kernel
theorem dX0_spreadFrom_48 : decode cX0_spreadFrom 48 = .ok (.if_icmp .ge 25, 3) := by decide +kernel
theorem dX0_spreadFrom_51 : decode cX0_spreadFrom 51 = .ok (.aload_n 0, 1) := by decide +kernel
theorem dX0_spreadFrom_52 : decode cX0_spreadFrom 52 = .ok (.getfield 30, 3) := by decide +kernel
theorem dX0_spreadFrom_55 : decode cX0_spreadFrom 55 = .ok (.iload_n 3, 1) := by decide +kernel
theorem dX0_spreadFrom_56 : decode cX0_spreadFrom 56 = .ok (.aaload, 1) := by decide +kernel
theorem dX0_spreadFrom_57 : decode cX0_spreadFrom 57 = .ok (.iload_n 2, 1) := by decide +kernel
theorem dX0_spreadFrom_58 : decode cX0_spreadFrom 58 = .ok (.aload_n 1, 1) := by decide +kernel
theorem dX0_spreadFrom_59 : decode cX0_spreadFrom 59 = .ok (.getfield 54, 3) := by decide +kernel
theorem dX0_spreadFrom_62 : decode cX0_spreadFrom 62 = .ok (.iload_n 3, 1) := by decide +kernel
theorem dX0_spreadFrom_63 : decode cX0_spreadFrom 63 = .ok (.iaload, 1) := by decide +kernel
theorem dX0_spreadFrom_64 : decode cX0_spreadFrom 64 = .ok (.invokestatic 67, 3) := by decide +kernel
theorem dX0_spreadFrom_67 : decode cX0_spreadFrom 67 = .ok (.iinc 3 1, 3) := by decide +kernel
theorem dX0_spreadFrom_70 : decode cX0_spreadFrom 70 = .ok (.goto (-27), 3) := by decide +kernel
theorem dX0_spreadFrom_73 : decode cX0_spreadFrom 73 = .ok (.aload_n 0, 1) := by decide +kernel
theorem dX0_spreadFrom_74 : decode cX0_spreadFrom 74 = .ok (.getfield 19, 3) := by decide +kernel
theorem dX0_spreadFrom_77 : decode cX0_spreadFrom 77 = .ok (.iconst (-1), 1) := by decide +kernel
theorem dX0_spreadFrom_78 : decode cX0_spreadFrom 78 = .ok (.invokestatic 73, 3) := by decide +kernel
theorem dX0_spreadFrom_81 : decode cX0_spreadFrom 81 = .ok (.aload_n 0, 1) := by decide +kernel
theorem dX0_spreadFrom_82 : decode cX0_spreadFrom 82 = .ok (.iconst 0, 1) := by decide +kernel
theorem dX0_spreadFrom_83 : decode cX0_spreadFrom 83 = .ok (.putfield 15, 3) := by decide +kernel
theorem dX0_spreadFrom_86 : decode cX0_spreadFrom 86 = .ok (.aload_n 0, 1) := by decide +kernel
theorem dX0_spreadFrom_87 : decode cX0_spreadFrom 87 = .ok (.aload_n 1, 1) := by decide +kernel
theorem dX0_spreadFrom_88 : decode cX0_spreadFrom 88 = .ok (.invokevirtual 50, 3) := by decide +kernel
theorem dX0_spreadFrom_91 : decode cX0_spreadFrom 91 = .ok (.bipush (-2), 2) := by decide +kernel
theorem dX0_spreadFrom_93 : decode cX0_spreadFrom 93 = .ok (.invokevirtual 79, 3) := by decide +kernel
theorem dX0_spreadFrom_96 : decode cX0_spreadFrom 96 = .ok (.iconst 0, 1) := by decide +kernel
theorem dX0_spreadFrom_97 : decode cX0_spreadFrom 97 = .ok (.istore_n 3, 1) := by decide +kernel
theorem dX0_spreadFrom_98 : decode cX0_spreadFrom 98 = .ok (.iload_n 3, 1) := by decide +kernel
theorem dX0_spreadFrom_99 : decode cX0_spreadFrom 99 = .ok (.aload_n 0, 1) := by decide +kernel
theorem dX0_spreadFrom_100 : decode cX0_spreadFrom 100 = .ok (.getfield 15, 3) := by decide +kernel
theorem dX0_spreadFrom_103 : decode cX0_spreadFrom 103 = .ok (.if_icmp .ge 90, 3) := by decide +kernel
theorem dX0_spreadFrom_106 : decode cX0_spreadFrom 106 = .ok (.iload_n 3, 1) := by decide +kernel
theorem dX0_spreadFrom_107 : decode cX0_spreadFrom 107 = .ok (.sipush 5040, 3) := by decide +kernel
theorem dX0_spreadFrom_110 : decode cX0_spreadFrom 110 = .ok (.if_icmp .ge 83, 3) := by decide +kernel
theorem dX0_spreadFrom_113 : decode cX0_spreadFrom 113 = .ok (.aload_n 0, 1) := by decide +kernel
theorem dX0_spreadFrom_114 : decode cX0_spreadFrom 114 = .ok (.getfield 9, 3) := by decide +kernel
theorem dX0_spreadFrom_117 : decode cX0_spreadFrom 117 = .ok (.iload_n 3, 1) := by decide +kernel
theorem dX0_spreadFrom_118 : decode cX0_spreadFrom 118 = .ok (.iaload, 1) := by decide +kernel
theorem dX0_spreadFrom_119 : decode cX0_spreadFrom 119 = .ok (.istore 4, 2) := by decide +kernel
theorem dX0_spreadFrom_121 : decode cX0_spreadFrom 121 = .ok (.aload_n 0, 1) := by decide +kernel
theorem dX0_spreadFrom_122 : decode cX0_spreadFrom 122 = .ok (.getfield 22, 3) := by decide +kernel
theorem dX0_spreadFrom_125 : decode cX0_spreadFrom 125 = .ok (.iload_n 2, 1) := by decide +kernel
theorem dX0_spreadFrom_126 : decode cX0_spreadFrom 126 = .ok (.iload 4, 2) := by decide +kernel
theorem dX0_spreadFrom_128 : decode cX0_spreadFrom 128 = .ok (.invokestatic 67, 3) := by decide +kernel
theorem dX0_spreadFrom_131 : decode cX0_spreadFrom 131 = .ok (.iconst 0, 1) := by decide +kernel
theorem dX0_spreadFrom_132 : decode cX0_spreadFrom 132 = .ok (.istore 5, 2) := by decide +kernel
theorem dX0_spreadFrom_134 : decode cX0_spreadFrom 134 = .ok (.iload 5, 2) := by decide +kernel
theorem dX0_spreadFrom_136 : decode cX0_spreadFrom 136 = .ok (.aload_n 1, 1) := by decide +kernel
theorem dX0_spreadFrom_137 : decode cX0_spreadFrom 137 = .ok (.getfield 47, 3) := by decide +kernel
theorem dX0_spreadFrom_140 : decode cX0_spreadFrom 140 = .ok (.if_icmp .ge 47, 3) := by decide +kernel
theorem dX0_spreadFrom_143 : decode cX0_spreadFrom 143 = .ok (.aload_n 0, 1) := by decide +kernel
theorem dX0_spreadFrom_144 : decode cX0_spreadFrom 144 = .ok (.getfield 25, 3) := by decide +kernel
theorem dX0_spreadFrom_147 : decode cX0_spreadFrom 147 = .ok (.aload_n 0, 1) := by decide +kernel
theorem dX0_spreadFrom_148 : decode cX0_spreadFrom 148 = .ok (.getfield 22, 3) := by decide +kernel
theorem dX0_spreadFrom_151 : decode cX0_spreadFrom 151 = .ok (.aload_n 0, 1) := by decide +kernel
theorem dX0_spreadFrom_152 : decode cX0_spreadFrom 152 = .ok (.getfield 30, 3) := by decide +kernel
theorem dX0_spreadFrom_155 : decode cX0_spreadFrom 155 = .ok (.iload 5, 2) := by decide +kernel
theorem dX0_spreadFrom_157 : decode cX0_spreadFrom 157 = .ok (.aaload, 1) := by decide +kernel
theorem dX0_spreadFrom_158 : decode cX0_spreadFrom 158 = .ok (.iload_n 2, 1) := by decide +kernel
theorem dX0_spreadFrom_159 : decode cX0_spreadFrom 159 = .ok (.invokestatic 83, 3) := by decide +kernel
theorem dX0_spreadFrom_162 : decode cX0_spreadFrom 162 = .ok (.aload_n 0, 1) := by decide +kernel
theorem dX0_spreadFrom_163 : decode cX0_spreadFrom 163 = .ok (.aload_n 0, 1) := by decide +kernel
theorem dX0_spreadFrom_164 : decode cX0_spreadFrom 164 = .ok (.getfield 25, 3) := by decide +kernel
theorem dX0_spreadFrom_167 : decode cX0_spreadFrom 167 = .ok (.iload_n 2, 1) := by decide +kernel
theorem dX0_spreadFrom_168 : decode cX0_spreadFrom 168 = .ok (.invokestatic 87, 3) := by decide +kernel
theorem dX0_spreadFrom_171 : decode cX0_spreadFrom 171 = .ok (.iconst 4, 1) := by decide +kernel
theorem dX0_spreadFrom_172 : decode cX0_spreadFrom 172 = .ok (.iload 4, 2) := by decide +kernel
theorem dX0_spreadFrom_174 : decode cX0_spreadFrom 174 = .ok (.imul, 1) := by decide +kernel
theorem dX0_spreadFrom_175 : decode cX0_spreadFrom 175 = .ok (.iload 5, 2) := by decide +kernel
theorem dX0_spreadFrom_177 : decode cX0_spreadFrom 177 = .ok (.iadd, 1) := by decide +kernel
theorem dX0_spreadFrom_178 : decode cX0_spreadFrom 178 = .ok (.invokevirtual 79, 3) := by decide +kernel
theorem dX0_spreadFrom_181 : decode cX0_spreadFrom 181 = .ok (.iinc 5 1, 3) := by decide +kernel
theorem dX0_spreadFrom_184 : decode cX0_spreadFrom 184 = .ok (.goto (-50), 3) := by decide +kernel
theorem dX0_spreadFrom_187 : decode cX0_spreadFrom 187 = .ok (.iinc 3 1, 3) := by decide +kernel
theorem dX0_spreadFrom_190 : decode cX0_spreadFrom 190 = .ok (.goto (-92), 3) := by decide +kernel
theorem dX0_spreadFrom_193 : decode cX0_spreadFrom 193 = .ok (.return_, 1) := by decide +kernel
theorem dX0_add_0 : decode cX0_add 0 = .ok (.aload_n 0, 1) := by decide +kernel
theorem dX0_add_1 : decode cX0_add 1 = .ok (.getfield 19, 3) := by decide +kernel
theorem dX0_add_4 : decode cX0_add 4 = .ok (.iload_n 1, 1) := by decide +kernel
theorem dX0_add_5 : decode cX0_add 5 = .ok (.iaload, 1) := by decide +kernel
theorem dX0_add_6 : decode cX0_add 6 = .ok (.iconst (-1), 1) := by decide +kernel
theorem dX0_add_7 : decode cX0_add 7 = .ok (.if_icmp .ne 40, 3) := by decide +kernel
theorem dX0_add_10 : decode cX0_add 10 = .ok (.aload_n 0, 1) := by decide +kernel
theorem dX0_add_11 : decode cX0_add 11 = .ok (.getfield 15, 3) := by decide +kernel
theorem dX0_add_14 : decode cX0_add 14 = .ok (.sipush 5040, 3) := by decide +kernel
theorem dX0_add_17 : decode cX0_add 17 = .ok (.if_icmp .ge 30, 3) := by decide +kernel
theorem dX0_add_20 : decode cX0_add 20 = .ok (.aload_n 0, 1) := by decide +kernel
theorem dX0_add_21 : decode cX0_add 21 = .ok (.getfield 19, 3) := by decide +kernel
theorem dX0_add_24 : decode cX0_add 24 = .ok (.iload_n 1, 1) := by decide +kernel
theorem dX0_add_25 : decode cX0_add 25 = .ok (.iload_n 2, 1) := by decide +kernel
theorem dX0_add_26 : decode cX0_add 26 = .ok (.iastore, 1) := by decide +kernel
theorem dX0_add_27 : decode cX0_add 27 = .ok (.aload_n 0, 1) := by decide +kernel
theorem dX0_add_28 : decode cX0_add 28 = .ok (.getfield 9, 3) := by decide +kernel
theorem dX0_add_31 : decode cX0_add 31 = .ok (.aload_n 0, 1) := by decide +kernel
theorem dX0_add_32 : decode cX0_add 32 = .ok (.getfield 15, 3) := by decide +kernel
theorem dX0_add_35 : decode cX0_add 35 = .ok (.iload_n 1, 1) := by decide +kernel
theorem dX0_add_36 : decode cX0_add 36 = .ok (.iastore, 1) := by decide +kernel
theorem dX0_add_37 : decode cX0_add 37 = .ok (.aload_n 0, 1) := by decide +kernel
theorem dX0_add_38 : decode cX0_add 38 = .ok (.dup, 1) := by decide +kernel
theorem dX0_add_39 : decode cX0_add 39 = .ok (.getfield 15, 3) := by decide +kernel
theorem dX0_add_42 : decode cX0_add 42 = .ok (.iconst 1, 1) := by decide +kernel
theorem dX0_add_43 : decode cX0_add 43 = .ok (.iadd, 1) := by decide +kernel
theorem dX0_add_44 : decode cX0_add 44 = .ok (.putfield 15, 3) := by decide +kernel
theorem dX0_add_47 : decode cX0_add 47 = .ok (.return_, 1) := by decide +kernel
theorem dX0_moveTo_0 : decode cX0_moveTo 0 = .ok (.aload_n 0, 1) := by decide +kernel
theorem dX0_moveTo_1 : decode cX0_moveTo 1 = .ok (.getfield 19, 3) := by decide +kernel
theorem dX0_moveTo_4 : decode cX0_moveTo 4 = .ok (.iload_n 1, 1) := by decide +kernel
theorem dX0_moveTo_5 : decode cX0_moveTo 5 = .ok (.iaload, 1) := by decide +kernel
theorem dX0_moveTo_6 : decode cX0_moveTo 6 = .ok (.iconst (-1), 1) := by decide +kernel
theorem dX0_moveTo_7 : decode cX0_moveTo 7 = .ok (.if_icmp .ne 5, 3) := by decide +kernel
theorem dX0_moveTo_10 : decode cX0_moveTo 10 = .ok (.iconst (-1), 1) := by decide +kernel
theorem dX0_moveTo_11 : decode cX0_moveTo 11 = .ok (.ireturn, 1) := by decide +kernel
theorem dX0_moveTo_12 : decode cX0_moveTo 12 = .ok (.iconst 0, 1) := by decide +kernel
theorem dX0_moveTo_13 : decode cX0_moveTo 13 = .ok (.istore_n 3, 1) := by decide +kernel
theorem dX0_moveTo_14 : decode cX0_moveTo 14 = .ok (.iload_n 1, 1) := by decide +kernel
theorem dX0_moveTo_15 : decode cX0_moveTo 15 = .ok (.istore 4, 2) := by decide +kernel
theorem dX0_moveTo_17 : decode cX0_moveTo 17 = .ok (.aload_n 0, 1) := by decide +kernel
theorem dX0_moveTo_18 : decode cX0_moveTo 18 = .ok (.getfield 19, 3) := by decide +kernel
theorem dX0_moveTo_21 : decode cX0_moveTo 21 = .ok (.iload 4, 2) := by decide +kernel
theorem dX0_moveTo_23 : decode cX0_moveTo 23 = .ok (.iaload, 1) := by decide +kernel
theorem dX0_moveTo_24 : decode cX0_moveTo 24 = .ok (.ifCond .lt 27, 3) := by decide +kernel
theorem dX0_moveTo_27 : decode cX0_moveTo 27 = .ok (.iload_n 3, 1) := by decide +kernel
theorem dX0_moveTo_28 : decode cX0_moveTo 28 = .ok (.sipush 5040, 3) := by decide +kernel
theorem dX0_moveTo_31 : decode cX0_moveTo 31 = .ok (.if_icmp .ge 20, 3) := by decide +kernel
theorem dX0_moveTo_34 : decode cX0_moveTo 34 = .ok (.iinc 3 1, 3) := by decide +kernel
theorem dX0_moveTo_37 : decode cX0_moveTo 37 = .ok (.aload_n 0, 1) := by decide +kernel
theorem dX0_moveTo_38 : decode cX0_moveTo 38 = .ok (.getfield 19, 3) := by decide +kernel
theorem dX0_moveTo_41 : decode cX0_moveTo 41 = .ok (.iload 4, 2) := by decide +kernel
theorem dX0_moveTo_43 : decode cX0_moveTo 43 = .ok (.iaload, 1) := by decide +kernel
theorem dX0_moveTo_44 : decode cX0_moveTo 44 = .ok (.iconst 4, 1) := by decide +kernel
theorem dX0_moveTo_45 : decode cX0_moveTo 45 = .ok (.idiv, 1) := by decide +kernel
theorem dX0_moveTo_46 : decode cX0_moveTo 46 = .ok (.istore 4, 2) := by decide +kernel
theorem dX0_moveTo_48 : decode cX0_moveTo 48 = .ok (.goto (-31), 3) := by decide +kernel
theorem dX0_moveTo_51 : decode cX0_moveTo 51 = .ok (.iload_n 2, 1) := by decide +kernel
theorem dX0_moveTo_52 : decode cX0_moveTo 52 = .ok (.iconst (-1), 1) := by decide +kernel
theorem dX0_moveTo_53 : decode cX0_moveTo 53 = .ok (.if_icmp .ne 5, 3) := by decide +kernel
theorem dX0_moveTo_56 : decode cX0_moveTo 56 = .ok (.iload_n 3, 1) := by decide +kernel
theorem dX0_moveTo_57 : decode cX0_moveTo 57 = .ok (.ireturn, 1) := by decide +kernel
theorem dX0_moveTo_58 : decode cX0_moveTo 58 = .ok (.iload_n 2, 1) := by decide +kernel
theorem dX0_moveTo_59 : decode cX0_moveTo 59 = .ok (.iload_n 3, 1) := by decide +kernel
theorem dX0_moveTo_60 : decode cX0_moveTo 60 = .ok (.if_icmp .lt 6, 3) := by decide +kernel
theorem dX0_moveTo_63 : decode cX0_moveTo 63 = .ok (.bipush (-5), 2) := by decide +kernel
theorem dX0_moveTo_65 : decode cX0_moveTo 65 = .ok (.ireturn, 1) := by decide +kernel
theorem dX0_moveTo_66 : decode cX0_moveTo 66 = .ok (.iload_n 1, 1) := by decide +kernel
theorem dX0_moveTo_67 : decode cX0_moveTo 67 = .ok (.istore 4, 2) := by decide +kernel
theorem dX0_moveTo_69 : decode cX0_moveTo 69 = .ok (.iload_n 3, 1) := by decide +kernel
theorem dX0_moveTo_70 : decode cX0_moveTo 70 = .ok (.iconst 1, 1) := by decide +kernel
theorem dX0_moveTo_71 : decode cX0_moveTo 71 = .ok (.isub, 1) := by decide +kernel
theorem dX0_moveTo_72 : decode cX0_moveTo 72 = .ok (.istore 5, 2) := by decide +kernel
theorem dX0_moveTo_74 : decode cX0_moveTo 74 = .ok (.iload 5, 2) := by decide +kernel
theorem dX0_moveTo_76 : decode cX0_moveTo 76 = .ok (.iload_n 2, 1) := by decide +kernel
theorem dX0_moveTo_77 : decode cX0_moveTo 77 = .ok (.if_icmp .le 20, 3) := by decide +kernel
theorem dX0_moveTo_80 : decode cX0_moveTo 80 = .ok (.aload_n 0, 1) := by decide +kernel
theorem dX0_moveTo_81 : decode cX0_moveTo 81 = .ok (.getfield 19, 3) := by decide +kernel
theorem dX0_moveTo_84 : decode cX0_moveTo 84 = .ok (.iload 4, 2) := by decide +kernel
theorem dX0_moveTo_86 : decode cX0_moveTo 86 = .ok (.iaload, 1) := by decide +kernel
theorem dX0_moveTo_87 : decode cX0_moveTo 87 = .ok (.iconst 4, 1) := by decide +kernel
theorem dX0_moveTo_88 : decode cX0_moveTo 88 = .ok (.idiv, 1) := by decide +kernel
theorem dX0_moveTo_89 : decode cX0_moveTo 89 = .ok (.istore 4, 2) := by decide +kernel
theorem dX0_moveTo_91 : decode cX0_moveTo 91 = .ok (.iinc 5 (-1), 3) := by decide +kernel
theorem dX0_moveTo_94 : decode cX0_moveTo 94 = .ok (.goto (-20), 3) := by decide +kernel
theorem dX0_moveTo_97 : decode cX0_moveTo 97 = .ok (.aload_n 0, 1) := by decide +kernel
theorem dX0_moveTo_98 : decode cX0_moveTo 98 = .ok (.getfield 19, 3) := by decide +kernel
theorem dX0_moveTo_101 : decode cX0_moveTo 101 = .ok (.iload 4, 2) := by decide +kernel
theorem dX0_moveTo_103 : decode cX0_moveTo 103 = .ok (.iaload, 1) := by decide +kernel
theorem dX0_moveTo_104 : decode cX0_moveTo 104 = .ok (.iconst 4, 1) := by decide +kernel
theorem dX0_moveTo_105 : decode cX0_moveTo 105 = .ok (.irem, 1) := by decide +kernel
theorem dX0_moveTo_106 : decode cX0_moveTo 106 = .ok (.ireturn, 1) := by decide +kernel
theorem dX1_init_0 : decode cX1_init 0 = .ok (.aload_n 0, 1) := by decide +kernel
theorem dX1_init_1 : decode cX1_init 1 = .ok (.invokespecial 3, 3) := by decide +kernel
theorem dX1_init_4 : decode cX1_init 4 = .ok (.aload_n 0, 1) := by decide +kernel
theorem dX1_init_5 : decode cX1_init 5 = .ok (.bipush 7, 2) := by decide +kernel
theorem dX1_init_7 : decode cX1_init 7 = .ok (.newarray .int, 2) := by decide +kernel
theorem dX1_init_9 : decode cX1_init 9 = .ok (.putfield 9, 3) := by decide +kernel
theorem dX1_init_12 : decode cX1_init 12 = .ok (.aload_n 0, 1) := by decide +kernel
theorem dX1_init_13 : decode cX1_init 13 = .ok (.bipush 7, 2) := by decide +kernel
theorem dX1_init_15 : decode cX1_init 15 = .ok (.newarray .int, 2) := by decide +kernel
theorem dX1_init_17 : decode cX1_init 17 = .ok (.putfield 15, 3) := by decide +kernel
theorem dX1_init_20 : decode cX1_init 20 = .ok (.aload_n 0, 1) := by decide +kernel
theorem dX1_init_21 : decode cX1_init 21 = .ok (.bipush 7, 2) := by decide +kernel
theorem dX1_init_23 : decode cX1_init 23 = .ok (.newarray .int, 2) := by decide +kernel
theorem dX1_init_25 : decode cX1_init 25 = .ok (.putfield 18, 3) := by decide +kernel
theorem dX1_init_28 : decode cX1_init 28 = .ok (.aload_n 0, 1) := by decide +kernel
theorem dX1_init_29 : decode cX1_init 29 = .ok (.bipush 8, 2) := by decide +kernel
theorem dX1_init_31 : decode cX1_init 31 = .ok (.newarray .int, 2) := by decide +kernel
theorem dX1_init_33 : decode cX1_init 33 = .ok (.putfield 21, 3) := by decide +kernel
theorem dX1_init_36 : decode cX1_init 36 = .ok (.aload_n 0, 1) := by decide +kernel
theorem dX1_init_37 : decode cX1_init 37 = .ok (.bipush 8, 2) := by decide +kernel
theorem dX1_init_39 : decode cX1_init 39 = .ok (.newarray .int, 2) := by decide +kernel
theorem dX1_init_41 : decode cX1_init 41 = .ok (.putfield 24, 3) := by decide +kernel
theorem dX1_init_44 : decode cX1_init 44 = .ok (.aload_n 0, 1) := by decide +kernel
theorem dX1_init_45 : decode cX1_init 45 = .ok (.iconst 4, 1) := by decide +kernel
theorem dX1_init_46 : decode cX1_init 46 = .ok (.newarray .int, 2) := by decide +kernel
theorem dX1_init_48 : decode cX1_init 48 = .ok (.putfield 27, 3) := by decide +kernel
theorem dX1_init_51 : decode cX1_init 51 = .ok (.aload_n 0, 1) := by decide +kernel
theorem dX1_init_52 : decode cX1_init 52 = .ok (.bipush 10, 2) := by decide +kernel
theorem dX1_init_54 : decode cX1_init 54 = .ok (.newarray .int, 2) := by decide +kernel
theorem dX1_init_56 : decode cX1_init 56 = .ok (.putfield 30, 3) := by decide +kernel
theorem dX1_init_59 : decode cX1_init 59 = .ok (.aload_n 0, 1) := by decide +kernel
theorem dX1_init_60 : decode cX1_init 60 = .ok (.bipush 7, 2) := by decide +kernel
theorem dX1_init_62 : decode cX1_init 62 = .ok (.newarray .int, 2) := by decide +kernel
theorem dX1_init_64 : decode cX1_init 64 = .ok (.putfield 33, 3) := by decide +kernel
theorem dX1_init_67 : decode cX1_init 67 = .ok (.aload_n 0, 1) := by decide +kernel
theorem dX1_init_68 : decode cX1_init 68 = .ok (.iconst 5, 1) := by decide +kernel
theorem dX1_init_69 : decode cX1_init 69 = .ok (.invokevirtual 36, 3) := by decide +kernel
theorem dX1_init_72 : decode cX1_init 72 = .ok (.return_, 1) := by decide +kernel
theorem dX1_setAsAtFirst_0 : decode cX1_setAsAtFirst 0 = .ok (.aload_n 0, 1) := by decide +kernel
theorem dX1_setAsAtFirst_1 : decode cX1_setAsAtFirst 1 = .ok (.iload_n 1, 1) := by decide +kernel
theorem dX1_setAsAtFirst_2 : decode cX1_setAsAtFirst 2 = .ok (.putfield 40, 3) := by decide +kernel
theorem dX1_setAsAtFirst_5 : decode cX1_setAsAtFirst 5 = .ok (.aload_n 0, 1) := by decide +kernel
theorem dX1_setAsAtFirst_6 : decode cX1_setAsAtFirst 6 = .ok (.iconst 2, 1) := by decide +kernel
theorem dX1_setAsAtFirst_7 : decode cX1_setAsAtFirst 7 = .ok (.putfield 44, 3) := by decide +kernel
theorem dX1_setAsAtFirst_10 : decode cX1_setAsAtFirst 10 = .ok (.aload_n 0, 1) := by decide +kernel
theorem dX1_setAsAtFirst_11 : decode cX1_setAsAtFirst 11 = .ok (.iconst 1, 1) := by decide +kernel
theorem dX1_setAsAtFirst_12 : decode cX1_setAsAtFirst 12 = .ok (.putfield 47, 3) := by decide +kernel
theorem dX1_setAsAtFirst_15 : decode cX1_setAsAtFirst 15 = .ok (.aload_n 0, 1) := by decide +kernel
theorem dX1_setAsAtFirst_16 : decode cX1_setAsAtFirst 16 = .ok (.getfield 9, 3) := by decide +kernel
theorem dX1_setAsAtFirst_19 : decode cX1_setAsAtFirst 19 = .ok (.iload_n 1, 1) := by decide +kernel
theorem dX1_setAsAtFirst_20 : decode cX1_setAsAtFirst 20 = .ok (.invokestatic 50, 3) := by decide +kernel
theorem dX1_setAsAtFirst_23 : decode cX1_setAsAtFirst 23 = .ok (.aload_n 0, 1) := by decide +kernel
theorem dX1_setAsAtFirst_24 : decode cX1_setAsAtFirst 24 = .ok (.getfield 15, 3) := by decide +kernel
theorem dX1_setAsAtFirst_27 : decode cX1_setAsAtFirst 27 = .ok (.iconst (-1), 1) := by decide +kernel
theorem dX1_setAsAtFirst_28 : decode cX1_setAsAtFirst 28 = .ok (.invokestatic 56, 3) := by decide +kernel
theorem dX1_setAsAtFirst_31 : decode cX1_setAsAtFirst 31 = .ok (.aload_n 0, 1) := by decide +kernel
theorem dX1_setAsAtFirst_32 : decode cX1_setAsAtFirst 32 = .ok (.getfield 18, 3) := by decide +kernel
theorem dX1_setAsAtFirst_35 : decode cX1_setAsAtFirst 35 = .ok (.iconst 0, 1) := by decide +kernel
theorem dX1_setAsAtFirst_36 : decode cX1_setAsAtFirst 36 = .ok (.invokestatic 56, 3) := by decide +kernel
theorem dX1_setAsAtFirst_39 : decode cX1_setAsAtFirst 39 = .ok (.aload_n 0, 1) := by decide +kernel
theorem dX1_setAsAtFirst_40 : decode cX1_setAsAtFirst 40 = .ok (.iconst 0, 1) := by decide +kernel
theorem dX1_setAsAtFirst_41 : decode cX1_setAsAtFirst 41 = .ok (.putfield 61, 3) := by decide +kernel
theorem dX1_setAsAtFirst_44 : decode cX1_setAsAtFirst 44 = .ok (.aload_n 0, 1) := by decide +kernel
theorem dX1_setAsAtFirst_45 : decode cX1_setAsAtFirst 45 = .ok (.iconst 0, 1) := by decide +kernel
theorem dX1_setAsAtFirst_46 : decode cX1_setAsAtFirst 46 = .ok (.putfield 64, 3) := by decide +kernel
theorem dX1_setAsAtFirst_49 : decode cX1_setAsAtFirst 49 = .ok (.aload_n 0, 1) := by decide +kernel
theorem dX1_setAsAtFirst_50 : decode cX1_setAsAtFirst 50 = .ok (.iconst 0, 1) := by decide +kernel
theorem dX1_setAsAtFirst_51 : decode cX1_setAsAtFirst 51 = .ok (.putfield 67, 3) := by decide +kernel
theorem dX1_setAsAtFirst_54 : decode cX1_setAsAtFirst 54 = .ok (.return_, 1) := by decide +kernel
theorem dX1_copyOf_0 : decode cX1_copyOf 0 = .ok (.aload_n 0, 1) := by decide +kernel
theorem dX1_copyOf_1 : decode cX1_copyOf 1 = .ok (.aload_n 1, 1) := by decide +kernel
theorem dX1_copyOf_2 : decode cX1_copyOf 2 = .ok (.getfield 40, 3) := by decide +kernel
theorem dX1_copyOf_5 : decode cX1_copyOf 5 = .ok (.putfield 40, 3) := by decide +kernel
theorem dX1_copyOf_8 : decode cX1_copyOf 8 = .ok (.aload_n 0, 1) := by decide +kernel
theorem dX1_copyOf_9 : decode cX1_copyOf 9 = .ok (.aload_n 1, 1) := by decide +kernel
theorem dX1_copyOf_10 : decode cX1_copyOf 10 = .ok (.getfield 44, 3) := by decide +kernel
theorem dX1_copyOf_13 : decode cX1_copyOf 13 = .ok (.putfield 44, 3) := by decide +kernel
theorem dX1_copyOf_16 : decode cX1_copyOf 16 = .ok (.aload_n 0, 1) := by decide +kernel
theorem dX1_copyOf_17 : decode cX1_copyOf 17 = .ok (.aload_n 1, 1) := by decide +kernel
theorem dX1_copyOf_18 : decode cX1_copyOf 18 = .ok (.getfield 47, 3) := by decide +kernel
theorem dX1_copyOf_21 : decode cX1_copyOf 21 = .ok (.putfield 47, 3) := by decide +kernel
theorem dX1_copyOf_24 : decode cX1_copyOf 24 = .ok (.aload_n 1, 1) := by decide +kernel
theorem dX1_copyOf_25 : decode cX1_copyOf 25 = .ok (.getfield 9, 3) := by decide +kernel
theorem dX1_copyOf_28 : decode cX1_copyOf 28 = .ok (.iconst 0, 1) := by decide +kernel
theorem dX1_copyOf_29 : decode cX1_copyOf 29 = .ok (.aload_n 0, 1) := by decide +kernel
theorem dX1_copyOf_30 : decode cX1_copyOf 30 = .ok (.getfield 9, 3) := by decide +kernel
theorem dX1_copyOf_33 : decode cX1_copyOf 33 = .ok (.iconst 0, 1) := by decide +kernel
theorem dX1_copyOf_34 : decode cX1_copyOf 34 = .ok (.bipush 7, 2) := by decide +kernel
theorem dX1_copyOf_36 : decode cX1_copyOf 36 = .ok (.invokestatic 70, 3) := by decide +kernel
theorem dX1_copyOf_39 : decode cX1_copyOf 39 = .ok (.aload_n 1, 1) := by decide +kernel
theorem dX1_copyOf_40 : decode cX1_copyOf 40 = .ok (.getfield 15, 3) := by decide +kernel
theorem dX1_copyOf_43 : decode cX1_copyOf 43 = .ok (.iconst 0, 1) := by decide +kernel
theorem dX1_copyOf_44 : decode cX1_copyOf 44 = .ok (.aload_n 0, 1) := by decide +kernel
theorem dX1_copyOf_45 : decode cX1_copyOf 45 = .ok (.getfield 15, 3) := by decide +kernel
theorem dX1_copyOf_48 : decode cX1_copyOf 48 = .ok (.iconst 0, 1) := by decide +kernel
theorem dX1_copyOf_49 : decode cX1_copyOf 49 = .ok (.bipush 7, 2) := by decide +kernel
theorem dX1_copyOf_51 : decode cX1_copyOf 51 = .ok (.invokestatic 70, 3) := by decide +kernel
theorem dX1_copyOf_54 : decode cX1_copyOf 54 = .ok (.aload_n 1, 1) := by decide +kernel
theorem dX1_copyOf_55 : decode cX1_copyOf 55 = .ok (.getfield 18, 3) := by decide +kernel
theorem dX1_copyOf_58 : decode cX1_copyOf 58 = .ok (.iconst 0, 1) := by decide +kernel
theorem dX1_copyOf_59 : decode cX1_copyOf 59 = .ok (.aload_n 0, 1) := by decide +kernel
theorem dX1_copyOf_60 : decode cX1_copyOf 60 = .ok (.getfield 18, 3) := by decide +kernel
theorem dX1_copyOf_63 : decode cX1_copyOf 63 = .ok (.iconst 0, 1) := by decide +kernel
theorem dX1_copyOf_64 : decode cX1_copyOf 64 = .ok (.bipush 7, 2) := by decide +kernel
theorem dX1_copyOf_66 : decode cX1_copyOf 66 = .ok (.invokestatic 70, 3) := by decide +kernel
theorem dX1_copyOf_69 : decode cX1_copyOf 69 = .ok (.aload_n 0, 1) := by decide +kernel
theorem dX1_copyOf_70 : decode cX1_copyOf 70 = .ok (.aload_n 1, 1) := by decide +kernel
theorem dX1_copyOf_71 : decode cX1_copyOf 71 = .ok (.getfield 61, 3) := by decide +kernel
theorem dX1_copyOf_74 : decode cX1_copyOf 74 = .ok (.putfield 61, 3) := by decide +kernel
theorem dX1_copyOf_77 : decode cX1_copyOf 77 = .ok (.aload_n 1, 1) := by decide +kernel
theorem dX1_copyOf_78 : decode cX1_copyOf 78 = .ok (.getfield 21, 3) := by decide +kernel
theorem dX1_copyOf_81 : decode cX1_copyOf 81 = .ok (.iconst 0, 1) := by decide +kernel
theorem dX1_copyOf_82 : decode cX1_copyOf 82 = .ok (.aload_n 0, 1) := by decide +kernel
theorem dX1_copyOf_83 : decode cX1_copyOf 83 = .ok (.getfield 21, 3) := by decide +kernel
theorem dX1_copyOf_86 : decode cX1_copyOf 86 = .ok (.iconst 0, 1) := by decide +kernel
theorem dX1_copyOf_87 : decode cX1_copyOf 87 = .ok (.bipush 8, 2) := by decide +kernel
theorem dX1_copyOf_89 : decode cX1_copyOf 89 = .ok (.invokestatic 70, 3) := by decide +kernel
theorem dX1_copyOf_92 : decode cX1_copyOf 92 = .ok (.aload_n 1, 1) := by decide +kernel
theorem dX1_copyOf_93 : decode cX1_copyOf 93 = .ok (.getfield 24, 3) := by decide +kernel
theorem dX1_copyOf_96 : decode cX1_copyOf 96 = .ok (.iconst 0, 1) := by decide +kernel
theorem dX1_copyOf_97 : decode cX1_copyOf 97 = .ok (.aload_n 0, 1) := by decide +kernel
theorem dX1_copyOf_98 : decode cX1_copyOf 98 = .ok (.getfield 24, 3) := by decide +kernel
theorem dX1_copyOf_101 : decode cX1_copyOf 101 = .ok (.iconst 0, 1) := by decide +kernel
theorem dX1_copyOf_102 : decode cX1_copyOf 102 = .ok (.bipush 8, 2) := by decide +kernel
theorem dX1_copyOf_104 : decode cX1_copyOf 104 = .ok (.invokestatic 70, 3) := by decide +kernel
theorem dX1_copyOf_107 : decode cX1_copyOf 107 = .ok (.aload_n 0, 1) := by decide +kernel
theorem dX1_copyOf_108 : decode cX1_copyOf 108 = .ok (.aload_n 1, 1) := by decide +kernel
theorem dX1_copyOf_109 : decode cX1_copyOf 109 = .ok (.getfield 64, 3) := by decide +kernel
theorem dX1_copyOf_112 : decode cX1_copyOf 112 = .ok (.putfield 64, 3) := by decide +kernel
theorem dX1_copyOf_115 : decode cX1_copyOf 115 = .ok (.aload_n 1, 1) := by decide +kernel
theorem dX1_copyOf_116 : decode cX1_copyOf 116 = .ok (.getfield 27, 3) := by decide +kernel
theorem dX1_copyOf_119 : decode cX1_copyOf 119 = .ok (.iconst 0, 1) := by decide +kernel
theorem dX1_copyOf_120 : decode cX1_copyOf 120 = .ok (.aload_n 0, 1) := by decide +kernel
theorem dX1_copyOf_121 : decode cX1_copyOf 121 = .ok (.getfield 27, 3) := by decide +kernel
theorem dX1_copyOf_124 : decode cX1_copyOf 124 = .ok (.iconst 0, 1) := by decide +kernel
theorem dX1_copyOf_125 : decode cX1_copyOf 125 = .ok (.iconst 4, 1) := by decide +kernel
theorem dX1_copyOf_126 : decode cX1_copyOf 126 = .ok (.invokestatic 70, 3) := by decide +kernel
theorem dX1_copyOf_129 : decode cX1_copyOf 129 = .ok (.aload_n 0, 1) := by decide +kernel
theorem dX1_copyOf_130 : decode cX1_copyOf 130 = .ok (.aload_n 1, 1) := by decide +kernel
theorem dX1_copyOf_131 : decode cX1_copyOf 131 = .ok (.getfield 67, 3) := by decide +kernel
theorem dX1_copyOf_134 : decode cX1_copyOf 134 = .ok (.putfield 67, 3) := by decide +kernel
theorem dX1_copyOf_137 : decode cX1_copyOf 137 = .ok (.aload_n 1, 1) := by decide +kernel
theorem dX1_copyOf_138 : decode cX1_copyOf 138 = .ok (.getfield 30, 3) := by decide +kernel
theorem dX1_copyOf_141 : decode cX1_copyOf 141 = .ok (.iconst 0, 1) := by decide +kernel
theorem dX1_copyOf_142 : decode cX1_copyOf 142 = .ok (.aload_n 0, 1) := by decide +kernel
theorem dX1_copyOf_143 : decode cX1_copyOf 143 = .ok (.getfield 30, 3) := by decide +kernel
theorem dX1_copyOf_146 : decode cX1_copyOf 146 = .ok (.iconst 0, 1) := by decide +kernel
theorem dX1_copyOf_147 : decode cX1_copyOf 147 = .ok (.bipush 10, 2) := by decide +kernel
theorem dX1_copyOf_149 : decode cX1_copyOf 149 = .ok (.invokestatic 70, 3) := by decide +kernel
theorem dX1_copyOf_152 : decode cX1_copyOf 152 = .ok (.return_, 1) := by decide +kernel
theorem dX1_rankNow_0 : decode cX1_rankNow 0 = .ok (.aload_n 0, 1) := by decide +kernel
theorem dX1_rankNow_1 : decode cX1_rankNow 1 = .ok (.getfield 9, 3) := by decide +kernel
theorem dX1_rankNow_4 : decode cX1_rankNow 4 = .ok (.aload_n 0, 1) := by decide +kernel
theorem dX1_rankNow_5 : decode cX1_rankNow 5 = .ok (.getfield 40, 3) := by decide +kernel
theorem dX1_rankNow_8 : decode cX1_rankNow 8 = .ok (.invokestatic 76, 3) := by decide +kernel
theorem dX1_rankNow_11 : decode cX1_rankNow 11 = .ok (.ireturn, 1) := by decide +kernel
theorem dX1_keepPast_0 : decode cX1_keepPast 0 = .ok (.aload_n 0, 1) := by decide +kernel
theorem dX1_keepPast_1 : decode cX1_keepPast 1 = .ok (.getfield 67, 3) := by decide +kernel
theorem dX1_keepPast_4 : decode cX1_keepPast 4 = .ok (.bipush 10, 2) := by decide +kernel
theorem dX1_keepPast_6 : decode cX1_keepPast 6 = .ok (.if_icmp .lt 24, 3) := by decide +kernel
theorem dX1_keepPast_9 : decode cX1_keepPast 9 = .ok (.aload_n 0, 1) := by decide +kernel
theorem dX1_keepPast_10 : decode cX1_keepPast 10 = .ok (.getfield 30, 3) := by decide +kernel
theorem dX1_keepPast_13 : decode cX1_keepPast 13 = .ok (.iconst 1, 1) := by decide +kernel
theorem dX1_keepPast_14 : decode cX1_keepPast 14 = .ok (.aload_n 0, 1) := by decide +kernel
theorem dX1_keepPast_15 : decode cX1_keepPast 15 = .ok (.getfield 30, 3) := by decide +kernel
theorem dX1_keepPast_18 : decode cX1_keepPast 18 = .ok (.iconst 0, 1) := by decide +kernel
theorem dX1_keepPast_19 : decode cX1_keepPast 19 = .ok (.bipush 9, 2) := by decide +kernel
theorem dX1_keepPast_21 : decode cX1_keepPast 21 = .ok (.invokestatic 70, 3) := by decide +kernel
theorem dX1_keepPast_24 : decode cX1_keepPast 24 = .ok (.aload_n 0, 1) := by decide +kernel
theorem dX1_keepPast_25 : decode cX1_keepPast 25 = .ok (.bipush 9, 2) := by decide +kernel
theorem dX1_keepPast_27 : decode cX1_keepPast 27 = .ok (.putfield 67, 3) := by decide +kernel
theorem dX1_keepPast_30 : decode cX1_keepPast 30 = .ok (.aload_n 0, 1) := by decide +kernel
theorem dX1_keepPast_31 : decode cX1_keepPast 31 = .ok (.getfield 30, 3) := by decide +kernel
theorem dX1_keepPast_34 : decode cX1_keepPast 34 = .ok (.aload_n 0, 1) := by decide +kernel
theorem dX1_keepPast_35 : decode cX1_keepPast 35 = .ok (.getfield 67, 3) := by decide +kernel
theorem dX1_keepPast_38 : decode cX1_keepPast 38 = .ok (.aload_n 0, 1) := by decide +kernel
theorem dX1_keepPast_39 : decode cX1_keepPast 39 = .ok (.invokevirtual 80, 3) := by decide +kernel
theorem dX1_keepPast_42 : decode cX1_keepPast 42 = .ok (.iastore, 1) := by decide +kernel
theorem dX1_keepPast_43 : decode cX1_keepPast 43 = .ok (.aload_n 0, 1) := by decide +kernel
theorem dX1_keepPast_44 : decode cX1_keepPast 44 = .ok (.dup, 1) := by decide +kernel
theorem dX1_keepPast_45 : decode cX1_keepPast 45 = .ok (.getfield 67, 3) := by decide +kernel
theorem dX1_keepPast_48 : decode cX1_keepPast 48 = .ok (.iconst 1, 1) := by decide +kernel
theorem dX1_keepPast_49 : decode cX1_keepPast 49 = .ok (.iadd, 1) := by decide +kernel
theorem dX1_keepPast_50 : decode cX1_keepPast 50 = .ok (.putfield 67, 3) := by decide +kernel
theorem dX1_keepPast_53 : decode cX1_keepPast 53 = .ok (.return_, 1) := by decide +kernel
theorem dX1_goBack_0 : decode cX1_goBack 0 = .ok (.aload_n 0, 1) := by decide +kernel
theorem dX1_goBack_1 : decode cX1_goBack 1 = .ok (.getfield 67, 3) := by decide +kernel
theorem dX1_goBack_4 : decode cX1_goBack 4 = .ok (.ifCond .le 33, 3) := by decide +kernel
theorem dX1_goBack_7 : decode cX1_goBack 7 = .ok (.aload_n 0, 1) := by decide +kernel
theorem dX1_goBack_8 : decode cX1_goBack 8 = .ok (.dup, 1) := by decide +kernel
theorem dX1_goBack_9 : decode cX1_goBack 9 = .ok (.getfield 67, 3) := by decide +kernel
theorem dX1_goBack_12 : decode cX1_goBack 12 = .ok (.iconst 1, 1) := by decide +kernel
theorem dX1_goBack_13 : decode cX1_goBack 13 = .ok (.isub, 1) := by decide +kernel
theorem dX1_goBack_14 : decode cX1_goBack 14 = .ok (.putfield 67, 3) := by decide +kernel
theorem dX1_goBack_17 : decode cX1_goBack 17 = .ok (.aload_n 0, 1) := by decide +kernel
theorem dX1_goBack_18 : decode cX1_goBack 18 = .ok (.getfield 9, 3) := by decide +kernel
theorem dX1_goBack_21 : decode cX1_goBack 21 = .ok (.aload_n 0, 1) := by decide +kernel
theorem dX1_goBack_22 : decode cX1_goBack 22 = .ok (.getfield 40, 3) := by decide +kernel
theorem dX1_goBack_25 : decode cX1_goBack 25 = .ok (.aload_n 0, 1) := by decide +kernel
theorem dX1_goBack_26 : decode cX1_goBack 26 = .ok (.getfield 30, 3) := by decide +kernel
theorem dX1_goBack_29 : decode cX1_goBack 29 = .ok (.aload_n 0, 1) := by decide +kernel
theorem dX1_goBack_30 : decode cX1_goBack 30 = .ok (.getfield 67, 3) := by decide +kernel
theorem dX1_goBack_33 : decode cX1_goBack 33 = .ok (.iaload, 1) := by decide +kernel
theorem dX1_goBack_34 : decode cX1_goBack 34 = .ok (.invokestatic 84, 3) := by decide +kernel
theorem dX1_goBack_37 : decode cX1_goBack 37 = .ok (.return_, 1) := by decide +kernel
theorem dX1_knownCount_0 : decode cX1_knownCount 0 = .ok (.iconst 0, 1) := by decide +kernel
theorem dX1_knownCount_1 : decode cX1_knownCount 1 = .ok (.istore_n 1, 1) := by decide +kernel
theorem dX1_knownCount_2 : decode cX1_knownCount 2 = .ok (.iconst 0, 1) := by decide +kernel
theorem dX1_knownCount_3 : decode cX1_knownCount 3 = .ok (.istore_n 2, 1) := by decide +kernel
theorem dX1_knownCount_4 : decode cX1_knownCount 4 = .ok (.iload_n 2, 1) := by decide +kernel
theorem dX1_knownCount_5 : decode cX1_knownCount 5 = .ok (.aload_n 0, 1) := by decide +kernel
theorem dX1_knownCount_6 : decode cX1_knownCount 6 = .ok (.getfield 40, 3) := by decide +kernel
theorem dX1_knownCount_9 : decode cX1_knownCount 9 = .ok (.if_icmp .ge 27, 3) := by decide +kernel
theorem dX1_knownCount_12 : decode cX1_knownCount 12 = .ok (.iload_n 1, 1) := by decide +kernel
theorem dX1_knownCount_13 : decode cX1_knownCount 13 = .ok (.aload_n 0, 1) := by decide +kernel
theorem dX1_knownCount_14 : decode cX1_knownCount 14 = .ok (.getfield 15, 3) := by decide +kernel
theorem dX1_knownCount_17 : decode cX1_knownCount 17 = .ok (.iload_n 2, 1) := by decide +kernel
theorem dX1_knownCount_18 : decode cX1_knownCount 18 = .ok (.iaload, 1) := by decide +kernel
theorem dX1_knownCount_19 : decode cX1_knownCount 19 = .ok (.iconst (-1), 1) := by decide +kernel
theorem dX1_knownCount_20 : decode cX1_knownCount 20 = .ok (.if_icmp .eq 7, 3) := by decide +kernel
theorem dX1_knownCount_23 : decode cX1_knownCount 23 = .ok (.iconst 1, 1) := by decide +kernel
theorem dX1_knownCount_24 : decode cX1_knownCount 24 = .ok (.goto 4, 3) := by decide +kernel
theorem dX1_knownCount_27 : decode cX1_knownCount 27 = .ok (.iconst 0, 1) := by decide +kernel
theorem dX1_knownCount_28 : decode cX1_knownCount 28 = .ok (.iadd, 1) := by decide +kernel
theorem dX1_knownCount_29 : decode cX1_knownCount 29 = .ok (.istore_n 1, 1) := by decide +kernel
theorem dX1_knownCount_30 : decode cX1_knownCount 30 = .ok (.iinc 2 1, 3) := by decide +kernel
theorem dX1_knownCount_33 : decode cX1_knownCount 33 = .ok (.goto (-29), 3) := by decide +kernel
theorem dX1_knownCount_36 : decode cX1_knownCount 36 = .ok (.iload_n 1, 1) := by decide +kernel
theorem dX1_knownCount_37 : decode cX1_knownCount 37 = .ok (.ireturn, 1) := by decide +kernel
theorem dX1_isKnownSlip_0 : decode cX1_isKnownSlip 0 = .ok (.iconst 0, 1) := by decide +kernel
theorem dX1_isKnownSlip_1 : decode cX1_isKnownSlip 1 = .ok (.istore_n 2, 1) := by decide +kernel
theorem dX1_isKnownSlip_2 : decode cX1_isKnownSlip 2 = .ok (.iload_n 2, 1) := by decide +kernel
theorem dX1_isKnownSlip_3 : decode cX1_isKnownSlip 3 = .ok (.aload_n 0, 1) := by decide +kernel
theorem dX1_isKnownSlip_4 : decode cX1_isKnownSlip 4 = .ok (.getfield 40, 3) := by decide +kernel
theorem dX1_isKnownSlip_7 : decode cX1_isKnownSlip 7 = .ok (.if_icmp .ge 21, 3) := by decide +kernel
theorem dX1_isKnownSlip_10 : decode cX1_isKnownSlip 10 = .ok (.aload_n 0, 1) := by decide +kernel
theorem dX1_isKnownSlip_11 : decode cX1_isKnownSlip 11 = .ok (.getfield 15, 3) := by decide +kernel
theorem dX1_isKnownSlip_14 : decode cX1_isKnownSlip 14 = .ok (.iload_n 2, 1) := by decide +kernel
theorem dX1_isKnownSlip_15 : decode cX1_isKnownSlip 15 = .ok (.iaload, 1) := by decide +kernel
theorem dX1_isKnownSlip_16 : decode cX1_isKnownSlip 16 = .ok (.iload_n 1, 1) := by decide +kernel
theorem dX1_isKnownSlip_17 : decode cX1_isKnownSlip 17 = .ok (.if_icmp .ne 5, 3) := by decide +kernel
theorem dX1_isKnownSlip_20 : decode cX1_isKnownSlip 20 = .ok (.iconst 1, 1) := by decide +kernel
theorem dX1_isKnownSlip_21 : decode cX1_isKnownSlip 21 = .ok (.ireturn, 1) := by decide +kernel
theorem dX1_isKnownSlip_22 : decode cX1_isKnownSlip 22 = .ok (.iinc 2 1, 3) := by decide +kernel
theorem dX1_isKnownSlip_25 : decode cX1_isKnownSlip 25 = .ok (.goto (-23), 3) := by decide +kernel
theorem dX1_isKnownSlip_28 : decode cX1_isKnownSlip 28 = .ok (.iconst 0, 1) := by decide +kernel
theorem dX1_isKnownSlip_29 : decode cX1_isKnownSlip 29 = .ok (.ireturn, 1) := by decide +kernel
theorem dX1_addReport_0 : decode cX1_addReport 0 = .ok (.aload_n 0, 1) := by decide +kernel
theorem dX1_addReport_1 : decode cX1_addReport 1 = .ok (.getfield 61, 3) := by decide +kernel
theorem dX1_addReport_4 : decode cX1_addReport 4 = .ok (.bipush 8, 2) := by decide +kernel
theorem dX1_addReport_6 : decode cX1_addReport 6 = .ok (.if_icmp .lt 6, 3) := by decide +kernel
theorem dX1_addReport_9 : decode cX1_addReport 9 = .ok (.bipush (-4), 2) := by decide +kernel
theorem dX1_addReport_11 : decode cX1_addReport 11 = .ok (.ireturn, 1) := by decide +kernel
theorem dX1_addReport_12 : decode cX1_addReport 12 = .ok (.aload_n 0, 1) := by decide +kernel
theorem dX1_addReport_13 : decode cX1_addReport 13 = .ok (.getfield 21, 3) := by decide +kernel
theorem dX1_addReport_16 : decode cX1_addReport 16 = .ok (.aload_n 0, 1) := by decide +kernel
theorem dX1_addReport_17 : decode cX1_addReport 17 = .ok (.getfield 61, 3) := by decide +kernel
theorem dX1_addReport_20 : decode cX1_addReport 20 = .ok (.iload_n 1, 1) := by decide +kernel
theorem dX1_addReport_21 : decode cX1_addReport 21 = .ok (.iastore, 1) := by decide +kernel
theorem dX1_addReport_22 : decode cX1_addReport 22 = .ok (.aload_n 0, 1) := by decide +kernel
theorem dX1_addReport_23 : decode cX1_addReport 23 = .ok (.getfield 24, 3) := by decide +kernel
theorem dX1_addReport_26 : decode cX1_addReport 26 = .ok (.aload_n 0, 1) := by decide +kernel
theorem dX1_addReport_27 : decode cX1_addReport 27 = .ok (.getfield 61, 3) := by decide +kernel
theorem dX1_addReport_30 : decode cX1_addReport 30 = .ok (.iload_n 2, 1) := by decide +kernel
theorem dX1_addReport_31 : decode cX1_addReport 31 = .ok (.iastore, 1) := by decide +kernel
theorem dX1_addReport_32 : decode cX1_addReport 32 = .ok (.aload_n 0, 1) := by decide +kernel
theorem dX1_addReport_33 : decode cX1_addReport 33 = .ok (.dup, 1) := by decide +kernel
theorem dX1_addReport_34 : decode cX1_addReport 34 = .ok (.getfield 61, 3) := by decide +kernel
theorem dX1_addReport_37 : decode cX1_addReport 37 = .ok (.iconst 1, 1) := by decide +kernel
theorem dX1_addReport_38 : decode cX1_addReport 38 = .ok (.iadd, 1) := by decide +kernel
theorem dX1_addReport_39 : decode cX1_addReport 39 = .ok (.putfield 61, 3) := by decide +kernel
theorem dX1_addReport_42 : decode cX1_addReport 42 = .ok (.aload_n 0, 1) := by decide +kernel
theorem dX1_addReport_43 : decode cX1_addReport 43 = .ok (.getfield 61, 3) := by decide +kernel
theorem dX1_addReport_46 : decode cX1_addReport 46 = .ok (.iconst 1, 1) := by decide +kernel
theorem dX1_addReport_47 : decode cX1_addReport 47 = .ok (.isub, 1) := by decide +kernel
theorem dX1_addReport_48 : decode cX1_addReport 48 = .ok (.ireturn, 1) := by decide +kernel
theorem dX1_addMove_0 : decode cX1_addMove 0 = .ok (.aload_n 0, 1) := by decide +kernel
theorem dX1_addMove_1 : decode cX1_addMove 1 = .ok (.getfield 64, 3) := by decide +kernel
theorem dX1_addMove_4 : decode cX1_addMove 4 = .ok (.iconst 4, 1) := by decide +kernel
theorem dX1_addMove_5 : decode cX1_addMove 5 = .ok (.if_icmp .lt 6, 3) := by decide +kernel
theorem dX1_addMove_8 : decode cX1_addMove 8 = .ok (.bipush (-4), 2) := by decide +kernel
theorem dX1_addMove_10 : decode cX1_addMove 10 = .ok (.ireturn, 1) := by decide +kernel
theorem dX1_addMove_11 : decode cX1_addMove 11 = .ok (.aload_n 0, 1) := by decide +kernel
theorem dX1_addMove_12 : decode cX1_addMove 12 = .ok (.getfield 27, 3) := by decide +kernel
theorem dX1_addMove_15 : decode cX1_addMove 15 = .ok (.aload_n 0, 1) := by decide +kernel
theorem dX1_addMove_16 : decode cX1_addMove 16 = .ok (.getfield 64, 3) := by decide +kernel
theorem dX1_addMove_19 : decode cX1_addMove 19 = .ok (.iload_n 1, 1) := by decide +kernel
theorem dX1_addMove_20 : decode cX1_addMove 20 = .ok (.iastore, 1) := by decide +kernel
theorem dX1_addMove_21 : decode cX1_addMove 21 = .ok (.aload_n 0, 1) := by decide +kernel
theorem dX1_addMove_22 : decode cX1_addMove 22 = .ok (.dup, 1) := by decide +kernel
theorem dX1_addMove_23 : decode cX1_addMove 23 = .ok (.getfield 64, 3) := by decide +kernel
theorem dX1_addMove_26 : decode cX1_addMove 26 = .ok (.iconst 1, 1) := by decide +kernel
theorem dX1_addMove_27 : decode cX1_addMove 27 = .ok (.iadd, 1) := by decide +kernel
theorem dX1_addMove_28 : decode cX1_addMove 28 = .ok (.putfield 64, 3) := by decide +kernel
theorem dX1_addMove_31 : decode cX1_addMove 31 = .ok (.aload_n 0, 1) := by decide +kernel
theorem dX1_addMove_32 : decode cX1_addMove 32 = .ok (.getfield 64, 3) := by decide +kernel
theorem dX1_addMove_35 : decode cX1_addMove 35 = .ok (.iconst 1, 1) := by decide +kernel
theorem dX1_addMove_36 : decode cX1_addMove 36 = .ok (.isub, 1) := by decide +kernel
theorem dX1_addMove_37 : decode cX1_addMove 37 = .ok (.ireturn, 1) := by decide +kernel
theorem dX1_makeMove_0 : decode cX1_makeMove 0 = .ok (.aload_n 0, 1) := by decide +kernel
theorem dX1_makeMove_1 : decode cX1_makeMove 1 = .ok (.invokevirtual 88, 3) := by decide +kernel
theorem dX1_makeMove_4 : decode cX1_makeMove 4 = .ok (.aload_n 2, 1) := by decide +kernel
theorem dX1_makeMove_5 : decode cX1_makeMove 5 = .ok (.aload_n 0, 1) := by decide +kernel
theorem dX1_makeMove_6 : decode cX1_makeMove 6 = .ok (.getfield 40, 3) := by decide +kernel
theorem dX1_makeMove_9 : decode cX1_makeMove 9 = .ok (.aload_n 0, 1) := by decide +kernel
theorem dX1_makeMove_10 : decode cX1_makeMove 10 = .ok (.getfield 27, 3) := by decide +kernel
theorem dX1_makeMove_13 : decode cX1_makeMove 13 = .ok (.iload_n 1, 1) := by decide +kernel
theorem dX1_makeMove_14 : decode cX1_makeMove 14 = .ok (.iaload, 1) := by decide +kernel
theorem dX1_makeMove_15 : decode cX1_makeMove 15 = .ok (.invokestatic 84, 3) := by decide +kernel
theorem dX1_makeMove_18 : decode cX1_makeMove 18 = .ok (.aload_n 0, 1) := by decide +kernel
theorem dX1_makeMove_19 : decode cX1_makeMove 19 = .ok (.getfield 33, 3) := by decide +kernel
theorem dX1_makeMove_22 : decode cX1_makeMove 22 = .ok (.aload_n 0, 1) := by decide +kernel
theorem dX1_makeMove_23 : decode cX1_makeMove 23 = .ok (.getfield 9, 3) := by decide +kernel
theorem dX1_makeMove_26 : decode cX1_makeMove 26 = .ok (.aload_n 2, 1) := by decide +kernel
theorem dX1_makeMove_27 : decode cX1_makeMove 27 = .ok (.aload_n 0, 1) := by decide +kernel
theorem dX1_makeMove_28 : decode cX1_makeMove 28 = .ok (.getfield 40, 3) := by decide +kernel
theorem dX1_makeMove_31 : decode cX1_makeMove 31 = .ok (.invokestatic 91, 3) := by decide +kernel
theorem dX1_makeMove_34 : decode cX1_makeMove 34 = .ok (.aload_n 0, 1) := by decide +kernel
theorem dX1_makeMove_35 : decode cX1_makeMove 35 = .ok (.getfield 33, 3) := by decide +kernel
theorem dX1_makeMove_38 : decode cX1_makeMove 38 = .ok (.iconst 0, 1) := by decide +kernel
theorem dX1_makeMove_39 : decode cX1_makeMove 39 = .ok (.aload_n 0, 1) := by decide +kernel
theorem dX1_makeMove_40 : decode cX1_makeMove 40 = .ok (.getfield 9, 3) := by decide +kernel
theorem dX1_makeMove_43 : decode cX1_makeMove 43 = .ok (.iconst 0, 1) := by decide +kernel
theorem dX1_makeMove_44 : decode cX1_makeMove 44 = .ok (.aload_n 0, 1) := by decide +kernel
theorem dX1_makeMove_45 : decode cX1_makeMove 45 = .ok (.getfield 40, 3) := by decide +kernel
theorem dX1_makeMove_48 : decode cX1_makeMove 48 = .ok (.invokestatic 70, 3) := by decide +kernel
theorem dX1_makeMove_51 : decode cX1_makeMove 51 = .ok (.return_, 1) := by decide +kernel
theorem dX2_init_0 : decode cX2_init 0 = .ok (.aload_n 0, 1) := by decide +kernel
theorem dX2_init_1 : decode cX2_init 1 = .ok (.invokespecial 3, 3) := by decide +kernel
theorem dX2_init_4 : decode cX2_init 4 = .ok (.aload_n 0, 1) := by decide +kernel
theorem dX2_init_5 : decode cX2_init 5 = .ok (.bipush 7, 2) := by decide +kernel
theorem dX2_init_7 : decode cX2_init 7 = .ok (.newarray .int, 2) := by decide +kernel
theorem dX2_init_9 : decode cX2_init 9 = .ok (.putfield 9, 3) := by decide +kernel
theorem dX2_init_12 : decode cX2_init 12 = .ok (.aload_n 0, 1) := by decide +kernel
theorem dX2_init_13 : decode cX2_init 13 = .ok (.iconst 0, 1) := by decide +kernel
theorem dX2_init_14 : decode cX2_init 14 = .ok (.putfield 15, 3) := by decide +kernel
theorem dX2_init_17 : decode cX2_init 17 = .ok (.aload_n 0, 1) := by decide +kernel
theorem dX2_init_18 : decode cX2_init 18 = .ok (.iconst 0, 1) := by decide +kernel
theorem dX2_init_19 : decode cX2_init 19 = .ok (.putfield 19, 3) := by decide +kernel
theorem dX2_init_22 : decode cX2_init 22 = .ok (.aload_n 0, 1) := by decide +kernel
theorem dX2_init_23 : decode cX2_init 23 = .ok (.iconst 0, 1) := by decide +kernel
theorem dX2_init_24 : decode cX2_init 24 = .ok (.putfield 23, 3) := by decide +kernel
theorem dX2_init_27 : decode cX2_init 27 = .ok (.return_, 1) := by decide +kernel
theorem dX2_seek_0 : decode cX2_seek 0 = .ok (.aload_n 0, 1) := by decide +kernel
theorem dX2_seek_1 : decode cX2_seek 1 = .ok (.iconst 0, 1) := by decide +kernel
theorem dX2_seek_2 : decode cX2_seek 2 = .ok (.putfield 15, 3) := by decide +kernel
theorem dX2_seek_5 : decode cX2_seek 5 = .ok (.aload_n 0, 1) := by decide +kernel
theorem dX2_seek_6 : decode cX2_seek 6 = .ok (.iconst 0, 1) := by decide +kernel
theorem dX2_seek_7 : decode cX2_seek 7 = .ok (.putfield 19, 3) := by decide +kernel
theorem dX2_seek_10 : decode cX2_seek 10 = .ok (.aload_n 0, 1) := by decide +kernel
theorem dX2_seek_11 : decode cX2_seek 11 = .ok (.iconst 0, 1) := by decide +kernel
theorem dX2_seek_12 : decode cX2_seek 12 = .ok (.putfield 23, 3) := by decide +kernel
theorem dX2_seek_15 : decode cX2_seek 15 = .ok (.iconst 0, 1) := by decide +kernel
theorem dX2_seek_16 : decode cX2_seek 16 = .ok (.istore 5, 2) := by decide +kernel
theorem dX2_seek_18 : decode cX2_seek 18 = .ok (.iload_n 3, 1) := by decide +kernel
theorem dX2_seek_19 : decode cX2_seek 19 = .ok (.istore 6, 2) := by decide +kernel
theorem dX2_seek_21 : decode cX2_seek 21 = .ok (.aload_n 0, 1) := by decide +kernel
theorem dX2_seek_22 : decode cX2_seek 22 = .ok (.getfield 15, 3) := by decide +kernel
theorem dX2_seek_25 : decode cX2_seek 25 = .ok (.aload_n 1, 1) := by decide +kernel
theorem dX2_seek_26 : decode cX2_seek 26 = .ok (.getfield 26, 3) := by decide +kernel
theorem dX2_seek_29 : decode cX2_seek 29 = .ok (.if_icmp .ge 92, 3) := by decide +kernel
theorem dX2_seek_32 : decode cX2_seek 32 = .ok (.aload_n 0, 1) := by decide +kernel
theorem dX2_seek_33 : decode cX2_seek 33 = .ok (.getfield 15, 3) := by decide +kernel
theorem dX2_seek_36 : decode cX2_seek 36 = .ok (.aload_n 1, 1) := by decide +kernel
theorem dX2_seek_37 : decode cX2_seek 37 = .ok (.getfield 31, 3) := by decide +kernel
theorem dX2_seek_40 : decode cX2_seek 40 = .ok (.if_icmp .ge 81, 3) := by decide +kernel
theorem dX2_seek_43 : decode cX2_seek 43 = .ok (.aload_n 0, 1) := by decide +kernel
theorem dX2_seek_44 : decode cX2_seek 44 = .ok (.getfield 19, 3) := by decide +kernel
theorem dX2_seek_47 : decode cX2_seek 47 = .ok (.ifCond .ne 74, 3) := by decide +kernel
theorem dX2_seek_50 : decode cX2_seek 50 = .ok (.aload_n 0, 1) := by decide +kernel
theorem dX2_seek_51 : decode cX2_seek 51 = .ok (.aload_n 1, 1) := by decide +kernel
theorem dX2_seek_52 : decode cX2_seek 52 = .ok (.iload 4, 2) := by decide +kernel
theorem dX2_seek_54 : decode cX2_seek 54 = .ok (.iload 5, 2) := by decide +kernel
theorem dX2_seek_56 : decode cX2_seek 56 = .ok (.iload 6, 2) := by decide +kernel
theorem dX2_seek_58 : decode cX2_seek 58 = .ok (.invokevirtual 34, 3) := by decide +kernel
theorem dX2_seek_61 : decode cX2_seek 61 = .ok (.istore 5, 2) := by decide +kernel
theorem dX2_seek_63 : decode cX2_seek 63 = .ok (.aload_n 0, 1) := by decide +kernel
theorem dX2_seek_64 : decode cX2_seek 64 = .ok (.getfield 9, 3) := by decide +kernel
theorem dX2_seek_67 : decode cX2_seek 67 = .ok (.aload_n 0, 1) := by decide +kernel
theorem dX2_seek_68 : decode cX2_seek 68 = .ok (.getfield 15, 3) := by decide +kernel
theorem dX2_seek_71 : decode cX2_seek 71 = .ok (.iload 5, 2) := by decide +kernel
theorem dX2_seek_73 : decode cX2_seek 73 = .ok (.iastore, 1) := by decide +kernel
theorem dX2_seek_74 : decode cX2_seek 74 = .ok (.aload_n 0, 1) := by decide +kernel
theorem dX2_seek_75 : decode cX2_seek 75 = .ok (.dup, 1) := by decide +kernel
theorem dX2_seek_76 : decode cX2_seek 76 = .ok (.getfield 15, 3) := by decide +kernel
theorem dX2_seek_79 : decode cX2_seek 79 = .ok (.iconst 1, 1) := by decide +kernel
theorem dX2_seek_80 : decode cX2_seek 80 = .ok (.iadd, 1) := by decide +kernel
theorem dX2_seek_81 : decode cX2_seek 81 = .ok (.putfield 15, 3) := by decide +kernel
theorem dX2_seek_84 : decode cX2_seek 84 = .ok (.aload_n 0, 1) := by decide +kernel
theorem dX2_seek_85 : decode cX2_seek 85 = .ok (.dup, 1) := by decide +kernel
theorem dX2_seek_86 : decode cX2_seek 86 = .ok (.getfield 23, 3) := by decide +kernel
theorem dX2_seek_89 : decode cX2_seek 89 = .ok (.iconst 1, 1) := by decide +kernel
theorem dX2_seek_90 : decode cX2_seek 90 = .ok (.iload 5, 2) := by decide +kernel
theorem dX2_seek_92 : decode cX2_seek 92 = .ok (.ishl, 1) := by decide +kernel
theorem dX2_seek_93 : decode cX2_seek 93 = .ok (.ior, 1) := by decide +kernel
theorem dX2_seek_94 : decode cX2_seek 94 = .ok (.putfield 23, 3) := by decide +kernel
theorem dX2_seek_97 : decode cX2_seek 97 = .ok (.aload_n 2, 1) := by decide +kernel
theorem dX2_seek_98 : decode cX2_seek 98 = .ok (.iload 5, 2) := by decide +kernel
theorem dX2_seek_100 : decode cX2_seek 100 = .ok (.iaload, 1) := by decide +kernel
theorem dX2_seek_101 : decode cX2_seek 101 = .ok (.istore 6, 2) := by decide +kernel
theorem dX2_seek_103 : decode cX2_seek 103 = .ok (.aload_n 0, 1) := by decide +kernel
theorem dX2_seek_104 : decode cX2_seek 104 = .ok (.iload 6, 2) := by decide +kernel
theorem dX2_seek_106 : decode cX2_seek 106 = .ok (.iload_n 3, 1) := by decide +kernel
theorem dX2_seek_107 : decode cX2_seek 107 = .ok (.if_icmp .ne 7, 3) := by decide +kernel
theorem dX2_seek_110 : decode cX2_seek 110 = .ok (.iconst 1, 1) := by decide +kernel
theorem dX2_seek_111 : decode cX2_seek 111 = .ok (.goto 4, 3) := by decide +kernel
theorem dX2_seek_114 : decode cX2_seek 114 = .ok (.iconst 0, 1) := by decide +kernel
theorem dX2_seek_115 : decode cX2_seek 115 = .ok (.putfield 19, 3) := by decide +kernel
theorem dX2_seek_118 : decode cX2_seek 118 = .ok (.goto (-97), 3) := by decide +kernel
theorem dX2_seek_121 : decode cX2_seek 121 = .ok (.return_, 1) := by decide +kernel
theorem dX2_nextBox_0 : decode cX2_nextBox 0 = .ok (.aload_n 1, 1) := by decide +kernel
theorem dX2_nextBox_1 : decode cX2_nextBox 1 = .ok (.getfield 31, 3) := by decide +kernel
theorem dX2_nextBox_4 : decode cX2_nextBox 4 = .ok (.istore 5, 2) := by decide +kernel
theorem dX2_nextBox_6 : decode cX2_nextBox 6 = .ok (.iload_n 2, 1) := by decide +kernel
theorem dX2_nextBox_7 : decode cX2_nextBox 7 = .ok (.tableswitch 132 1 5 #[33, 38, 48, 84, 101], 33) := by decide +kernel
theorem dX2_nextBox_40 : decode cX2_nextBox 40 = .ok (.aload_n 0, 1) := by decide +kernel
theorem dX2_nextBox_41 : decode cX2_nextBox 41 = .ok (.getfield 15, 3) := by decide +kernel
theorem dX2_nextBox_44 : decode cX2_nextBox 44 = .ok (.ireturn, 1) := by decide +kernel
theorem dX2_nextBox_45 : decode cX2_nextBox 45 = .ok (.iload 5, 2) := by decide +kernel
theorem dX2_nextBox_47 : decode cX2_nextBox 47 = .ok (.iconst 1, 1) := by decide +kernel
theorem dX2_nextBox_48 : decode cX2_nextBox 48 = .ok (.isub, 1) := by decide +kernel
theorem dX2_nextBox_49 : decode cX2_nextBox 49 = .ok (.aload_n 0, 1) := by decide +kernel
theorem dX2_nextBox_50 : decode cX2_nextBox 50 = .ok (.getfield 15, 3) := by decide +kernel
theorem dX2_nextBox_53 : decode cX2_nextBox 53 = .ok (.isub, 1) := by decide +kernel
theorem dX2_nextBox_54 : decode cX2_nextBox 54 = .ok (.ireturn, 1) := by decide +kernel
theorem dX2_nextBox_55 : decode cX2_nextBox 55 = .ok (.iconst 2, 1) := by decide +kernel
theorem dX2_nextBox_56 : decode cX2_nextBox 56 = .ok (.aload_n 0, 1) := by decide +kernel
theorem dX2_nextBox_57 : decode cX2_nextBox 57 = .ok (.getfield 15, 3) := by decide +kernel
theorem dX2_nextBox_60 : decode cX2_nextBox 60 = .ok (.imul, 1) := by decide +kernel
theorem dX2_nextBox_61 : decode cX2_nextBox 61 = .ok (.iload 5, 2) := by decide +kernel
theorem dX2_nextBox_63 : decode cX2_nextBox 63 = .ok (.if_icmp .ge 12, 3) := by decide +kernel
theorem dX2_nextBox_66 : decode cX2_nextBox 66 = .ok (.iconst 2, 1) := by decide +kernel
theorem dX2_nextBox_67 : decode cX2_nextBox 67 = .ok (.aload_n 0, 1) := by decide +kernel
theorem dX2_nextBox_68 : decode cX2_nextBox 68 = .ok (.getfield 15, 3) := by decide +kernel
theorem dX2_nextBox_71 : decode cX2_nextBox 71 = .ok (.imul, 1) := by decide +kernel
theorem dX2_nextBox_72 : decode cX2_nextBox 72 = .ok (.goto 18, 3) := by decide +kernel
theorem dX2_nextBox_75 : decode cX2_nextBox 75 = .ok (.iconst 2, 1) := by decide +kernel
theorem dX2_nextBox_76 : decode cX2_nextBox 76 = .ok (.aload_n 0, 1) := by decide +kernel
theorem dX2_nextBox_77 : decode cX2_nextBox 77 = .ok (.getfield 15, 3) := by decide +kernel
theorem dX2_nextBox_80 : decode cX2_nextBox 80 = .ok (.iload 5, 2) := by decide +kernel
theorem dX2_nextBox_82 : decode cX2_nextBox 82 = .ok (.iconst 1, 1) := by decide +kernel
theorem dX2_nextBox_83 : decode cX2_nextBox 83 = .ok (.iadd, 1) := by decide +kernel
theorem dX2_nextBox_84 : decode cX2_nextBox 84 = .ok (.iconst 2, 1) := by decide +kernel
theorem dX2_nextBox_85 : decode cX2_nextBox 85 = .ok (.idiv, 1) := by decide +kernel
theorem dX2_nextBox_86 : decode cX2_nextBox 86 = .ok (.isub, 1) := by decide +kernel
theorem dX2_nextBox_87 : decode cX2_nextBox 87 = .ok (.imul, 1) := by decide +kernel
theorem dX2_nextBox_88 : decode cX2_nextBox 88 = .ok (.iconst 1, 1) := by decide +kernel
theorem dX2_nextBox_89 : decode cX2_nextBox 89 = .ok (.iadd, 1) := by decide +kernel
theorem dX2_nextBox_90 : decode cX2_nextBox 90 = .ok (.ireturn, 1) := by decide +kernel
theorem dX2_nextBox_91 : decode cX2_nextBox 91 = .ok (.aload_n 0, 1) := by decide +kernel
theorem dX2_nextBox_92 : decode cX2_nextBox 92 = .ok (.iload 4, 2) := by decide +kernel
theorem dX2_nextBox_94 : decode cX2_nextBox 94 = .ok (.aload_n 1, 1) := by decide +kernel
theorem dX2_nextBox_95 : decode cX2_nextBox 95 = .ok (.getfield 38, 3) := by decide +kernel
theorem dX2_nextBox_98 : decode cX2_nextBox 98 = .ok (.iadd, 1) := by decide +kernel
theorem dX2_nextBox_99 : decode cX2_nextBox 99 = .ok (.iload 5, 2) := by decide +kernel
theorem dX2_nextBox_101 : decode cX2_nextBox 101 = .ok (.irem, 1) := by decide +kernel
theorem dX2_nextBox_102 : decode cX2_nextBox 102 = .ok (.iload 5, 2) := by decide +kernel
theorem dX2_nextBox_104 : decode cX2_nextBox 104 = .ok (.invokevirtual 41, 3) := by decide +kernel
theorem dX2_nextBox_107 : decode cX2_nextBox 107 = .ok (.ireturn, 1) := by decide +kernel
theorem dX2_nextBox_108 : decode cX2_nextBox 108 = .ok (.aload_n 0, 1) := by decide +kernel
theorem dX2_nextBox_109 : decode cX2_nextBox 109 = .ok (.getfield 15, 3) := by decide +kernel
theorem dX2_nextBox_112 : decode cX2_nextBox 112 = .ok (.ifCond .ne 7, 3) := by decide +kernel
theorem dX2_nextBox_115 : decode cX2_nextBox 115 = .ok (.iconst 0, 1) := by decide +kernel
theorem dX2_nextBox_116 : decode cX2_nextBox 116 = .ok (.goto 22, 3) := by decide +kernel
theorem dX2_nextBox_119 : decode cX2_nextBox 119 = .ok (.aload_n 0, 1) := by decide +kernel
theorem dX2_nextBox_120 : decode cX2_nextBox 120 = .ok (.iload_n 3, 1) := by decide +kernel
theorem dX2_nextBox_121 : decode cX2_nextBox 121 = .ok (.iconst 1, 1) := by decide +kernel
theorem dX2_nextBox_122 : decode cX2_nextBox 122 = .ok (.aload_n 1, 1) := by decide +kernel
theorem dX2_nextBox_123 : decode cX2_nextBox 123 = .ok (.getfield 38, 3) := by decide +kernel
theorem dX2_nextBox_126 : decode cX2_nextBox 126 = .ok (.invokestatic 45, 3) := by decide +kernel
theorem dX2_nextBox_129 : decode cX2_nextBox 129 = .ok (.iadd, 1) := by decide +kernel
theorem dX2_nextBox_130 : decode cX2_nextBox 130 = .ok (.iload 5, 2) := by decide +kernel
theorem dX2_nextBox_132 : decode cX2_nextBox 132 = .ok (.irem, 1) := by decide +kernel
theorem dX2_nextBox_133 : decode cX2_nextBox 133 = .ok (.iload 5, 2) := by decide +kernel
theorem dX2_nextBox_135 : decode cX2_nextBox 135 = .ok (.invokevirtual 41, 3) := by decide +kernel
theorem dX2_nextBox_138 : decode cX2_nextBox 138 = .ok (.ireturn, 1) := by decide +kernel
theorem dX2_nextBox_139 : decode cX2_nextBox 139 = .ok (.iload 4, 2) := by decide +kernel
theorem dX2_nextBox_141 : decode cX2_nextBox 141 = .ok (.ireturn, 1) := by decide +kernel
theorem dX2_closedFrom_0 : decode cX2_closedFrom 0 = .ok (.iload_n 1, 1) := by decide +kernel
theorem dX2_closedFrom_1 : decode cX2_closedFrom 1 = .ok (.istore_n 3, 1) := by decide +kernel
theorem dX2_closedFrom_2 : decode cX2_closedFrom 2 = .ok (.iconst 0, 1) := by decide +kernel
theorem dX2_closedFrom_3 : decode cX2_closedFrom 3 = .ok (.istore 4, 2) := by decide +kernel
theorem dX2_closedFrom_5 : decode cX2_closedFrom 5 = .ok (.iload 4, 2) := by decide +kernel
theorem dX2_closedFrom_7 : decode cX2_closedFrom 7 = .ok (.iload_n 2, 1) := by decide +kernel
theorem dX2_closedFrom_8 : decode cX2_closedFrom 8 = .ok (.if_icmp .ge 27, 3) := by decide +kernel
theorem dX2_closedFrom_11 : decode cX2_closedFrom 11 = .ok (.aload_n 0, 1) := by decide +kernel
theorem dX2_closedFrom_12 : decode cX2_closedFrom 12 = .ok (.getfield 23, 3) := by decide +kernel
theorem dX2_closedFrom_15 : decode cX2_closedFrom 15 = .ok (.iload_n 3, 1) := by decide +kernel
theorem dX2_closedFrom_16 : decode cX2_closedFrom 16 = .ok (.ishr, 1) := by decide +kernel
theorem dX2_closedFrom_17 : decode cX2_closedFrom 17 = .ok (.iconst 1, 1) := by decide +kernel
theorem dX2_closedFrom_18 : decode cX2_closedFrom 18 = .ok (.iand, 1) := by decide +kernel
theorem dX2_closedFrom_19 : decode cX2_closedFrom 19 = .ok (.iconst 1, 1) := by decide +kernel
theorem dX2_closedFrom_20 : decode cX2_closedFrom 20 = .ok (.if_icmp .ne 15, 3) := by decide +kernel
theorem dX2_closedFrom_23 : decode cX2_closedFrom 23 = .ok (.iload_n 3, 1) := by decide +kernel
theorem dX2_closedFrom_24 : decode cX2_closedFrom 24 = .ok (.iconst 1, 1) := by decide +kernel
theorem dX2_closedFrom_25 : decode cX2_closedFrom 25 = .ok (.iadd, 1) := by decide +kernel
theorem dX2_closedFrom_26 : decode cX2_closedFrom 26 = .ok (.iload_n 2, 1) := by decide +kernel
theorem dX2_closedFrom_27 : decode cX2_closedFrom 27 = .ok (.irem, 1) := by decide +kernel
theorem dX2_closedFrom_28 : decode cX2_closedFrom 28 = .ok (.istore_n 3, 1) := by decide +kernel
theorem dX2_closedFrom_29 : decode cX2_closedFrom 29 = .ok (.iinc 4 1, 3) := by decide +kernel
theorem dX2_closedFrom_32 : decode cX2_closedFrom 32 = .ok (.goto (-27), 3) := by decide +kernel
theorem dX2_closedFrom_35 : decode cX2_closedFrom 35 = .ok (.iload_n 3, 1) := by decide +kernel
theorem dX2_closedFrom_36 : decode cX2_closedFrom 36 = .ok (.ireturn, 1) := by decide +kernel
theorem dX3_init_0 : decode cX3_init 0 = .ok (.aload_n 0, 1) := by decide +kernel
theorem dX3_init_1 : decode cX3_init 1 = .ok (.invokespecial 3, 3) := by decide +kernel
theorem dX3_init_4 : decode cX3_init 4 = .ok (.aload_n 0, 1) := by decide +kernel
theorem dX3_init_5 : decode cX3_init 5 = .ok (.sipush 150, 3) := by decide +kernel
theorem dX3_init_8 : decode cX3_init 8 = .ok (.newarray .byte, 2) := by decide +kernel
theorem dX3_init_10 : decode cX3_init 10 = .ok (.putfield 9, 3) := by decide +kernel
theorem dX3_init_13 : decode cX3_init 13 = .ok (.aload_n 0, 1) := by decide +kernel
theorem dX3_init_14 : decode cX3_init 14 = .ok (.iconst 0, 1) := by decide +kernel
theorem dX3_init_15 : decode cX3_init 15 = .ok (.putfield 15, 3) := by decide +kernel
theorem dX3_init_18 : decode cX3_init 18 = .ok (.aload_n 0, 1) := by decide +kernel
theorem dX3_init_19 : decode cX3_init 19 = .ok (.iconst 0, 1) := by decide +kernel
theorem dX3_init_20 : decode cX3_init 20 = .ok (.putfield 19, 3) := by decide +kernel
theorem dX3_init_23 : decode cX3_init 23 = .ok (.aload_n 0, 1) := by decide +kernel
theorem dX3_init_24 : decode cX3_init 24 = .ok (.iconst 0, 1) := by decide +kernel
theorem dX3_init_25 : decode cX3_init 25 = .ok (.putfield 22, 3) := by decide +kernel
theorem dX3_init_28 : decode cX3_init 28 = .ok (.aload_n 0, 1) := by decide +kernel
theorem dX3_init_29 : decode cX3_init 29 = .ok (.iconst 0, 1) := by decide +kernel
theorem dX3_init_30 : decode cX3_init 30 = .ok (.putfield 25, 3) := by decide +kernel
theorem dX3_init_33 : decode cX3_init 33 = .ok (.aload_n 0, 1) := by decide +kernel
theorem dX3_init_34 : decode cX3_init 34 = .ok (.iconst 0, 1) := by decide +kernel
theorem dX3_init_35 : decode cX3_init 35 = .ok (.putfield 28, 3) := by decide +kernel
theorem dX3_init_38 : decode cX3_init 38 = .ok (.return_, 1) := by decide +kernel
theorem dX3_tellItems_0 : decode cX3_tellItems 0 = .ok (.aload_n 0, 1) := by decide +kernel
theorem dX3_tellItems_1 : decode cX3_tellItems 1 = .ok (.iconst 0, 1) := by decide +kernel
theorem dX3_tellItems_2 : decode cX3_tellItems 2 = .ok (.putfield 19, 3) := by decide +kernel
theorem dX3_tellItems_5 : decode cX3_tellItems 5 = .ok (.iconst 0, 1) := by decide +kernel
theorem dX3_tellItems_6 : decode cX3_tellItems 6 = .ok (.istore_n 2, 1) := by decide +kernel
theorem dX3_tellItems_7 : decode cX3_tellItems 7 = .ok (.iload_n 2, 1) := by decide +kernel
