theorem dJ0_length_8abf5_0 : decode cJ0_length_8abf5 0 = .ok (.aload_n 0, 1) := by decide +kernel
theorem dJ0_length_8abf5_1 : decode cJ0_length_8abf5 1 = .ok (.getfield 9, 3) := by decide +kernel
theorem dJ0_length_8abf5_4 : decode cJ0_length_8abf5 4 = .ok (.arraylength, 1) := by decide +kernel
theorem dJ0_length_8abf5_5 : decode cJ0_length_8abf5 5 = .ok (.aload_n 0, 1) := by decide +kernel
theorem dJ0_length_8abf5_6 : decode cJ0_length_8abf5 6 = .ok (.invokevirtual 335, 3) := by decide +kernel
theorem dJ0_length_8abf5_9 : decode cJ0_length_8abf5 9 = .ok (.ishr, 1) := by decide +kernel
theorem dJ0_length_8abf5_10 : decode cJ0_length_8abf5 10 = .ok (.ireturn, 1) := by decide +kernel
theorem dJ0_charAt_5068e_0 : decode cJ0_charAt_5068e 0 = .ok (.aload_n 0, 1) := by decide +kernel
theorem dJ0_charAt_5068e_1 : decode cJ0_charAt_5068e 1 = .ok (.invokevirtual 492, 3) := by decide +kernel
theorem dJ0_charAt_5068e_4 : decode cJ0_charAt_5068e 4 = .ok (.ifCond .eq 12, 3) := by decide +kernel
theorem dJ0_charAt_5068e_7 : decode cJ0_charAt_5068e 7 = .ok (.aload_n 0, 1) := by decide +kernel
theorem dJ0_charAt_5068e_8 : decode cJ0_charAt_5068e 8 = .ok (.getfield 9, 3) := by decide +kernel
theorem dJ0_charAt_5068e_11 : decode cJ0_charAt_5068e 11 = .ok (.iload_n 1, 1) := by decide +kernel
theorem dJ0_charAt_5068e_12 : decode cJ0_charAt_5068e 12 = .ok (.invokestatic 495, 3) := by decide +kernel
theorem dJ0_charAt_5068e_15 : decode cJ0_charAt_5068e 15 = .ok (.ireturn, 1) := by decide +kernel
theorem dJ0_charAt_5068e_16 : decode cJ0_charAt_5068e 16 = .ok (.aload_n 0, 1) := by decide +kernel
theorem dJ0_charAt_5068e_17 : decode cJ0_charAt_5068e 17 = .ok (.getfield 9, 3) := by decide +kernel
theorem dJ0_charAt_5068e_20 : decode cJ0_charAt_5068e 20 = .ok (.iload_n 1, 1) := by decide +kernel
theorem dJ0_charAt_5068e_21 : decode cJ0_charAt_5068e 21 = .ok (.invokestatic 498, 3) := by decide +kernel
theorem dJ0_charAt_5068e_24 : decode cJ0_charAt_5068e 24 = .ok (.ireturn, 1) := by decide +kernel
theorem dJ0_coder_7d493_0 : decode cJ0_coder_7d493 0 = .ok (.getstatic 38, 3) := by decide +kernel
theorem dJ0_coder_7d493_3 : decode cJ0_coder_7d493 3 = .ok (.ifCond .eq 10, 3) := by decide +kernel
theorem dJ0_coder_7d493_6 : decode cJ0_coder_7d493 6 = .ok (.aload_n 0, 1) := by decide +kernel
theorem dJ0_coder_7d493_7 : decode cJ0_coder_7d493 7 = .ok (.getfield 15, 3) := by decide +kernel
theorem dJ0_coder_7d493_10 : decode cJ0_coder_7d493 10 = .ok (.goto 4, 3) := by decide +kernel
theorem dJ0_coder_7d493_13 : decode cJ0_coder_7d493 13 = .ok (.iconst 1, 1) := by decide +kernel
theorem dJ0_coder_7d493_14 : decode cJ0_coder_7d493 14 = .ok (.ireturn, 1) := by decide +kernel
theorem dJ0_isLatin1_aae02_0 : decode cJ0_isLatin1_aae02 0 = .ok (.getstatic 38, 3) := by decide +kernel
theorem dJ0_isLatin1_aae02_3 : decode cJ0_isLatin1_aae02 3 = .ok (.ifCond .eq 14, 3) := by decide +kernel
theorem dJ0_isLatin1_aae02_6 : decode cJ0_isLatin1_aae02 6 = .ok (.aload_n 0, 1) := by decide +kernel
theorem dJ0_isLatin1_aae02_7 : decode cJ0_isLatin1_aae02 7 = .ok (.getfield 15, 3) := by decide +kernel
theorem dJ0_isLatin1_aae02_10 : decode cJ0_isLatin1_aae02 10 = .ok (.ifCond .ne 7, 3) := by decide +kernel
theorem dJ0_isLatin1_aae02_13 : decode cJ0_isLatin1_aae02 13 = .ok (.iconst 1, 1) := by decide +kernel
theorem dJ0_isLatin1_aae02_14 : decode cJ0_isLatin1_aae02 14 = .ok (.goto 4, 3) := by decide +kernel
theorem dJ0_isLatin1_aae02_17 : decode cJ0_isLatin1_aae02 17 = .ok (.iconst 0, 1) := by decide +kernel
theorem dJ0_isLatin1_aae02_18 : decode cJ0_isLatin1_aae02 18 = .ok (.ireturn, 1) := by decide +kernel
theorem dJ0_checkIndex_df160_0 : decode cJ0_checkIndex_df160 0 = .ok (.iload_n 0, 1) := by decide +kernel
theorem dJ0_checkIndex_df160_1 : decode cJ0_checkIndex_df160 1 = .ok (.iload_n 1, 1) := by decide +kernel
theorem dJ0_checkIndex_df160_2 : decode cJ0_checkIndex_df160 2 = .ok (.getstatic 1053, 3) := by decide +kernel
theorem dJ0_checkIndex_df160_5 : decode cJ0_checkIndex_df160 5 = .ok (.invokestatic 1059, 3) := by decide +kernel
theorem dJ0_checkIndex_df160_8 : decode cJ0_checkIndex_df160 8 = .ok (.pop, 1) := by decide +kernel
theorem dJ0_checkIndex_df160_9 : decode cJ0_checkIndex_df160 9 = .ok (.return_, 1) := by decide +kernel
theorem dJ1_charAt_3b067_0 : decode cJ1_charAt_3b067 0 = .ok (.iload_n 1, 1) := by decide +kernel
theorem dJ1_charAt_3b067_1 : decode cJ1_charAt_3b067 1 = .ok (.aload_n 0, 1) := by decide +kernel
theorem dJ1_charAt_3b067_2 : decode cJ1_charAt_3b067 2 = .ok (.arraylength, 1) := by decide +kernel
theorem dJ1_charAt_3b067_3 : decode cJ1_charAt_3b067 3 = .ok (.invokestatic 9, 3) := by decide +kernel
theorem dJ1_charAt_3b067_6 : decode cJ1_charAt_3b067 6 = .ok (.aload_n 0, 1) := by decide +kernel
theorem dJ1_charAt_3b067_7 : decode cJ1_charAt_3b067 7 = .ok (.iload_n 1, 1) := by decide +kernel
theorem dJ1_charAt_3b067_8 : decode cJ1_charAt_3b067 8 = .ok (.baload, 1) := by decide +kernel
theorem dJ1_charAt_3b067_9 : decode cJ1_charAt_3b067 9 = .ok (.sipush 255, 3) := by decide +kernel
theorem dJ1_charAt_3b067_12 : decode cJ1_charAt_3b067 12 = .ok (.iand, 1) := by decide +kernel
theorem dJ1_charAt_3b067_13 : decode cJ1_charAt_3b067 13 = .ok (.i2c, 1) := by decide +kernel
theorem dJ1_charAt_3b067_14 : decode cJ1_charAt_3b067 14 = .ok (.ireturn, 1) := by decide +kernel
theorem dJ2_getChar_3b067_0 : decode cJ2_getChar_3b067 0 = .ok (.getstatic 44, 3) := by decide +kernel
theorem dJ2_getChar_3b067_3 : decode cJ2_getChar_3b067 3 = .ok (.ifCond .ne 25, 3) := by decide +kernel
theorem dJ2_getChar_3b067_6 : decode cJ2_getChar_3b067 6 = .ok (.iload_n 1, 1) := by decide +kernel
theorem dJ2_getChar_3b067_7 : decode cJ2_getChar_3b067 7 = .ok (.ifCond .lt 11, 3) := by decide +kernel
theorem dJ2_getChar_3b067_10 : decode cJ2_getChar_3b067 10 = .ok (.iload_n 1, 1) := by decide +kernel
theorem dJ2_getChar_3b067_11 : decode cJ2_getChar_3b067 11 = .ok (.aload_n 0, 1) := by decide +kernel
theorem dJ2_getChar_3b067_12 : decode cJ2_getChar_3b067 12 = .ok (.invokestatic 48, 3) := by decide +kernel
theorem dJ2_getChar_3b067_15 : decode cJ2_getChar_3b067 15 = .ok (.if_icmp .lt 13, 3) := by decide +kernel
theorem dJ2_getChar_3b067_18 : decode cJ2_getChar_3b067 18 = .ok (.new 52, 3) := by decide +kernel
theorem dJ2_getChar_3b067_21 : decode cJ2_getChar_3b067 21 = .ok (.dup, 1) := by decide +kernel
theorem dJ2_getChar_3b067_22 : decode cJ2_getChar_3b067 22 = .ok (.ldc 54, 2) := by decide +kernel
theorem dJ2_getChar_3b067_24 : decode cJ2_getChar_3b067 24 = .ok (.invokespecial 56, 3) := by decide +kernel
theorem dJ2_getChar_3b067_27 : decode cJ2_getChar_3b067 27 = .ok (.athrow, 1) := by decide +kernel
theorem dJ2_getChar_3b067_28 : decode cJ2_getChar_3b067 28 = .ok (.iload_n 1, 1) := by decide +kernel
theorem dJ2_getChar_3b067_29 : decode cJ2_getChar_3b067 29 = .ok (.iconst 1, 1) := by decide +kernel
theorem dJ2_getChar_3b067_30 : decode cJ2_getChar_3b067 30 = .ok (.ishl, 1) := by decide +kernel
theorem dJ2_getChar_3b067_31 : decode cJ2_getChar_3b067 31 = .ok (.istore_n 1, 1) := by decide +kernel
theorem dJ2_getChar_3b067_32 : decode cJ2_getChar_3b067 32 = .ok (.aload_n 0, 1) := by decide +kernel
theorem dJ2_getChar_3b067_33 : decode cJ2_getChar_3b067 33 = .ok (.iload_n 1, 1) := by decide +kernel
theorem dJ2_getChar_3b067_34 : decode cJ2_getChar_3b067 34 = .ok (.iinc 1 1, 3) := by decide +kernel
theorem dJ2_getChar_3b067_37 : decode cJ2_getChar_3b067 37 = .ok (.baload, 1) := by decide +kernel
theorem dJ2_getChar_3b067_38 : decode cJ2_getChar_3b067 38 = .ok (.sipush 255, 3) := by decide +kernel
theorem dJ2_getChar_3b067_41 : decode cJ2_getChar_3b067 41 = .ok (.iand, 1) := by decide +kernel
theorem dJ2_getChar_3b067_42 : decode cJ2_getChar_3b067 42 = .ok (.getstatic 59, 3) := by decide +kernel
theorem dJ2_getChar_3b067_45 : decode cJ2_getChar_3b067 45 = .ok (.ishl, 1) := by decide +kernel
theorem dJ2_getChar_3b067_46 : decode cJ2_getChar_3b067 46 = .ok (.aload_n 0, 1) := by decide +kernel
theorem dJ2_getChar_3b067_47 : decode cJ2_getChar_3b067 47 = .ok (.iload_n 1, 1) := by decide +kernel
theorem dJ2_getChar_3b067_48 : decode cJ2_getChar_3b067 48 = .ok (.baload, 1) := by decide +kernel
theorem dJ2_getChar_3b067_49 : decode cJ2_getChar_3b067 49 = .ok (.sipush 255, 3) := by decide +kernel
theorem dJ2_getChar_3b067_52 : decode cJ2_getChar_3b067 52 = .ok (.iand, 1) := by decide +kernel
theorem dJ2_getChar_3b067_53 : decode cJ2_getChar_3b067 53 = .ok (.getstatic 63, 3) := by decide +kernel
theorem dJ2_getChar_3b067_56 : decode cJ2_getChar_3b067 56 = .ok (.ishl, 1) := by decide +kernel
theorem dJ2_getChar_3b067_57 : decode cJ2_getChar_3b067 57 = .ok (.ior, 1) := by decide +kernel
theorem dJ2_getChar_3b067_58 : decode cJ2_getChar_3b067 58 = .ok (.i2c, 1) := by decide +kernel
theorem dJ2_getChar_3b067_59 : decode cJ2_getChar_3b067 59 = .ok (.ireturn, 1) := by decide +kernel
theorem dJ2_length_9d52b_0 : decode cJ2_length_9d52b 0 = .ok (.aload_n 0, 1) := by decide +kernel
theorem dJ2_length_9d52b_1 : decode cJ2_length_9d52b 1 = .ok (.arraylength, 1) := by decide +kernel
theorem dJ2_length_9d52b_2 : decode cJ2_length_9d52b 2 = .ok (.iconst 1, 1) := by decide +kernel
theorem dJ2_length_9d52b_3 : decode cJ2_length_9d52b 3 = .ok (.ishr, 1) := by decide +kernel
theorem dJ2_length_9d52b_4 : decode cJ2_length_9d52b 4 = .ok (.ireturn, 1) := by decide +kernel
theorem dJ2_charAt_3b067_0 : decode cJ2_charAt_3b067 0 = .ok (.iload_n 1, 1) := by decide +kernel
theorem dJ2_charAt_3b067_1 : decode cJ2_charAt_3b067 1 = .ok (.aload_n 0, 1) := by decide +kernel
theorem dJ2_charAt_3b067_2 : decode cJ2_charAt_3b067 2 = .ok (.invokestatic 67, 3) := by decide +kernel
theorem dJ2_charAt_3b067_5 : decode cJ2_charAt_3b067 5 = .ok (.aload_n 0, 1) := by decide +kernel
theorem dJ2_charAt_3b067_6 : decode cJ2_charAt_3b067 6 = .ok (.iload_n 1, 1) := by decide +kernel
theorem dJ2_charAt_3b067_7 : decode cJ2_charAt_3b067 7 = .ok (.invokestatic 71, 3) := by decide +kernel
theorem dJ2_charAt_3b067_10 : decode cJ2_charAt_3b067 10 = .ok (.ireturn, 1) := by decide +kernel
theorem dJ2_checkIndex_2214a_0 : decode cJ2_checkIndex_2214a 0 = .ok (.iload_n 0, 1) := by decide +kernel
theorem dJ2_checkIndex_2214a_1 : decode cJ2_checkIndex_2214a 1 = .ok (.aload_n 1, 1) := by decide +kernel
theorem dJ2_checkIndex_2214a_2 : decode cJ2_checkIndex_2214a 2 = .ok (.invokestatic 48, 3) := by decide +kernel
theorem dJ2_checkIndex_2214a_5 : decode cJ2_checkIndex_2214a 5 = .ok (.invokestatic 414, 3) := by decide +kernel
theorem dJ2_checkIndex_2214a_8 : decode cJ2_checkIndex_2214a 8 = .ok (.return_, 1) := by decide +kernel
theorem dJ3_checkIndex_8e157_0 : decode cJ3_checkIndex_8e157 0 = .ok (.iload_n 0, 1) := by decide +kernel
theorem dJ3_checkIndex_8e157_1 : decode cJ3_checkIndex_8e157 1 = .ok (.ifCond .lt 8, 3) := by decide +kernel
theorem dJ3_checkIndex_8e157_4 : decode cJ3_checkIndex_8e157 4 = .ok (.iload_n 0, 1) := by decide +kernel
theorem dJ3_checkIndex_8e157_5 : decode cJ3_checkIndex_8e157 5 = .ok (.iload_n 1, 1) := by decide +kernel
theorem dJ3_checkIndex_8e157_6 : decode cJ3_checkIndex_8e157 6 = .ok (.if_icmp .lt 10, 3) := by decide +kernel
theorem dJ3_checkIndex_8e157_9 : decode cJ3_checkIndex_8e157 9 = .ok (.aload_n 2, 1) := by decide +kernel
theorem dJ3_checkIndex_8e157_10 : decode cJ3_checkIndex_8e157 10 = .ok (.iload_n 0, 1) := by decide +kernel
theorem dJ3_checkIndex_8e157_11 : decode cJ3_checkIndex_8e157 11 = .ok (.iload_n 1, 1) := by decide +kernel
theorem dJ3_checkIndex_8e157_12 : decode cJ3_checkIndex_8e157 12 = .ok (.invokestatic 95, 3) := by decide +kernel
theorem dJ3_checkIndex_8e157_15 : decode cJ3_checkIndex_8e157 15 = .ok (.athrow, 1) := by decide +kernel
theorem dJ3_checkIndex_8e157_16 : decode cJ3_checkIndex_8e157 16 = .ok (.iload_n 0, 1) := by decide +kernel
theorem dJ3_checkIndex_8e157_17 : decode cJ3_checkIndex_8e157 17 = .ok (.ireturn, 1) := by decide +kernel
theorem dJ7_fill_53178_0 : decode cJ7_fill_53178 0 = .ok (.iconst 0, 1) := by decide +kernel
theorem dJ7_fill_53178_1 : decode cJ7_fill_53178 1 = .ok (.istore_n 2, 1) := by decide +kernel
theorem dJ7_fill_53178_2 : decode cJ7_fill_53178 2 = .ok (.aload_n 0, 1) := by decide +kernel
theorem dJ7_fill_53178_3 : decode cJ7_fill_53178 3 = .ok (.arraylength, 1) := by decide +kernel
theorem dJ7_fill_53178_4 : decode cJ7_fill_53178 4 = .ok (.istore_n 3, 1) := by decide +kernel
theorem dJ7_fill_53178_5 : decode cJ7_fill_53178 5 = .ok (.iload_n 2, 1) := by decide +kernel
theorem dJ7_fill_53178_6 : decode cJ7_fill_53178 6 = .ok (.iload_n 3, 1) := by decide +kernel
theorem dJ7_fill_53178_7 : decode cJ7_fill_53178 7 = .ok (.if_icmp .ge 13, 3) := by decide +kernel
theorem dJ7_fill_53178_10 : decode cJ7_fill_53178 10 = .ok (.aload_n 0, 1) := by decide +kernel
theorem dJ7_fill_53178_11 : decode cJ7_fill_53178 11 = .ok (.iload_n 2, 1) := by decide +kernel
theorem dJ7_fill_53178_12 : decode cJ7_fill_53178 12 = .ok (.iload_n 1, 1) := by decide +kernel
theorem dJ7_fill_53178_13 : decode cJ7_fill_53178 13 = .ok (.iastore, 1) := by decide +kernel
theorem dJ7_fill_53178_14 : decode cJ7_fill_53178 14 = .ok (.iinc 2 1, 3) := by decide +kernel
theorem dJ7_fill_53178_17 : decode cJ7_fill_53178 17 = .ok (.goto (-12), 3) := by decide +kernel
theorem dJ7_fill_53178_20 : decode cJ7_fill_53178 20 = .ok (.return_, 1) := by decide +kernel
theorem dJ9_max_7cf53_0 : decode cJ9_max_7cf53 0 = .ok (.iload_n 0, 1) := by decide +kernel
theorem dJ9_max_7cf53_1 : decode cJ9_max_7cf53 1 = .ok (.iload_n 1, 1) := by decide +kernel
theorem dJ9_max_7cf53_2 : decode cJ9_max_7cf53 2 = .ok (.if_icmp .lt 7, 3) := by decide +kernel
theorem dJ9_max_7cf53_5 : decode cJ9_max_7cf53 5 = .ok (.iload_n 0, 1) := by decide +kernel
theorem dJ9_max_7cf53_6 : decode cJ9_max_7cf53 6 = .ok (.goto 4, 3) := by decide +kernel
theorem dJ9_max_7cf53_9 : decode cJ9_max_7cf53 9 = .ok (.iload_n 1, 1) := by decide +kernel
theorem dJ9_max_7cf53_10 : decode cJ9_max_7cf53 10 = .ok (.ireturn, 1) := by decide +kernel
theorem dJ9_min_7cf53_0 : decode cJ9_min_7cf53 0 = .ok (.iload_n 0, 1) := by decide +kernel
theorem dJ9_min_7cf53_1 : decode cJ9_min_7cf53 1 = .ok (.iload_n 1, 1) := by decide +kernel
theorem dJ9_min_7cf53_2 : decode cJ9_min_7cf53 2 = .ok (.if_icmp .gt 7, 3) := by decide +kernel
theorem dJ9_min_7cf53_5 : decode cJ9_min_7cf53 5 = .ok (.iload_n 0, 1) := by decide +kernel
theorem dJ9_min_7cf53_6 : decode cJ9_min_7cf53 6 = .ok (.goto 4, 3) := by decide +kernel
theorem dJ9_min_7cf53_9 : decode cJ9_min_7cf53 9 = .ok (.iload_n 1, 1) := by decide +kernel
theorem dJ9_min_7cf53_10 : decode cJ9_min_7cf53 10 = .ok (.ireturn, 1) := by decide +kernel
theorem dX0_init_0 : decode cX0_init 0 = .ok (.aload_n 0, 1) := by decide +kernel
theorem dX0_init_1 : decode cX0_init 1 = .ok (.invokespecial 1, 3) := by decide +kernel
theorem dX0_init_4 : decode cX0_init 4 = .ok (.return_, 1) := by decide +kernel
theorem dX0_next_0 : decode cX0_next 0 = .ok (.aload_n 0, 1) := by decide +kernel
theorem dX0_next_1 : decode cX0_next 1 = .ok (.aload_n 0, 1) := by decide +kernel
theorem dX0_next_2 : decode cX0_next 2 = .ok (.getfield 7, 3) := by decide +kernel
theorem dX0_next_5 : decode cX0_next 5 = .ok (.i2l, 1) := by decide +kernel
theorem dX0_next_6 : decode cX0_next 6 = .ok (.ldc2_w 13, 3) := by decide +kernel
theorem dX0_next_9 : decode cX0_next 9 = .ok (.lmul, 1) := by decide +kernel
theorem dX0_next_10 : decode cX0_next 10 = .ok (.ldc2_w 15, 3) := by decide +kernel
theorem dX0_next_13 : decode cX0_next 13 = .ok (.ladd, 1) := by decide +kernel
theorem dX0_next_14 : decode cX0_next 14 = .ok (.ldc2_w 17, 3) := by decide +kernel
theorem dX0_next_17 : decode cX0_next 17 = .ok (.land, 1) := by decide +kernel
theorem dX0_next_18 : decode cX0_next 18 = .ok (.l2i, 1) := by decide +kernel
theorem dX0_next_19 : decode cX0_next 19 = .ok (.putfield 7, 3) := by decide +kernel
theorem dX0_next_22 : decode cX0_next 22 = .ok (.iload_n 1, 1) := by decide +kernel
theorem dX0_next_23 : decode cX0_next 23 = .ok (.iconst 1, 1) := by decide +kernel
theorem dX0_next_24 : decode cX0_next 24 = .ok (.if_icmp .ge 7, 3) := by decide +kernel
theorem dX0_next_27 : decode cX0_next 27 = .ok (.iconst 0, 1) := by decide +kernel
theorem dX0_next_28 : decode cX0_next 28 = .ok (.goto 12, 3) := by decide +kernel
theorem dX0_next_31 : decode cX0_next 31 = .ok (.aload_n 0, 1) := by decide +kernel
theorem dX0_next_32 : decode cX0_next 32 = .ok (.getfield 7, 3) := by decide +kernel
theorem dX0_next_35 : decode cX0_next 35 = .ok (.ldc 19, 2) := by decide +kernel
theorem dX0_next_37 : decode cX0_next 37 = .ok (.idiv, 1) := by decide +kernel
theorem dX0_next_38 : decode cX0_next 38 = .ok (.iload_n 1, 1) := by decide +kernel
theorem dX0_next_39 : decode cX0_next 39 = .ok (.irem, 1) := by decide +kernel
theorem dX0_next_40 : decode cX0_next 40 = .ok (.ireturn, 1) := by decide +kernel
theorem dX2_init_0 : decode cX2_init 0 = .ok (.aload_n 0, 1) := by decide +kernel
theorem dX2_init_1 : decode cX2_init 1 = .ok (.invokespecial 3, 3) := by decide +kernel
theorem dX2_init_4 : decode cX2_init 4 = .ok (.aload_n 0, 1) := by decide +kernel
theorem dX2_init_5 : decode cX2_init 5 = .ok (.bipush 6, 2) := by decide +kernel
theorem dX2_init_7 : decode cX2_init 7 = .ok (.newarray .int, 2) := by decide +kernel
theorem dX2_init_9 : decode cX2_init 9 = .ok (.putfield 9, 3) := by decide +kernel
theorem dX2_init_12 : decode cX2_init 12 = .ok (.aload_n 0, 1) := by decide +kernel
theorem dX2_init_13 : decode cX2_init 13 = .ok (.bipush 6, 2) := by decide +kernel
theorem dX2_init_15 : decode cX2_init 15 = .ok (.newarray .int, 2) := by decide +kernel
theorem dX2_init_17 : decode cX2_init 17 = .ok (.putfield 15, 3) := by decide +kernel
theorem dX2_init_20 : decode cX2_init 20 = .ok (.return_, 1) := by decide +kernel
theorem dX3_init_0 : decode cX3_init 0 = .ok (.aload_n 0, 1) := by decide +kernel
theorem dX3_init_1 : decode cX3_init 1 = .ok (.invokespecial 3, 3) := by decide +kernel
theorem dX3_init_4 : decode cX3_init 4 = .ok (.aload_n 0, 1) := by decide +kernel
theorem dX3_init_5 : decode cX3_init 5 = .ok (.bipush 30, 2) := by decide +kernel
theorem dX3_init_7 : decode cX3_init 7 = .ok (.newarray .int, 2) := by decide +kernel
theorem dX3_init_9 : decode cX3_init 9 = .ok (.putfield 9, 3) := by decide +kernel
theorem dX3_init_12 : decode cX3_init 12 = .ok (.aload_n 0, 1) := by decide +kernel
theorem dX3_init_13 : decode cX3_init 13 = .ok (.bipush 30, 2) := by decide +kernel
theorem dX3_init_15 : decode cX3_init 15 = .ok (.newarray .int, 2) := by decide +kernel
theorem dX3_init_17 : decode cX3_init 17 = .ok (.putfield 15, 3) := by decide +kernel
theorem dX3_init_20 : decode cX3_init 20 = .ok (.aload_n 0, 1) := by decide +kernel
theorem dX3_init_21 : decode cX3_init 21 = .ok (.bipush 30, 2) := by decide +kernel
theorem dX3_init_23 : decode cX3_init 23 = .ok (.newarray .int, 2) := by decide +kernel
theorem dX3_init_25 : decode cX3_init 25 = .ok (.putfield 18, 3) := by decide +kernel
theorem dX3_init_28 : decode cX3_init 28 = .ok (.aload_n 0, 1) := by decide +kernel
theorem dX3_init_29 : decode cX3_init 29 = .ok (.bipush 30, 2) := by decide +kernel
theorem dX3_init_31 : decode cX3_init 31 = .ok (.newarray .int, 2) := by decide +kernel
theorem dX3_init_33 : decode cX3_init 33 = .ok (.putfield 21, 3) := by decide +kernel
theorem dX3_init_36 : decode cX3_init 36 = .ok (.aload_n 0, 1) := by decide +kernel
theorem dX3_init_37 : decode cX3_init 37 = .ok (.bipush 8, 2) := by decide +kernel
theorem dX3_init_39 : decode cX3_init 39 = .ok (.newarray .int, 2) := by decide +kernel
theorem dX3_init_41 : decode cX3_init 41 = .ok (.putfield 24, 3) := by decide +kernel
theorem dX3_init_44 : decode cX3_init 44 = .ok (.aload_n 0, 1) := by decide +kernel
theorem dX3_init_45 : decode cX3_init 45 = .ok (.bipush 8, 2) := by decide +kernel
theorem dX3_init_47 : decode cX3_init 47 = .ok (.newarray .int, 2) := by decide +kernel
theorem dX3_init_49 : decode cX3_init 49 = .ok (.putfield 27, 3) := by decide +kernel
theorem dX3_init_52 : decode cX3_init 52 = .ok (.return_, 1) := by decide +kernel
theorem dX3_addLogged_0 : decode cX3_addLogged 0 = .ok (.aload_n 0, 1) := by decide +kernel
theorem dX3_addLogged_1 : decode cX3_addLogged 1 = .ok (.getfield 30, 3) := by decide +kernel
theorem dX3_addLogged_4 : decode cX3_addLogged 4 = .ok (.bipush 30, 2) := by decide +kernel
theorem dX3_addLogged_6 : decode cX3_addLogged 6 = .ok (.if_icmp .lt 6, 3) := by decide +kernel
theorem dX3_addLogged_9 : decode cX3_addLogged 9 = .ok (.ldc 34, 2) := by decide +kernel
theorem dX3_addLogged_11 : decode cX3_addLogged 11 = .ok (.ireturn, 1) := by decide +kernel
theorem dX3_addLogged_12 : decode cX3_addLogged 12 = .ok (.aload_n 0, 1) := by decide +kernel
theorem dX3_addLogged_13 : decode cX3_addLogged 13 = .ok (.getfield 9, 3) := by decide +kernel
theorem dX3_addLogged_16 : decode cX3_addLogged 16 = .ok (.aload_n 0, 1) := by decide +kernel
theorem dX3_addLogged_17 : decode cX3_addLogged 17 = .ok (.getfield 30, 3) := by decide +kernel
theorem dX3_addLogged_20 : decode cX3_addLogged 20 = .ok (.iload_n 1, 1) := by decide +kernel
theorem dX3_addLogged_21 : decode cX3_addLogged 21 = .ok (.invokestatic 35, 3) := by decide +kernel
theorem dX3_addLogged_24 : decode cX3_addLogged 24 = .ok (.aload_n 0, 1) := by decide +kernel
theorem dX3_addLogged_25 : decode cX3_addLogged 25 = .ok (.getfield 15, 3) := by decide +kernel
theorem dX3_addLogged_28 : decode cX3_addLogged 28 = .ok (.aload_n 0, 1) := by decide +kernel
theorem dX3_addLogged_29 : decode cX3_addLogged 29 = .ok (.getfield 30, 3) := by decide +kernel
theorem dX3_addLogged_32 : decode cX3_addLogged 32 = .ok (.iload_n 2, 1) := by decide +kernel
theorem dX3_addLogged_33 : decode cX3_addLogged 33 = .ok (.invokestatic 35, 3) := by decide +kernel
theorem dX3_addLogged_36 : decode cX3_addLogged 36 = .ok (.aload_n 0, 1) := by decide +kernel
theorem dX3_addLogged_37 : decode cX3_addLogged 37 = .ok (.getfield 18, 3) := by decide +kernel
theorem dX3_addLogged_40 : decode cX3_addLogged 40 = .ok (.aload_n 0, 1) := by decide +kernel
theorem dX3_addLogged_41 : decode cX3_addLogged 41 = .ok (.getfield 30, 3) := by decide +kernel
theorem dX3_addLogged_44 : decode cX3_addLogged 44 = .ok (.iload_n 3, 1) := by decide +kernel
theorem dX3_addLogged_45 : decode cX3_addLogged 45 = .ok (.invokestatic 35, 3) := by decide +kernel
theorem dX3_addLogged_48 : decode cX3_addLogged 48 = .ok (.aload_n 0, 1) := by decide +kernel
theorem dX3_addLogged_49 : decode cX3_addLogged 49 = .ok (.getfield 21, 3) := by decide +kernel
theorem dX3_addLogged_52 : decode cX3_addLogged 52 = .ok (.aload_n 0, 1) := by decide +kernel
theorem dX3_addLogged_53 : decode cX3_addLogged 53 = .ok (.getfield 30, 3) := by decide +kernel
theorem dX3_addLogged_56 : decode cX3_addLogged 56 = .ok (.iload 4, 2) := by decide +kernel
theorem dX3_addLogged_58 : decode cX3_addLogged 58 = .ok (.invokestatic 35, 3) := by decide +kernel
theorem dX3_addLogged_61 : decode cX3_addLogged 61 = .ok (.aload_n 0, 1) := by decide +kernel
theorem dX3_addLogged_62 : decode cX3_addLogged 62 = .ok (.dup, 1) := by decide +kernel
theorem dX3_addLogged_63 : decode cX3_addLogged 63 = .ok (.getfield 30, 3) := by decide +kernel
theorem dX3_addLogged_66 : decode cX3_addLogged 66 = .ok (.iconst 1, 1) := by decide +kernel
theorem dX3_addLogged_67 : decode cX3_addLogged 67 = .ok (.iadd, 1) := by decide +kernel
theorem dX3_addLogged_68 : decode cX3_addLogged 68 = .ok (.putfield 30, 3) := by decide +kernel
theorem dX3_addLogged_71 : decode cX3_addLogged 71 = .ok (.aload_n 0, 1) := by decide +kernel
theorem dX3_addLogged_72 : decode cX3_addLogged 72 = .ok (.getfield 30, 3) := by decide +kernel
theorem dX3_addLogged_75 : decode cX3_addLogged 75 = .ok (.ireturn, 1) := by decide +kernel
theorem dX3_addMissed_0 : decode cX3_addMissed 0 = .ok (.aload_n 0, 1) := by decide +kernel
theorem dX3_addMissed_1 : decode cX3_addMissed 1 = .ok (.getfield 39, 3) := by decide +kernel
theorem dX3_addMissed_4 : decode cX3_addMissed 4 = .ok (.bipush 8, 2) := by decide +kernel
theorem dX3_addMissed_6 : decode cX3_addMissed 6 = .ok (.if_icmp .lt 6, 3) := by decide +kernel
theorem dX3_addMissed_9 : decode cX3_addMissed 9 = .ok (.ldc 34, 2) := by decide +kernel
theorem dX3_addMissed_11 : decode cX3_addMissed 11 = .ok (.ireturn, 1) := by decide +kernel
theorem dX3_addMissed_12 : decode cX3_addMissed 12 = .ok (.aload_n 0, 1) := by decide +kernel
theorem dX3_addMissed_13 : decode cX3_addMissed 13 = .ok (.getfield 24, 3) := by decide +kernel
theorem dX3_addMissed_16 : decode cX3_addMissed 16 = .ok (.aload_n 0, 1) := by decide +kernel
theorem dX3_addMissed_17 : decode cX3_addMissed 17 = .ok (.getfield 39, 3) := by decide +kernel
theorem dX3_addMissed_20 : decode cX3_addMissed 20 = .ok (.iload_n 1, 1) := by decide +kernel
theorem dX3_addMissed_21 : decode cX3_addMissed 21 = .ok (.invokestatic 35, 3) := by decide +kernel
theorem dX3_addMissed_24 : decode cX3_addMissed 24 = .ok (.aload_n 0, 1) := by decide +kernel
theorem dX3_addMissed_25 : decode cX3_addMissed 25 = .ok (.getfield 27, 3) := by decide +kernel
theorem dX3_addMissed_28 : decode cX3_addMissed 28 = .ok (.aload_n 0, 1) := by decide +kernel
theorem dX3_addMissed_29 : decode cX3_addMissed 29 = .ok (.getfield 39, 3) := by decide +kernel
theorem dX3_addMissed_32 : decode cX3_addMissed 32 = .ok (.iload_n 2, 1) := by decide +kernel
theorem dX3_addMissed_33 : decode cX3_addMissed 33 = .ok (.invokestatic 35, 3) := by decide +kernel
theorem dX3_addMissed_36 : decode cX3_addMissed 36 = .ok (.aload_n 0, 1) := by decide +kernel
theorem dX3_addMissed_37 : decode cX3_addMissed 37 = .ok (.dup, 1) := by decide +kernel
theorem dX3_addMissed_38 : decode cX3_addMissed 38 = .ok (.getfield 39, 3) := by decide +kernel
theorem dX3_addMissed_41 : decode cX3_addMissed 41 = .ok (.iconst 1, 1) := by decide +kernel
theorem dX3_addMissed_42 : decode cX3_addMissed 42 = .ok (.iadd, 1) := by decide +kernel
theorem dX3_addMissed_43 : decode cX3_addMissed 43 = .ok (.putfield 39, 3) := by decide +kernel
theorem dX3_addMissed_46 : decode cX3_addMissed 46 = .ok (.aload_n 0, 1) := by decide +kernel
theorem dX3_addMissed_47 : decode cX3_addMissed 47 = .ok (.getfield 39, 3) := by decide +kernel
theorem dX3_addMissed_50 : decode cX3_addMissed 50 = .ok (.ireturn, 1) := by decide +kernel
theorem dX3_forget_0 : decode cX3_forget 0 = .ok (.aload_n 0, 1) := by decide +kernel
theorem dX3_forget_1 : decode cX3_forget 1 = .ok (.iconst 0, 1) := by decide +kernel
theorem dX3_forget_2 : decode cX3_forget 2 = .ok (.putfield 30, 3) := by decide +kernel
theorem dX3_forget_5 : decode cX3_forget 5 = .ok (.aload_n 0, 1) := by decide +kernel
theorem dX3_forget_6 : decode cX3_forget 6 = .ok (.iconst 0, 1) := by decide +kernel
theorem dX3_forget_7 : decode cX3_forget 7 = .ok (.putfield 39, 3) := by decide +kernel
theorem dX3_forget_10 : decode cX3_forget 10 = .ok (.return_, 1) := by decide +kernel
theorem dX4_init_0 : decode cX4_init 0 = .ok (.aload_n 0, 1) := by decide +kernel
theorem dX4_init_1 : decode cX4_init 1 = .ok (.invokespecial 3, 3) := by decide +kernel
theorem dX4_init_4 : decode cX4_init 4 = .ok (.aload_n 0, 1) := by decide +kernel
theorem dX4_init_5 : decode cX4_init 5 = .ok (.bipush 14, 2) := by decide +kernel
theorem dX4_init_7 : decode cX4_init 7 = .ok (.newarray .int, 2) := by decide +kernel
theorem dX4_init_9 : decode cX4_init 9 = .ok (.putfield 9, 3) := by decide +kernel
theorem dX4_init_12 : decode cX4_init 12 = .ok (.aload_n 0, 1) := by decide +kernel
theorem dX4_init_13 : decode cX4_init 13 = .ok (.bipush 14, 2) := by decide +kernel
theorem dX4_init_15 : decode cX4_init 15 = .ok (.newarray .int, 2) := by decide +kernel
theorem dX4_init_17 : decode cX4_init 17 = .ok (.putfield 15, 3) := by decide +kernel
theorem dX4_init_20 : decode cX4_init 20 = .ok (.aload_n 0, 1) := by decide +kernel
theorem dX4_init_21 : decode cX4_init 21 = .ok (.bipush 14, 2) := by decide +kernel
theorem dX4_init_23 : decode cX4_init 23 = .ok (.newarray .int, 2) := by decide +kernel
theorem dX4_init_25 : decode cX4_init 25 = .ok (.putfield 18, 3) := by decide +kernel
theorem dX4_init_28 : decode cX4_init 28 = .ok (.aload_n 0, 1) := by decide +kernel
theorem dX4_init_29 : decode cX4_init 29 = .ok (.bipush 6, 2) := by decide +kernel
theorem dX4_init_31 : decode cX4_init 31 = .ok (.newarray .int, 2) := by decide +kernel
theorem dX4_init_33 : decode cX4_init 33 = .ok (.putfield 21, 3) := by decide +kernel
theorem dX4_init_36 : decode cX4_init 36 = .ok (.aload_n 0, 1) := by decide +kernel
theorem dX4_init_37 : decode cX4_init 37 = .ok (.bipush 6, 2) := by decide +kernel
theorem dX4_init_39 : decode cX4_init 39 = .ok (.newarray .int, 2) := by decide +kernel
theorem dX4_init_41 : decode cX4_init 41 = .ok (.putfield 24, 3) := by decide +kernel
theorem dX4_init_44 : decode cX4_init 44 = .ok (.aload_n 0, 1) := by decide +kernel
theorem dX4_init_45 : decode cX4_init 45 = .ok (.bipush 6, 2) := by decide +kernel
theorem dX4_init_47 : decode cX4_init 47 = .ok (.newarray .int, 2) := by decide +kernel
theorem dX4_init_49 : decode cX4_init 49 = .ok (.putfield 27, 3) := by decide +kernel
theorem dX4_init_52 : decode cX4_init 52 = .ok (.aload_n 0, 1) := by decide +kernel
theorem dX4_init_53 : decode cX4_init 53 = .ok (.bipush 6, 2) := by decide +kernel
theorem dX4_init_55 : decode cX4_init 55 = .ok (.newarray .int, 2) := by decide +kernel
theorem dX4_init_57 : decode cX4_init 57 = .ok (.putfield 30, 3) := by decide +kernel
theorem dX4_init_60 : decode cX4_init 60 = .ok (.aload_n 0, 1) := by decide +kernel
theorem dX4_init_61 : decode cX4_init 61 = .ok (.bipush 6, 2) := by decide +kernel
theorem dX4_init_63 : decode cX4_init 63 = .ok (.newarray .int, 2) := by decide +kernel
theorem dX4_init_65 : decode cX4_init 65 = .ok (.putfield 33, 3) := by decide +kernel
theorem dX4_init_68 : decode cX4_init 68 = .ok (.return_, 1) := by decide +kernel
theorem dX4_hasPlace_0 : decode cX4_hasPlace 0 = .ok (.iload_n 1, 1) := by decide +kernel
theorem dX4_hasPlace_1 : decode cX4_hasPlace 1 = .ok (.ifCond .lt 15, 3) := by decide +kernel
theorem dX4_hasPlace_4 : decode cX4_hasPlace 4 = .ok (.iload_n 1, 1) := by decide +kernel
theorem dX4_hasPlace_5 : decode cX4_hasPlace 5 = .ok (.aload_n 0, 1) := by decide +kernel
theorem dX4_hasPlace_6 : decode cX4_hasPlace 6 = .ok (.getfield 36, 3) := by decide +kernel
theorem dX4_hasPlace_9 : decode cX4_hasPlace 9 = .ok (.if_icmp .ge 7, 3) := by decide +kernel
theorem dX4_hasPlace_12 : decode cX4_hasPlace 12 = .ok (.iconst 1, 1) := by decide +kernel
theorem dX4_hasPlace_13 : decode cX4_hasPlace 13 = .ok (.goto 4, 3) := by decide +kernel
theorem dX4_hasPlace_16 : decode cX4_hasPlace 16 = .ok (.iconst 0, 1) := by decide +kernel
theorem dX4_hasPlace_17 : decode cX4_hasPlace 17 = .ok (.ireturn, 1) := by decide +kernel
theorem dX4_hasWay_0 : decode cX4_hasWay 0 = .ok (.iload_n 1, 1) := by decide +kernel
theorem dX4_hasWay_1 : decode cX4_hasWay 1 = .ok (.ifCond .lt 15, 3) := by decide +kernel
theorem dX4_hasWay_4 : decode cX4_hasWay 4 = .ok (.iload_n 1, 1) := by decide +kernel
theorem dX4_hasWay_5 : decode cX4_hasWay 5 = .ok (.aload_n 0, 1) := by decide +kernel
theorem dX4_hasWay_6 : decode cX4_hasWay 6 = .ok (.getfield 40, 3) := by decide +kernel
theorem dX4_hasWay_9 : decode cX4_hasWay 9 = .ok (.if_icmp .ge 7, 3) := by decide +kernel
theorem dX4_hasWay_12 : decode cX4_hasWay 12 = .ok (.iconst 1, 1) := by decide +kernel
theorem dX4_hasWay_13 : decode cX4_hasWay 13 = .ok (.goto 4, 3) := by decide +kernel
theorem dX4_hasWay_16 : decode cX4_hasWay 16 = .ok (.iconst 0, 1) := by decide +kernel
theorem dX4_hasWay_17 : decode cX4_hasWay 17 = .ok (.ireturn, 1) := by decide +kernel
theorem dX4_hasPerson_0 : decode cX4_hasPerson 0 = .ok (.iload_n 1, 1) := by decide +kernel
theorem dX4_hasPerson_1 : decode cX4_hasPerson 1 = .ok (.ifCond .lt 15, 3) := by decide +kernel
theorem dX4_hasPerson_4 : decode cX4_hasPerson 4 = .ok (.iload_n 1, 1) := by decide +kernel
theorem dX4_hasPerson_5 : decode cX4_hasPerson 5 = .ok (.aload_n 0, 1) := by decide +kernel
theorem dX4_hasPerson_6 : decode cX4_hasPerson 6 = .ok (.getfield 43, 3) := by decide +kernel
theorem dX4_hasPerson_9 : decode cX4_hasPerson 9 = .ok (.if_icmp .ge 7, 3) := by decide +kernel
theorem dX4_hasPerson_12 : decode cX4_hasPerson 12 = .ok (.iconst 1, 1) := by decide +kernel
theorem dX4_hasPerson_13 : decode cX4_hasPerson 13 = .ok (.goto 4, 3) := by decide +kernel
theorem dX4_hasPerson_16 : decode cX4_hasPerson 16 = .ok (.iconst 0, 1) := by decide +kernel
theorem dX4_hasPerson_17 : decode cX4_hasPerson 17 = .ok (.ireturn, 1) := by decide +kernel
theorem dX4_empty_0 : decode cX4_empty 0 = .ok (.aload_n 0, 1) := by decide +kernel
theorem dX4_empty_1 : decode cX4_empty 1 = .ok (.iconst 0, 1) := by decide +kernel
theorem dX4_empty_2 : decode cX4_empty 2 = .ok (.putfield 36, 3) := by decide +kernel
theorem dX4_empty_5 : decode cX4_empty 5 = .ok (.aload_n 0, 1) := by decide +kernel
theorem dX4_empty_6 : decode cX4_empty 6 = .ok (.iconst 0, 1) := by decide +kernel
theorem dX4_empty_7 : decode cX4_empty 7 = .ok (.putfield 40, 3) := by decide +kernel
theorem dX4_empty_10 : decode cX4_empty 10 = .ok (.aload_n 0, 1) := by decide +kernel
theorem dX4_empty_11 : decode cX4_empty 11 = .ok (.iconst 0, 1) := by decide +kernel
theorem dX4_empty_12 : decode cX4_empty 12 = .ok (.putfield 43, 3) := by decide +kernel
theorem dX4_empty_15 : decode cX4_empty 15 = .ok (.return_, 1) := by decide +kernel
theorem dX4_become_0 : decode cX4_become 0 = .ok (.aload_n 1, 1) := by decide +kernel
theorem dX4_become_1 : decode cX4_become 1 = .ok (.getfield 9, 3) := by decide +kernel
theorem dX4_become_4 : decode cX4_become 4 = .ok (.aload_n 0, 1) := by decide +kernel
theorem dX4_become_5 : decode cX4_become 5 = .ok (.getfield 9, 3) := by decide +kernel
theorem dX4_become_8 : decode cX4_become 8 = .ok (.invokestatic 46, 3) := by decide +kernel
theorem dX4_become_11 : decode cX4_become 11 = .ok (.aload_n 1, 1) := by decide +kernel
theorem dX4_become_12 : decode cX4_become 12 = .ok (.getfield 15, 3) := by decide +kernel
theorem dX4_become_15 : decode cX4_become 15 = .ok (.aload_n 0, 1) := by decide +kernel
theorem dX4_become_16 : decode cX4_become 16 = .ok (.getfield 15, 3) := by decide +kernel
theorem dX4_become_19 : decode cX4_become 19 = .ok (.invokestatic 46, 3) := by decide +kernel
theorem dX4_become_22 : decode cX4_become 22 = .ok (.aload_n 1, 1) := by decide +kernel
theorem dX4_become_23 : decode cX4_become 23 = .ok (.getfield 18, 3) := by decide +kernel
theorem dX4_become_26 : decode cX4_become 26 = .ok (.aload_n 0, 1) := by decide +kernel
theorem dX4_become_27 : decode cX4_become 27 = .ok (.getfield 18, 3) := by decide +kernel
theorem dX4_become_30 : decode cX4_become 30 = .ok (.invokestatic 46, 3) := by decide +kernel
theorem dX4_become_33 : decode cX4_become 33 = .ok (.aload_n 1, 1) := by decide +kernel
theorem dX4_become_34 : decode cX4_become 34 = .ok (.getfield 21, 3) := by decide +kernel
theorem dX4_become_37 : decode cX4_become 37 = .ok (.aload_n 0, 1) := by decide +kernel
theorem dX4_become_38 : decode cX4_become 38 = .ok (.getfield 21, 3) := by decide +kernel
theorem dX4_become_41 : decode cX4_become 41 = .ok (.invokestatic 46, 3) := by decide +kernel
theorem dX4_become_44 : decode cX4_become 44 = .ok (.aload_n 1, 1) := by decide +kernel
theorem dX4_become_45 : decode cX4_become 45 = .ok (.getfield 24, 3) := by decide +kernel
theorem dX4_become_48 : decode cX4_become 48 = .ok (.aload_n 0, 1) := by decide +kernel
theorem dX4_become_49 : decode cX4_become 49 = .ok (.getfield 24, 3) := by decide +kernel
theorem dX4_become_52 : decode cX4_become 52 = .ok (.invokestatic 46, 3) := by decide +kernel
theorem dX4_become_55 : decode cX4_become 55 = .ok (.aload_n 1, 1) := by decide +kernel
theorem dX4_become_56 : decode cX4_become 56 = .ok (.getfield 27, 3) := by decide +kernel
theorem dX4_become_59 : decode cX4_become 59 = .ok (.aload_n 0, 1) := by decide +kernel
theorem dX4_become_60 : decode cX4_become 60 = .ok (.getfield 27, 3) := by decide +kernel
theorem dX4_become_63 : decode cX4_become 63 = .ok (.invokestatic 46, 3) := by decide +kernel
theorem dX4_become_66 : decode cX4_become 66 = .ok (.aload_n 1, 1) := by decide +kernel
theorem dX4_become_67 : decode cX4_become 67 = .ok (.getfield 30, 3) := by decide +kernel
theorem dX4_become_70 : decode cX4_become 70 = .ok (.aload_n 0, 1) := by decide +kernel
theorem dX4_become_71 : decode cX4_become 71 = .ok (.getfield 30, 3) := by decide +kernel
theorem dX4_become_74 : decode cX4_become 74 = .ok (.invokestatic 46, 3) := by decide +kernel
theorem dX4_become_77 : decode cX4_become 77 = .ok (.aload_n 1, 1) := by decide +kernel
theorem dX4_become_78 : decode cX4_become 78 = .ok (.getfield 33, 3) := by decide +kernel
theorem dX4_become_81 : decode cX4_become 81 = .ok (.aload_n 0, 1) := by decide +kernel
theorem dX4_become_82 : decode cX4_become 82 = .ok (.getfield 33, 3) := by decide +kernel
theorem dX4_become_85 : decode cX4_become 85 = .ok (.invokestatic 46, 3) := by decide +kernel
theorem dX4_become_88 : decode cX4_become 88 = .ok (.aload_n 0, 1) := by decide +kernel
theorem dX4_become_89 : decode cX4_become 89 = .ok (.aload_n 1, 1) := by decide +kernel
theorem dX4_become_90 : decode cX4_become 90 = .ok (.getfield 36, 3) := by decide +kernel
theorem dX4_become_93 : decode cX4_become 93 = .ok (.putfield 36, 3) := by decide +kernel
theorem dX4_become_96 : decode cX4_become 96 = .ok (.aload_n 0, 1) := by decide +kernel
theorem dX4_become_97 : decode cX4_become 97 = .ok (.aload_n 1, 1) := by decide +kernel
theorem dX4_become_98 : decode cX4_become 98 = .ok (.getfield 40, 3) := by decide +kernel
theorem dX4_become_101 : decode cX4_become 101 = .ok (.putfield 40, 3) := by decide +kernel
theorem dX4_become_104 : decode cX4_become 104 = .ok (.aload_n 0, 1) := by decide +kernel
theorem dX4_become_105 : decode cX4_become 105 = .ok (.aload_n 1, 1) := by decide +kernel
theorem dX4_become_106 : decode cX4_become 106 = .ok (.getfield 43, 3) := by decide +kernel
theorem dX4_become_109 : decode cX4_become 109 = .ok (.putfield 43, 3) := by decide +kernel
theorem dX4_become_112 : decode cX4_become 112 = .ok (.return_, 1) := by decide +kernel
theorem dX4_otherEnd_0 : decode cX4_otherEnd 0 = .ok (.aload_n 0, 1) := by decide +kernel
theorem dX4_otherEnd_1 : decode cX4_otherEnd 1 = .ok (.getfield 9, 3) := by decide +kernel
theorem dX4_otherEnd_4 : decode cX4_otherEnd 4 = .ok (.iload_n 1, 1) := by decide +kernel
theorem dX4_otherEnd_5 : decode cX4_otherEnd 5 = .ok (.invokestatic 50, 3) := by decide +kernel
theorem dX4_otherEnd_8 : decode cX4_otherEnd 8 = .ok (.istore_n 3, 1) := by decide +kernel
theorem dX4_otherEnd_9 : decode cX4_otherEnd 9 = .ok (.aload_n 0, 1) := by decide +kernel
theorem dX4_otherEnd_10 : decode cX4_otherEnd 10 = .ok (.getfield 15, 3) := by decide +kernel
theorem dX4_otherEnd_13 : decode cX4_otherEnd 13 = .ok (.iload_n 1, 1) := by decide +kernel
theorem dX4_otherEnd_14 : decode cX4_otherEnd 14 = .ok (.invokestatic 50, 3) := by decide +kernel
theorem dX4_otherEnd_17 : decode cX4_otherEnd 17 = .ok (.istore 4, 2) := by decide +kernel
theorem dX4_otherEnd_19 : decode cX4_otherEnd 19 = .ok (.iload_n 3, 1) := by decide +kernel
theorem dX4_otherEnd_20 : decode cX4_otherEnd 20 = .ok (.iload_n 2, 1) := by decide +kernel
theorem dX4_otherEnd_21 : decode cX4_otherEnd 21 = .ok (.if_icmp .ne 8, 3) := by decide +kernel
theorem dX4_otherEnd_24 : decode cX4_otherEnd 24 = .ok (.iload 4, 2) := by decide +kernel
theorem dX4_otherEnd_26 : decode cX4_otherEnd 26 = .ok (.goto 14, 3) := by decide +kernel
theorem dX4_otherEnd_29 : decode cX4_otherEnd 29 = .ok (.iload 4, 2) := by decide +kernel
theorem dX4_otherEnd_31 : decode cX4_otherEnd 31 = .ok (.iload_n 2, 1) := by decide +kernel
theorem dX4_otherEnd_32 : decode cX4_otherEnd 32 = .ok (.if_icmp .ne 7, 3) := by decide +kernel
theorem dX4_otherEnd_35 : decode cX4_otherEnd 35 = .ok (.iload_n 3, 1) := by decide +kernel
theorem dX4_otherEnd_36 : decode cX4_otherEnd 36 = .ok (.goto 4, 3) := by decide +kernel
theorem dX4_otherEnd_39 : decode cX4_otherEnd 39 = .ok (.iconst (-1), 1) := by decide +kernel
theorem dX4_otherEnd_40 : decode cX4_otherEnd 40 = .ok (.ireturn, 1) := by decide +kernel
theorem dX4_areJoined_0 : decode cX4_areJoined 0 = .ok (.iconst 0, 1) := by decide +kernel
theorem dX4_areJoined_1 : decode cX4_areJoined 1 = .ok (.istore_n 3, 1) := by decide +kernel
theorem dX4_areJoined_2 : decode cX4_areJoined 2 = .ok (.iload_n 3, 1) := by decide +kernel
theorem dX4_areJoined_3 : decode cX4_areJoined 3 = .ok (.aload_n 0, 1) := by decide +kernel
theorem dX4_areJoined_4 : decode cX4_areJoined 4 = .ok (.getfield 40, 3) := by decide +kernel
theorem dX4_areJoined_7 : decode cX4_areJoined 7 = .ok (.if_icmp .ge 21, 3) := by decide +kernel
theorem dX4_areJoined_10 : decode cX4_areJoined 10 = .ok (.aload_n 0, 1) := by decide +kernel
theorem dX4_areJoined_11 : decode cX4_areJoined 11 = .ok (.iload_n 3, 1) := by decide +kernel
theorem dX4_areJoined_12 : decode cX4_areJoined 12 = .ok (.iload_n 1, 1) := by decide +kernel
theorem dX4_areJoined_13 : decode cX4_areJoined 13 = .ok (.invokevirtual 54, 3) := by decide +kernel
theorem dX4_areJoined_16 : decode cX4_areJoined 16 = .ok (.iload_n 2, 1) := by decide +kernel
theorem dX4_areJoined_17 : decode cX4_areJoined 17 = .ok (.if_icmp .ne 5, 3) := by decide +kernel
theorem dX4_areJoined_20 : decode cX4_areJoined 20 = .ok (.iconst 1, 1) := by decide +kernel
theorem dX4_areJoined_21 : decode cX4_areJoined 21 = .ok (.ireturn, 1) := by decide +kernel
theorem dX4_areJoined_22 : decode cX4_areJoined 22 = .ok (.iinc 3 1, 3) := by decide +kernel
theorem dX4_areJoined_25 : decode cX4_areJoined 25 = .ok (.goto (-23), 3) := by decide +kernel
theorem dX4_areJoined_28 : decode cX4_areJoined 28 = .ok (.iconst 0, 1) := by decide +kernel
theorem dX4_areJoined_29 : decode cX4_areJoined 29 = .ok (.ireturn, 1) := by decide +kernel
theorem dX6_init_0 : decode cX6_init 0 = .ok (.aload_n 0, 1) := by decide +kernel
theorem dX6_init_1 : decode cX6_init 1 = .ok (.invokespecial 3, 3) := by decide +kernel
theorem dX6_init_4 : decode cX6_init 4 = .ok (.aload_n 0, 1) := by decide +kernel
theorem dX6_init_5 : decode cX6_init 5 = .ok (.bipush 10, 2) := by decide +kernel
theorem dX6_init_7 : decode cX6_init 7 = .ok (.newarray .int, 2) := by decide +kernel
theorem dX6_init_9 : decode cX6_init 9 = .ok (.putfield 9, 3) := by decide +kernel
theorem dX6_init_12 : decode cX6_init 12 = .ok (.aload_n 0, 1) := by decide +kernel
theorem dX6_init_13 : decode cX6_init 13 = .ok (.bipush 10, 2) := by decide +kernel
theorem dX6_init_15 : decode cX6_init 15 = .ok (.newarray .int, 2) := by decide +kernel
theorem dX6_init_17 : decode cX6_init 17 = .ok (.putfield 15, 3) := by decide +kernel
theorem dX6_init_20 : decode cX6_init 20 = .ok (.aload_n 0, 1) := by decide +kernel
theorem dX6_init_21 : decode cX6_init 21 = .ok (.bipush 10, 2) := by decide +kernel
theorem dX6_init_23 : decode cX6_init 23 = .ok (.newarray .int, 2) := by decide +kernel
theorem dX6_init_25 : decode cX6_init 25 = .ok (.putfield 18, 3) := by decide +kernel
theorem dX6_init_28 : decode cX6_init 28 = .ok (.aload_n 0, 1) := by decide +kernel
theorem dX6_init_29 : decode cX6_init 29 = .ok (.iconst (-1), 1) := by decide +kernel
theorem dX6_init_30 : decode cX6_init 30 = .ok (.putfield 21, 3) := by decide +kernel
theorem dX6_init_33 : decode cX6_init 33 = .ok (.return_, 1) := by decide +kernel
theorem dX6_seek_0 : decode cX6_seek 0 = .ok (.aload_n 0, 1) := by decide +kernel
theorem dX6_seek_1 : decode cX6_seek 1 = .ok (.iconst (-1), 1) := by decide +kernel
theorem dX6_seek_2 : decode cX6_seek 2 = .ok (.putfield 21, 3) := by decide +kernel
theorem dX6_seek_5 : decode cX6_seek 5 = .ok (.aload_n 0, 1) := by decide +kernel
theorem dX6_seek_6 : decode cX6_seek 6 = .ok (.getfield 15, 3) := by decide +kernel
theorem dX6_seek_9 : decode cX6_seek 9 = .ok (.iconst 0, 1) := by decide +kernel
theorem dX6_seek_10 : decode cX6_seek 10 = .ok (.iload_n 3, 1) := by decide +kernel
theorem dX6_seek_11 : decode cX6_seek 11 = .ok (.invokestatic 25, 3) := by decide +kernel
theorem dX6_seek_14 : decode cX6_seek 14 = .ok (.aload_n 0, 1) := by decide +kernel
theorem dX6_seek_15 : decode cX6_seek 15 = .ok (.getfield 18, 3) := by decide +kernel
theorem dX6_seek_18 : decode cX6_seek 18 = .ok (.iconst 0, 1) := by decide +kernel
theorem dX6_seek_19 : decode cX6_seek 19 = .ok (.iconst 0, 1) := by decide +kernel
theorem dX6_seek_20 : decode cX6_seek 20 = .ok (.invokestatic 25, 3) := by decide +kernel
theorem dX6_seek_23 : decode cX6_seek 23 = .ok (.aload_n 0, 1) := by decide +kernel
theorem dX6_seek_24 : decode cX6_seek 24 = .ok (.aload_n 1, 1) := by decide +kernel
theorem dX6_seek_25 : decode cX6_seek 25 = .ok (.iload_n 2, 1) := by decide +kernel
theorem dX6_seek_26 : decode cX6_seek 26 = .ok (.iload 4, 2) := by decide +kernel
theorem dX6_seek_28 : decode cX6_seek 28 = .ok (.invokevirtual 29, 3) := by decide +kernel
theorem dX6_seek_31 : decode cX6_seek 31 = .ok (.aload_n 0, 1) := by decide +kernel
theorem dX6_seek_32 : decode cX6_seek 32 = .ok (.getfield 9, 3) := by decide +kernel
theorem dX6_seek_35 : decode cX6_seek 35 = .ok (.iload_n 3, 1) := by decide +kernel
theorem dX6_seek_36 : decode cX6_seek 36 = .ok (.invokestatic 33, 3) := by decide +kernel
theorem dX6_seek_39 : decode cX6_seek 39 = .ok (.ldc 37, 2) := by decide +kernel
theorem dX6_seek_41 : decode cX6_seek 41 = .ok (.if_icmp .lt 4, 3) := by decide +kernel
theorem dX6_seek_44 : decode cX6_seek 44 = .ok (.return_, 1) := by decide +kernel
theorem dX6_seek_45 : decode cX6_seek 45 = .ok (.iload_n 3, 1) := by decide +kernel
theorem dX6_seek_46 : decode cX6_seek 46 = .ok (.istore 5, 2) := by decide +kernel
theorem dX6_seek_48 : decode cX6_seek 48 = .ok (.aload_n 0, 1) := by decide +kernel
theorem dX6_seek_49 : decode cX6_seek 49 = .ok (.iconst 0, 1) := by decide +kernel
theorem dX6_seek_50 : decode cX6_seek 50 = .ok (.putfield 21, 3) := by decide +kernel
theorem dX6_seek_53 : decode cX6_seek 53 = .ok (.iconst 1, 1) := by decide +kernel
theorem dX6_seek_54 : decode cX6_seek 54 = .ok (.istore 6, 2) := by decide +kernel
theorem dX6_seek_56 : decode cX6_seek 56 = .ok (.iload 6, 2) := by decide +kernel
theorem dX6_seek_58 : decode cX6_seek 58 = .ok (.bipush 10, 2) := by decide +kernel
theorem dX6_seek_60 : decode cX6_seek 60 = .ok (.if_icmp .ge 83, 3) := by decide +kernel
theorem dX6_seek_63 : decode cX6_seek 63 = .ok (.iload 5, 2) := by decide +kernel
theorem dX6_seek_65 : decode cX6_seek 65 = .ok (.iload 4, 2) := by decide +kernel
theorem dX6_seek_67 : decode cX6_seek 67 = .ok (.if_icmp .eq 76, 3) := by decide +kernel
theorem dX6_seek_70 : decode cX6_seek 70 = .ok (.aload_n 0, 1) := by decide +kernel
theorem dX6_seek_71 : decode cX6_seek 71 = .ok (.aload_n 1, 1) := by decide +kernel
theorem dX6_seek_72 : decode cX6_seek 72 = .ok (.iload_n 2, 1) := by decide +kernel
theorem dX6_seek_73 : decode cX6_seek 73 = .ok (.iload 5, 2) := by decide +kernel
theorem dX6_seek_75 : decode cX6_seek 75 = .ok (.invokevirtual 38, 3) := by decide +kernel
theorem dX6_seek_78 : decode cX6_seek 78 = .ok (.istore 7, 2) := by decide +kernel
theorem dX6_seek_80 : decode cX6_seek 80 = .ok (.aload_n 1, 1) := by decide +kernel
theorem dX6_seek_81 : decode cX6_seek 81 = .ok (.iload 7, 2) := by decide +kernel
theorem dX6_seek_83 : decode cX6_seek 83 = .ok (.iload 5, 2) := by decide +kernel
theorem dX6_seek_85 : decode cX6_seek 85 = .ok (.invokevirtual 42, 3) := by decide +kernel
theorem dX6_seek_88 : decode cX6_seek 88 = .ok (.istore 5, 2) := by decide +kernel
theorem dX6_seek_90 : decode cX6_seek 90 = .ok (.aload_n 0, 1) := by decide +kernel
theorem dX6_seek_91 : decode cX6_seek 91 = .ok (.getfield 15, 3) := by decide +kernel
theorem dX6_seek_94 : decode cX6_seek 94 = .ok (.iload 6, 2) := by decide +kernel
theorem dX6_seek_96 : decode cX6_seek 96 = .ok (.iload 5, 2) := by decide +kernel
theorem dX6_seek_98 : decode cX6_seek 98 = .ok (.invokestatic 25, 3) := by decide +kernel
theorem dX6_seek_101 : decode cX6_seek 101 = .ok (.aload_n 0, 1) := by decide +kernel
theorem dX6_seek_102 : decode cX6_seek 102 = .ok (.getfield 18, 3) := by decide +kernel
theorem dX6_seek_105 : decode cX6_seek 105 = .ok (.iload 6, 2) := by decide +kernel
theorem dX6_seek_107 : decode cX6_seek 107 = .ok (.aload_n 0, 1) := by decide +kernel
theorem dX6_seek_108 : decode cX6_seek 108 = .ok (.getfield 18, 3) := by decide +kernel
theorem dX6_seek_111 : decode cX6_seek 111 = .ok (.iload 6, 2) := by decide +kernel
theorem dX6_seek_113 : decode cX6_seek 113 = .ok (.iconst 1, 1) := by decide +kernel
theorem dX6_seek_114 : decode cX6_seek 114 = .ok (.isub, 1) := by decide +kernel
theorem dX6_seek_115 : decode cX6_seek 115 = .ok (.invokestatic 33, 3) := by decide +kernel
theorem dX6_seek_118 : decode cX6_seek 118 = .ok (.aload_n 1, 1) := by decide +kernel
theorem dX6_seek_119 : decode cX6_seek 119 = .ok (.getfield 48, 3) := by decide +kernel
theorem dX6_seek_122 : decode cX6_seek 122 = .ok (.iload 7, 2) := by decide +kernel
theorem dX6_seek_124 : decode cX6_seek 124 = .ok (.invokestatic 33, 3) := by decide +kernel
theorem dX6_seek_127 : decode cX6_seek 127 = .ok (.iadd, 1) := by decide +kernel
theorem dX6_seek_128 : decode cX6_seek 128 = .ok (.invokestatic 25, 3) := by decide +kernel
theorem dX6_seek_131 : decode cX6_seek 131 = .ok (.aload_n 0, 1) := by decide +kernel
theorem dX6_seek_132 : decode cX6_seek 132 = .ok (.iload 6, 2) := by decide +kernel
theorem dX6_seek_134 : decode cX6_seek 134 = .ok (.putfield 21, 3) := by decide +kernel
theorem dX6_seek_137 : decode cX6_seek 137 = .ok (.iinc 6 1, 3) := by decide +kernel
theorem dX6_seek_140 : decode cX6_seek 140 = .ok (.goto (-84), 3) := by decide +kernel
theorem dX6_seek_143 : decode cX6_seek 143 = .ok (.return_, 1) := by decide +kernel
theorem dX6_measure_0 : decode cX6_measure 0 = .ok (.aload_n 0, 1) := by decide +kernel
theorem dX6_measure_1 : decode cX6_measure 1 = .ok (.getfield 9, 3) := by decide +kernel
theorem dX6_measure_4 : decode cX6_measure 4 = .ok (.ldc 37, 2) := by decide +kernel
theorem dX6_measure_6 : decode cX6_measure 6 = .ok (.invokestatic 51, 3) := by decide +kernel
theorem dX6_measure_9 : decode cX6_measure 9 = .ok (.aload_n 0, 1) := by decide +kernel
theorem dX6_measure_10 : decode cX6_measure 10 = .ok (.getfield 9, 3) := by decide +kernel
theorem dX6_measure_13 : decode cX6_measure 13 = .ok (.iload_n 3, 1) := by decide +kernel
theorem dX6_measure_14 : decode cX6_measure 14 = .ok (.iconst 0, 1) := by decide +kernel
theorem dX6_measure_15 : decode cX6_measure 15 = .ok (.invokestatic 25, 3) := by decide +kernel
theorem dX6_measure_18 : decode cX6_measure 18 = .ok (.iconst 1, 1) := by decide +kernel
theorem dX6_measure_19 : decode cX6_measure 19 = .ok (.istore 4, 2) := by decide +kernel
theorem dX6_measure_21 : decode cX6_measure 21 = .ok (.iconst 0, 1) := by decide +kernel
theorem dX6_measure_22 : decode cX6_measure 22 = .ok (.istore 5, 2) := by decide +kernel
theorem dX6_measure_24 : decode cX6_measure 24 = .ok (.iload 5, 2) := by decide +kernel
theorem dX6_measure_26 : decode cX6_measure 26 = .ok (.bipush 10, 2) := by decide +kernel
theorem dX6_measure_28 : decode cX6_measure 28 = .ok (.if_icmp .ge 190, 3) := by decide +kernel
theorem dX6_measure_31 : decode cX6_measure 31 = .ok (.iload 4, 2) := by decide +kernel
theorem dX6_measure_33 : decode cX6_measure 33 = .ok (.ifCond .eq 185, 3) := by decide +kernel
theorem dX6_measure_36 : decode cX6_measure 36 = .ok (.iconst 0, 1) := by decide +kernel
theorem dX6_measure_37 : decode cX6_measure 37 = .ok (.istore 4, 2) := by decide +kernel
theorem dX6_measure_39 : decode cX6_measure 39 = .ok (.iconst 0, 1) := by decide +kernel
theorem dX6_measure_40 : decode cX6_measure 40 = .ok (.istore 6, 2) := by decide +kernel
theorem dX6_measure_42 : decode cX6_measure 42 = .ok (.iload 6, 2) := by decide +kernel
theorem dX6_measure_44 : decode cX6_measure 44 = .ok (.aload_n 1, 1) := by decide +kernel
theorem dX6_measure_45 : decode cX6_measure 45 = .ok (.getfield 57, 3) := by decide +kernel
theorem dX6_measure_48 : decode cX6_measure 48 = .ok (.if_icmp .ge 164, 3) := by decide +kernel
theorem dX6_measure_51 : decode cX6_measure 51 = .ok (.iload_n 2, 1) := by decide +kernel
theorem dX6_measure_52 : decode cX6_measure 52 = .ok (.iload 6, 2) := by decide +kernel
theorem dX6_measure_54 : decode cX6_measure 54 = .ok (.ishr, 1) := by decide +kernel
theorem dX6_measure_55 : decode cX6_measure 55 = .ok (.iconst 1, 1) := by decide +kernel
theorem dX6_measure_56 : decode cX6_measure 56 = .ok (.iand, 1) := by decide +kernel
theorem dX6_measure_57 : decode cX6_measure 57 = .ok (.iconst 1, 1) := by decide +kernel
theorem dX6_measure_58 : decode cX6_measure 58 = .ok (.if_icmp .ne 148, 3) := by decide +kernel
theorem dX6_measure_61 : decode cX6_measure 61 = .ok (.aload_n 1, 1) := by decide +kernel
theorem dX6_measure_62 : decode cX6_measure 62 = .ok (.getfield 60, 3) := by decide +kernel
theorem dX6_measure_65 : decode cX6_measure 65 = .ok (.iload 6, 2) := by decide +kernel
theorem dX6_measure_67 : decode cX6_measure 67 = .ok (.invokestatic 33, 3) := by decide +kernel
theorem dX6_measure_70 : decode cX6_measure 70 = .ok (.istore 7, 2) := by decide +kernel
theorem dX6_measure_72 : decode cX6_measure 72 = .ok (.aload_n 1, 1) := by decide +kernel
theorem dX6_measure_73 : decode cX6_measure 73 = .ok (.getfield 63, 3) := by decide +kernel
theorem dX6_measure_76 : decode cX6_measure 76 = .ok (.iload 6, 2) := by decide +kernel
theorem dX6_measure_78 : decode cX6_measure 78 = .ok (.invokestatic 33, 3) := by decide +kernel
theorem dX6_measure_81 : decode cX6_measure 81 = .ok (.istore 8, 2) := by decide +kernel
theorem dX6_measure_83 : decode cX6_measure 83 = .ok (.aload_n 1, 1) := by decide +kernel
theorem dX6_measure_84 : decode cX6_measure 84 = .ok (.getfield 48, 3) := by decide +kernel
theorem dX6_measure_87 : decode cX6_measure 87 = .ok (.iload 6, 2) := by decide +kernel
theorem dX6_measure_89 : decode cX6_measure 89 = .ok (.invokestatic 33, 3) := by decide +kernel
theorem dX6_measure_92 : decode cX6_measure 92 = .ok (.bipush 16, 2) := by decide +kernel
theorem dX6_measure_94 : decode cX6_measure 94 = .ok (.imul, 1) := by decide +kernel
theorem dX6_measure_95 : decode cX6_measure 95 = .ok (.iconst 1, 1) := by decide +kernel
theorem dX6_measure_96 : decode cX6_measure 96 = .ok (.iadd, 1) := by decide +kernel
theorem dX6_measure_97 : decode cX6_measure 97 = .ok (.istore 9, 2) := by decide +kernel
theorem dX6_measure_99 : decode cX6_measure 99 = .ok (.aload_n 0, 1) := by decide +kernel
theorem dX6_measure_100 : decode cX6_measure 100 = .ok (.getfield 9, 3) := by decide +kernel
theorem dX6_measure_103 : decode cX6_measure 103 = .ok (.iload 7, 2) := by decide +kernel
theorem dX6_measure_105 : decode cX6_measure 105 = .ok (.invokestatic 33, 3) := by decide +kernel
theorem dX6_measure_108 : decode cX6_measure 108 = .ok (.aload_n 0, 1) := by decide +kernel
theorem dX6_measure_109 : decode cX6_measure 109 = .ok (.getfield 9, 3) := by decide +kernel
theorem dX6_measure_112 : decode cX6_measure 112 = .ok (.iload 8, 2) := by decide +kernel
theorem dX6_measure_114 : decode cX6_measure 114 = .ok (.invokestatic 33, 3) := by decide +kernel
theorem dX6_measure_117 : decode cX6_measure 117 = .ok (.iload 9, 2) := by decide +kernel
theorem dX6_measure_119 : decode cX6_measure 119 = .ok (.iadd, 1) := by decide +kernel
theorem dX6_measure_120 : decode cX6_measure 120 = .ok (.invokestatic 66, 3) := by decide +kernel
theorem dX6_measure_123 : decode cX6_measure 123 = .ok (.istore 10, 2) := by decide +kernel
theorem dX6_measure_125 : decode cX6_measure 125 = .ok (.aload_n 0, 1) := by decide +kernel
theorem dX6_measure_126 : decode cX6_measure 126 = .ok (.getfield 9, 3) := by decide +kernel
theorem dX6_measure_129 : decode cX6_measure 129 = .ok (.iload 8, 2) := by decide +kernel
theorem dX6_measure_131 : decode cX6_measure 131 = .ok (.invokestatic 33, 3) := by decide +kernel
theorem dX6_measure_134 : decode cX6_measure 134 = .ok (.iload 10, 2) := by decide +kernel
theorem dX6_measure_136 : decode cX6_measure 136 = .ok (.iload 9, 2) := by decide +kernel
theorem dX6_measure_138 : decode cX6_measure 138 = .ok (.iadd, 1) := by decide +kernel
theorem dX6_measure_139 : decode cX6_measure 139 = .ok (.invokestatic 66, 3) := by decide +kernel
theorem dX6_measure_142 : decode cX6_measure 142 = .ok (.istore 11, 2) := by decide +kernel
theorem dX6_measure_144 : decode cX6_measure 144 = .ok (.iload 4, 2) := by decide +kernel
theorem dX6_measure_146 : decode cX6_measure 146 = .ok (.ifCond .ne 31, 3) := by decide +kernel
theorem dX6_measure_149 : decode cX6_measure 149 = .ok (.iload 10, 2) := by decide +kernel
theorem dX6_measure_151 : decode cX6_measure 151 = .ok (.aload_n 0, 1) := by decide +kernel
theorem dX6_measure_152 : decode cX6_measure 152 = .ok (.getfield 9, 3) := by decide +kernel
theorem dX6_measure_155 : decode cX6_measure 155 = .ok (.iload 7, 2) := by decide +kernel
theorem dX6_measure_157 : decode cX6_measure 157 = .ok (.invokestatic 33, 3) := by decide +kernel
theorem dX6_measure_160 : decode cX6_measure 160 = .ok (.if_icmp .lt 17, 3) := by decide +kernel
theorem dX6_measure_163 : decode cX6_measure 163 = .ok (.iload 11, 2) := by decide +kernel
theorem dX6_measure_165 : decode cX6_measure 165 = .ok (.aload_n 0, 1) := by decide +kernel
theorem dX6_measure_166 : decode cX6_measure 166 = .ok (.getfield 9, 3) := by decide +kernel
theorem dX6_measure_169 : decode cX6_measure 169 = .ok (.iload 8, 2) := by decide +kernel
theorem dX6_measure_171 : decode cX6_measure 171 = .ok (.invokestatic 33, 3) := by decide +kernel
theorem dX6_measure_174 : decode cX6_measure 174 = .ok (.if_icmp .ge 7, 3) := by decide +kernel
theorem dX6_measure_177 : decode cX6_measure 177 = .ok (.iconst 1, 1) := by decide +kernel
theorem dX6_measure_178 : decode cX6_measure 178 = .ok (.goto 4, 3) := by decide +kernel
theorem dX6_measure_181 : decode cX6_measure 181 = .ok (.iconst 0, 1) := by decide +kernel
theorem dX6_measure_182 : decode cX6_measure 182 = .ok (.istore 4, 2) := by decide +kernel
theorem dX6_measure_184 : decode cX6_measure 184 = .ok (.aload_n 0, 1) := by decide +kernel
theorem dX6_measure_185 : decode cX6_measure 185 = .ok (.getfield 9, 3) := by decide +kernel
theorem dX6_measure_188 : decode cX6_measure 188 = .ok (.iload 7, 2) := by decide +kernel
theorem dX6_measure_190 : decode cX6_measure 190 = .ok (.iload 10, 2) := by decide +kernel
theorem dX6_measure_192 : decode cX6_measure 192 = .ok (.invokestatic 25, 3) := by decide +kernel
theorem dX6_measure_195 : decode cX6_measure 195 = .ok (.aload_n 0, 1) := by decide +kernel
theorem dX6_measure_196 : decode cX6_measure 196 = .ok (.getfield 9, 3) := by decide +kernel
theorem dX6_measure_199 : decode cX6_measure 199 = .ok (.iload 8, 2) := by decide +kernel
theorem dX6_measure_201 : decode cX6_measure 201 = .ok (.iload 11, 2) := by decide +kernel
theorem dX6_measure_203 : decode cX6_measure 203 = .ok (.invokestatic 25, 3) := by decide +kernel
theorem dX6_measure_206 : decode cX6_measure 206 = .ok (.iinc 6 1, 3) := by decide +kernel
theorem dX6_measure_209 : decode cX6_measure 209 = .ok (.goto (-167), 3) := by decide +kernel
theorem dX6_measure_212 : decode cX6_measure 212 = .ok (.iinc 5 1, 3) := by decide +kernel
theorem dX6_measure_215 : decode cX6_measure 215 = .ok (.goto (-191), 3) := by decide +kernel
theorem dX6_measure_218 : decode cX6_measure 218 = .ok (.return_, 1) := by decide +kernel
theorem dX6_nextWay_0 : decode cX6_nextWay 0 = .ok (.iconst (-1), 1) := by decide +kernel
theorem dX6_nextWay_1 : decode cX6_nextWay 1 = .ok (.istore 4, 2) := by decide +kernel
theorem dX6_nextWay_3 : decode cX6_nextWay 3 = .ok (.bipush 10, 2) := by decide +kernel
theorem dX6_nextWay_5 : decode cX6_nextWay 5 = .ok (.istore 5, 2) := by decide +kernel
theorem dX6_nextWay_7 : decode cX6_nextWay 7 = .ok (.iconst 0, 1) := by decide +kernel
theorem dX6_nextWay_8 : decode cX6_nextWay 8 = .ok (.istore 6, 2) := by decide +kernel
theorem dX6_nextWay_10 : decode cX6_nextWay 10 = .ok (.iload 6, 2) := by decide +kernel
theorem dX6_nextWay_12 : decode cX6_nextWay 12 = .ok (.aload_n 1, 1) := by decide +kernel
theorem dX6_nextWay_13 : decode cX6_nextWay 13 = .ok (.getfield 57, 3) := by decide +kernel
theorem dX6_nextWay_16 : decode cX6_nextWay 16 = .ok (.if_icmp .ge 84, 3) := by decide +kernel
theorem dX6_nextWay_19 : decode cX6_nextWay 19 = .ok (.aload_n 1, 1) := by decide +kernel
theorem dX6_nextWay_20 : decode cX6_nextWay 20 = .ok (.iload 6, 2) := by decide +kernel
theorem dX6_nextWay_22 : decode cX6_nextWay 22 = .ok (.iload_n 3, 1) := by decide +kernel
theorem dX6_nextWay_23 : decode cX6_nextWay 23 = .ok (.invokevirtual 42, 3) := by decide +kernel
theorem dX6_nextWay_26 : decode cX6_nextWay 26 = .ok (.istore 7, 2) := by decide +kernel
theorem dX6_nextWay_28 : decode cX6_nextWay 28 = .ok (.iload 7, 2) := by decide +kernel
theorem dX6_nextWay_30 : decode cX6_nextWay 30 = .ok (.iconst (-1), 1) := by decide +kernel
theorem dX6_nextWay_31 : decode cX6_nextWay 31 = .ok (.if_icmp .eq 63, 3) := by decide +kernel
theorem dX6_nextWay_34 : decode cX6_nextWay 34 = .ok (.iload 7, 2) := by decide +kernel
theorem dX6_nextWay_36 : decode cX6_nextWay 36 = .ok (.iload 5, 2) := by decide +kernel
theorem dX6_nextWay_38 : decode cX6_nextWay 38 = .ok (.if_icmp .ge 56, 3) := by decide +kernel
theorem dX6_nextWay_41 : decode cX6_nextWay 41 = .ok (.iload_n 2, 1) := by decide +kernel
theorem dX6_nextWay_42 : decode cX6_nextWay 42 = .ok (.iload 6, 2) := by decide +kernel
theorem dX6_nextWay_44 : decode cX6_nextWay 44 = .ok (.ishr, 1) := by decide +kernel
theorem dX6_nextWay_45 : decode cX6_nextWay 45 = .ok (.iconst 1, 1) := by decide +kernel
theorem dX6_nextWay_46 : decode cX6_nextWay 46 = .ok (.iand, 1) := by decide +kernel
theorem dX6_nextWay_47 : decode cX6_nextWay 47 = .ok (.iconst 1, 1) := by decide +kernel
theorem dX6_nextWay_48 : decode cX6_nextWay 48 = .ok (.if_icmp .ne 46, 3) := by decide +kernel
theorem dX6_nextWay_51 : decode cX6_nextWay 51 = .ok (.aload_n 0, 1) := by decide +kernel
theorem dX6_nextWay_52 : decode cX6_nextWay 52 = .ok (.getfield 9, 3) := by decide +kernel
theorem dX6_nextWay_55 : decode cX6_nextWay 55 = .ok (.iload 7, 2) := by decide +kernel
theorem dX6_nextWay_57 : decode cX6_nextWay 57 = .ok (.invokestatic 33, 3) := by decide +kernel
theorem dX6_nextWay_60 : decode cX6_nextWay 60 = .ok (.aload_n 1, 1) := by decide +kernel
theorem dX6_nextWay_61 : decode cX6_nextWay 61 = .ok (.getfield 48, 3) := by decide +kernel
theorem dX6_nextWay_64 : decode cX6_nextWay 64 = .ok (.iload 6, 2) := by decide +kernel
theorem dX6_nextWay_66 : decode cX6_nextWay 66 = .ok (.invokestatic 33, 3) := by decide +kernel
theorem dX6_nextWay_69 : decode cX6_nextWay 69 = .ok (.bipush 16, 2) := by decide +kernel
theorem dX6_nextWay_71 : decode cX6_nextWay 71 = .ok (.imul, 1) := by decide +kernel
theorem dX6_nextWay_72 : decode cX6_nextWay 72 = .ok (.iadd, 1) := by decide +kernel
theorem dX6_nextWay_73 : decode cX6_nextWay 73 = .ok (.iconst 1, 1) := by decide +kernel
theorem dX6_nextWay_74 : decode cX6_nextWay 74 = .ok (.iadd, 1) := by decide +kernel
theorem dX6_nextWay_75 : decode cX6_nextWay 75 = .ok (.aload_n 0, 1) := by decide +kernel
theorem dX6_nextWay_76 : decode cX6_nextWay 76 = .ok (.getfield 9, 3) := by decide +kernel
theorem dX6_nextWay_79 : decode cX6_nextWay 79 = .ok (.iload_n 3, 1) := by decide +kernel
theorem dX6_nextWay_80 : decode cX6_nextWay 80 = .ok (.invokestatic 33, 3) := by decide +kernel
theorem dX6_nextWay_83 : decode cX6_nextWay 83 = .ok (.if_icmp .ne 11, 3) := by decide +kernel
theorem dX6_nextWay_86 : decode cX6_nextWay 86 = .ok (.iload 6, 2) := by decide +kernel
theorem dX6_nextWay_88 : decode cX6_nextWay 88 = .ok (.istore 4, 2) := by decide +kernel
theorem dX6_nextWay_90 : decode cX6_nextWay 90 = .ok (.iload 7, 2) := by decide +kernel
theorem dX6_nextWay_92 : decode cX6_nextWay 92 = .ok (.istore 5, 2) := by decide +kernel
theorem dX6_nextWay_94 : decode cX6_nextWay 94 = .ok (.iinc 6 1, 3) := by decide +kernel
theorem dX6_nextWay_97 : decode cX6_nextWay 97 = .ok (.goto (-87), 3) := by decide +kernel
theorem dX6_nextWay_100 : decode cX6_nextWay 100 = .ok (.iload 4, 2) := by decide +kernel
theorem dX6_nextWay_102 : decode cX6_nextWay 102 = .ok (.ireturn, 1) := by decide +kernel
theorem dX6_placeAfter_0 : decode cX6_placeAfter 0 = .ok (.aload_n 0, 1) := by decide +kernel
theorem dX6_placeAfter_1 : decode cX6_placeAfter 1 = .ok (.getfield 15, 3) := by decide +kernel
theorem dX6_placeAfter_4 : decode cX6_placeAfter 4 = .ok (.iload_n 1, 1) := by decide +kernel
theorem dX6_placeAfter_5 : decode cX6_placeAfter 5 = .ok (.invokestatic 33, 3) := by decide +kernel
theorem dX6_placeAfter_8 : decode cX6_placeAfter 8 = .ok (.ireturn, 1) := by decide +kernel
theorem dX6_minutesTo_0 : decode cX6_minutesTo 0 = .ok (.aload_n 0, 1) := by decide +kernel
theorem dX6_minutesTo_1 : decode cX6_minutesTo 1 = .ok (.getfield 18, 3) := by decide +kernel
theorem dX6_minutesTo_4 : decode cX6_minutesTo 4 = .ok (.iload_n 1, 1) := by decide +kernel
theorem dX6_minutesTo_5 : decode cX6_minutesTo 5 = .ok (.invokestatic 33, 3) := by decide +kernel
theorem dX6_minutesTo_8 : decode cX6_minutesTo 8 = .ok (.ireturn, 1) := by decide +kernel
theorem dX6_piecesTo_0 : decode cX6_piecesTo 0 = .ok (.iconst 1, 1) := by decide +kernel
theorem dX6_piecesTo_1 : decode cX6_piecesTo 1 = .ok (.istore_n 2, 1) := by decide +kernel
theorem dX6_piecesTo_2 : decode cX6_piecesTo 2 = .ok (.iload_n 2, 1) := by decide +kernel
theorem dX6_piecesTo_3 : decode cX6_piecesTo 3 = .ok (.aload_n 0, 1) := by decide +kernel
theorem dX6_piecesTo_4 : decode cX6_piecesTo 4 = .ok (.getfield 21, 3) := by decide +kernel
theorem dX6_piecesTo_7 : decode cX6_piecesTo 7 = .ok (.if_icmp .gt 23, 3) := by decide +kernel
theorem dX6_piecesTo_10 : decode cX6_piecesTo 10 = .ok (.aload_n 0, 1) := by decide +kernel
theorem dX6_piecesTo_11 : decode cX6_piecesTo 11 = .ok (.getfield 15, 3) := by decide +kernel
theorem dX6_piecesTo_14 : decode cX6_piecesTo 14 = .ok (.iload_n 2, 1) := by decide +kernel
theorem dX6_piecesTo_15 : decode cX6_piecesTo 15 = .ok (.invokestatic 33, 3) := by decide +kernel
theorem dX6_piecesTo_18 : decode cX6_piecesTo 18 = .ok (.iload_n 1, 1) := by decide +kernel
theorem dX6_piecesTo_19 : decode cX6_piecesTo 19 = .ok (.if_icmp .ne 5, 3) := by decide +kernel
theorem dX6_piecesTo_22 : decode cX6_piecesTo 22 = .ok (.iload_n 2, 1) := by decide +kernel
theorem dX6_piecesTo_23 : decode cX6_piecesTo 23 = .ok (.ireturn, 1) := by decide +kernel
theorem dX6_piecesTo_24 : decode cX6_piecesTo 24 = .ok (.iinc 2 1, 3) := by decide +kernel
theorem dX6_piecesTo_27 : decode cX6_piecesTo 27 = .ok (.goto (-25), 3) := by decide +kernel
theorem dX6_piecesTo_30 : decode cX6_piecesTo 30 = .ok (.iconst (-1), 1) := by decide +kernel
theorem dX6_piecesTo_31 : decode cX6_piecesTo 31 = .ok (.ireturn, 1) := by decide +kernel
theorem dX6_saidBy_0 : decode cX6_saidBy 0 = .ok (.aload_n 0, 1) := by decide +kernel
theorem dX6_saidBy_1 : decode cX6_saidBy 1 = .ok (.getfield 21, 3) := by decide +kernel
theorem dX6_saidBy_4 : decode cX6_saidBy 4 = .ok (.iconst 1, 1) := by decide +kernel
theorem dX6_saidBy_5 : decode cX6_saidBy 5 = .ok (.if_icmp .ge 5, 3) := by decide +kernel
theorem dX6_saidBy_8 : decode cX6_saidBy 8 = .ok (.iconst 0, 1) := by decide +kernel
theorem dX6_saidBy_9 : decode cX6_saidBy 9 = .ok (.ireturn, 1) := by decide +kernel
theorem dX6_saidBy_10 : decode cX6_saidBy 10 = .ok (.iload_n 1, 1) := by decide +kernel
theorem dX6_saidBy_11 : decode cX6_saidBy 11 = .ok (.tableswitch 42 1 3 #[25, 27, 37], 25) := by decide +kernel
theorem dX6_saidBy_36 : decode cX6_saidBy 36 = .ok (.iconst 1, 1) := by decide +kernel
theorem dX6_saidBy_37 : decode cX6_saidBy 37 = .ok (.ireturn, 1) := by decide +kernel
theorem dX6_saidBy_38 : decode cX6_saidBy 38 = .ok (.iconst 0, 1) := by decide +kernel
theorem dX6_saidBy_39 : decode cX6_saidBy 39 = .ok (.aload_n 0, 1) := by decide +kernel
theorem dX6_saidBy_40 : decode cX6_saidBy 40 = .ok (.iload_n 2, 1) := by decide +kernel
theorem dX6_saidBy_41 : decode cX6_saidBy 41 = .ok (.invokevirtual 71, 3) := by decide +kernel
theorem dX6_saidBy_44 : decode cX6_saidBy 44 = .ok (.invokestatic 75, 3) := by decide +kernel
theorem dX6_saidBy_47 : decode cX6_saidBy 47 = .ok (.ireturn, 1) := by decide +kernel
theorem dX6_saidBy_48 : decode cX6_saidBy 48 = .ok (.aload_n 0, 1) := by decide +kernel
theorem dX6_saidBy_49 : decode cX6_saidBy 49 = .ok (.getfield 21, 3) := by decide +kernel
theorem dX6_saidBy_52 : decode cX6_saidBy 52 = .ok (.ireturn, 1) := by decide +kernel
theorem dX6_saidBy_53 : decode cX6_saidBy 53 = .ok (.iconst 0, 1) := by decide +kernel
theorem dX6_saidBy_54 : decode cX6_saidBy 54 = .ok (.ireturn, 1) := by decide +kernel
theorem dX6_outByLaw_0 : decode cX6_outByLaw 0 = .ok (.iload_n 1, 1) := by decide +kernel
theorem dX6_outByLaw_1 : decode cX6_outByLaw 1 = .ok (.iconst 1, 1) := by decide +kernel
theorem dX6_outByLaw_2 : decode cX6_outByLaw 2 = .ok (.if_icmp .ne 11, 3) := by decide +kernel
theorem dX6_outByLaw_5 : decode cX6_outByLaw 5 = .ok (.iconst 1, 1) := by decide +kernel
theorem dX6_outByLaw_6 : decode cX6_outByLaw 6 = .ok (.iload_n 2, 1) := by decide +kernel
theorem dX6_outByLaw_7 : decode cX6_outByLaw 7 = .ok (.invokestatic 66, 3) := by decide +kernel
theorem dX6_outByLaw_10 : decode cX6_outByLaw 10 = .ok (.goto 17, 3) := by decide +kernel
theorem dX6_outByLaw_13 : decode cX6_outByLaw 13 = .ok (.iload_n 1, 1) := by decide +kernel
theorem dX6_outByLaw_14 : decode cX6_outByLaw 14 = .ok (.iconst 3, 1) := by decide +kernel
theorem dX6_outByLaw_15 : decode cX6_outByLaw 15 = .ok (.if_icmp .ne 11, 3) := by decide +kernel
theorem dX6_outByLaw_18 : decode cX6_outByLaw 18 = .ok (.iload_n 2, 1) := by decide +kernel
theorem dX6_outByLaw_19 : decode cX6_outByLaw 19 = .ok (.iconst 1, 1) := by decide +kernel
theorem dX6_outByLaw_20 : decode cX6_outByLaw 20 = .ok (.iadd, 1) := by decide +kernel
theorem dX6_outByLaw_21 : decode cX6_outByLaw 21 = .ok (.iconst 2, 1) := by decide +kernel
theorem dX6_outByLaw_22 : decode cX6_outByLaw 22 = .ok (.idiv, 1) := by decide +kernel
theorem dX6_outByLaw_23 : decode cX6_outByLaw 23 = .ok (.goto 4, 3) := by decide +kernel
theorem dX6_outByLaw_26 : decode cX6_outByLaw 26 = .ok (.iload_n 2, 1) := by decide +kernel
theorem dX6_outByLaw_27 : decode cX6_outByLaw 27 = .ok (.ireturn, 1) := by decide +kernel
theorem dX6_placeByLaw_0 : decode cX6_placeByLaw 0 = .ok (.aload_n 0, 1) := by decide +kernel
theorem dX6_placeByLaw_1 : decode cX6_placeByLaw 1 = .ok (.iload_n 1, 1) := by decide +kernel
theorem dX6_placeByLaw_2 : decode cX6_placeByLaw 2 = .ok (.iconst 2, 1) := by decide +kernel
theorem dX6_placeByLaw_3 : decode cX6_placeByLaw 3 = .ok (.if_icmp .ne 7, 3) := by decide +kernel
theorem dX6_placeByLaw_6 : decode cX6_placeByLaw 6 = .ok (.iconst 0, 1) := by decide +kernel
theorem dX6_placeByLaw_7 : decode cX6_placeByLaw 7 = .ok (.goto 9, 3) := by decide +kernel
theorem dX6_placeByLaw_10 : decode cX6_placeByLaw 10 = .ok (.aload_n 0, 1) := by decide +kernel
theorem dX6_placeByLaw_11 : decode cX6_placeByLaw 11 = .ok (.iload_n 1, 1) := by decide +kernel
theorem dX6_placeByLaw_12 : decode cX6_placeByLaw 12 = .ok (.iload_n 2, 1) := by decide +kernel
theorem dX6_placeByLaw_13 : decode cX6_placeByLaw 13 = .ok (.invokevirtual 78, 3) := by decide +kernel
theorem dX6_placeByLaw_16 : decode cX6_placeByLaw 16 = .ok (.invokevirtual 81, 3) := by decide +kernel
theorem dX6_placeByLaw_19 : decode cX6_placeByLaw 19 = .ok (.ireturn, 1) := by decide +kernel
theorem dX6_minutesByLaw_0 : decode cX6_minutesByLaw 0 = .ok (.aload_n 0, 1) := by decide +kernel
theorem dX6_minutesByLaw_1 : decode cX6_minutesByLaw 1 = .ok (.aload_n 0, 1) := by decide +kernel
theorem dX6_minutesByLaw_2 : decode cX6_minutesByLaw 2 = .ok (.iload_n 1, 1) := by decide +kernel
theorem dX6_minutesByLaw_3 : decode cX6_minutesByLaw 3 = .ok (.iload_n 2, 1) := by decide +kernel
theorem dX6_minutesByLaw_4 : decode cX6_minutesByLaw 4 = .ok (.invokevirtual 78, 3) := by decide +kernel
theorem dX6_minutesByLaw_7 : decode cX6_minutesByLaw 7 = .ok (.invokevirtual 84, 3) := by decide +kernel
theorem dX6_minutesByLaw_10 : decode cX6_minutesByLaw 10 = .ok (.iload_n 1, 1) := by decide +kernel
theorem dX6_minutesByLaw_11 : decode cX6_minutesByLaw 11 = .ok (.iconst 2, 1) := by decide +kernel
theorem dX6_minutesByLaw_12 : decode cX6_minutesByLaw 12 = .ok (.if_icmp .ne 7, 3) := by decide +kernel
theorem dX6_minutesByLaw_15 : decode cX6_minutesByLaw 15 = .ok (.iconst 2, 1) := by decide +kernel
theorem dX6_minutesByLaw_16 : decode cX6_minutesByLaw 16 = .ok (.goto 4, 3) := by decide +kernel
theorem dX6_minutesByLaw_19 : decode cX6_minutesByLaw 19 = .ok (.iconst 1, 1) := by decide +kernel
theorem dX6_minutesByLaw_20 : decode cX6_minutesByLaw 20 = .ok (.imul, 1) := by decide +kernel
theorem dX6_minutesByLaw_21 : decode cX6_minutesByLaw 21 = .ok (.ireturn, 1) := by decide +kernel
theorem dX6_gain_0 : decode cX6_gain 0 = .ok (.aload_n 0, 1) := by decide +kernel
theorem dX6_gain_1 : decode cX6_gain 1 = .ok (.iload_n 3, 1) := by decide +kernel
theorem dX6_gain_2 : decode cX6_gain 2 = .ok (.invokevirtual 71, 3) := by decide +kernel
theorem dX6_gain_5 : decode cX6_gain 5 = .ok (.istore 5, 2) := by decide +kernel
theorem dX6_gain_7 : decode cX6_gain 7 = .ok (.iload 5, 2) := by decide +kernel
theorem dX6_gain_9 : decode cX6_gain 9 = .ok (.iconst (-1), 1) := by decide +kernel
theorem dX6_gain_10 : decode cX6_gain 10 = .ok (.if_icmp .eq 18, 3) := by decide +kernel
theorem dX6_gain_13 : decode cX6_gain 13 = .ok (.iload 5, 2) := by decide +kernel
theorem dX6_gain_15 : decode cX6_gain 15 = .ok (.aload_n 0, 1) := by decide +kernel
theorem dX6_gain_16 : decode cX6_gain 16 = .ok (.iload_n 1, 1) := by decide +kernel
theorem dX6_gain_17 : decode cX6_gain 17 = .ok (.iload_n 2, 1) := by decide +kernel
theorem dX6_gain_18 : decode cX6_gain 18 = .ok (.invokevirtual 78, 3) := by decide +kernel
theorem dX6_gain_21 : decode cX6_gain 21 = .ok (.if_icmp .gt 7, 3) := by decide +kernel
theorem dX6_gain_24 : decode cX6_gain 24 = .ok (.iconst 1, 1) := by decide +kernel
theorem dX6_gain_25 : decode cX6_gain 25 = .ok (.goto 4, 3) := by decide +kernel
theorem dX6_gain_28 : decode cX6_gain 28 = .ok (.iconst 0, 1) := by decide +kernel
theorem dX6_gain_29 : decode cX6_gain 29 = .ok (.istore 6, 2) := by decide +kernel
theorem dX6_gain_31 : decode cX6_gain 31 = .ok (.iload 6, 2) := by decide +kernel
theorem dX6_gain_33 : decode cX6_gain 33 = .ok (.ifCond .eq 8, 3) := by decide +kernel
theorem dX6_gain_36 : decode cX6_gain 36 = .ok (.iload 4, 2) := by decide +kernel
theorem dX6_gain_38 : decode cX6_gain 38 = .ok (.goto 4, 3) := by decide +kernel
theorem dX6_gain_41 : decode cX6_gain 41 = .ok (.iconst 0, 1) := by decide +kernel
theorem dX6_gain_42 : decode cX6_gain 42 = .ok (.aload_n 0, 1) := by decide +kernel
theorem dX6_gain_43 : decode cX6_gain 43 = .ok (.iload_n 1, 1) := by decide +kernel
theorem dX6_gain_44 : decode cX6_gain 44 = .ok (.iload_n 2, 1) := by decide +kernel
theorem dX6_gain_45 : decode cX6_gain 45 = .ok (.invokevirtual 87, 3) := by decide +kernel
theorem dX6_gain_48 : decode cX6_gain 48 = .ok (.isub, 1) := by decide +kernel
theorem dX6_gain_49 : decode cX6_gain 49 = .ok (.ireturn, 1) := by decide +kernel
theorem dX6_dearest_0 : decode cX6_dearest 0 = .ok (.iconst 0, 1) := by decide +kernel
theorem dX6_dearest_1 : decode cX6_dearest 1 = .ok (.istore 4, 2) := by decide +kernel
theorem dX6_dearest_3 : decode cX6_dearest 3 = .ok (.iconst 1, 1) := by decide +kernel
theorem dX6_dearest_4 : decode cX6_dearest 4 = .ok (.istore 5, 2) := by decide +kernel
theorem dX6_dearest_6 : decode cX6_dearest 6 = .ok (.iload 5, 2) := by decide +kernel
theorem dX6_dearest_8 : decode cX6_dearest 8 = .ok (.aload_n 0, 1) := by decide +kernel
theorem dX6_dearest_9 : decode cX6_dearest 9 = .ok (.getfield 21, 3) := by decide +kernel
theorem dX6_dearest_12 : decode cX6_dearest 12 = .ok (.if_icmp .gt 34, 3) := by decide +kernel
theorem dX6_dearest_15 : decode cX6_dearest 15 = .ok (.aload_n 0, 1) := by decide +kernel
theorem dX6_dearest_16 : decode cX6_dearest 16 = .ok (.iload_n 1, 1) := by decide +kernel
theorem dX6_dearest_17 : decode cX6_dearest 17 = .ok (.iload 5, 2) := by decide +kernel
theorem dX6_dearest_19 : decode cX6_dearest 19 = .ok (.iload_n 2, 1) := by decide +kernel
theorem dX6_dearest_20 : decode cX6_dearest 20 = .ok (.iload_n 3, 1) := by decide +kernel
theorem dX6_dearest_21 : decode cX6_dearest 21 = .ok (.invokevirtual 90, 3) := by decide +kernel
theorem dX6_dearest_24 : decode cX6_dearest 24 = .ok (.aload_n 0, 1) := by decide +kernel
theorem dX6_dearest_25 : decode cX6_dearest 25 = .ok (.iload_n 1, 1) := by decide +kernel
theorem dX6_dearest_26 : decode cX6_dearest 26 = .ok (.iload 4, 2) := by decide +kernel
theorem dX6_dearest_28 : decode cX6_dearest 28 = .ok (.iload_n 2, 1) := by decide +kernel
theorem dX6_dearest_29 : decode cX6_dearest 29 = .ok (.iload_n 3, 1) := by decide +kernel
theorem dX6_dearest_30 : decode cX6_dearest 30 = .ok (.invokevirtual 90, 3) := by decide +kernel
theorem dX6_dearest_33 : decode cX6_dearest 33 = .ok (.if_icmp .le 7, 3) := by decide +kernel
theorem dX6_dearest_36 : decode cX6_dearest 36 = .ok (.iload 5, 2) := by decide +kernel
theorem dX6_dearest_38 : decode cX6_dearest 38 = .ok (.istore 4, 2) := by decide +kernel
theorem dX6_dearest_40 : decode cX6_dearest 40 = .ok (.iinc 5 1, 3) := by decide +kernel
theorem dX6_dearest_43 : decode cX6_dearest 43 = .ok (.goto (-37), 3) := by decide +kernel
theorem dX6_dearest_46 : decode cX6_dearest 46 = .ok (.iload 4, 2) := by decide +kernel
theorem dX6_dearest_48 : decode cX6_dearest 48 = .ok (.ireturn, 1) := by decide +kernel
theorem dX8_init_0 : decode cX8_init 0 = .ok (.aload_n 0, 1) := by decide +kernel
theorem dX8_init_1 : decode cX8_init 1 = .ok (.invokespecial 3, 3) := by decide +kernel
theorem dX8_init_4 : decode cX8_init 4 = .ok (.aload_n 0, 1) := by decide +kernel
theorem dX8_init_5 : decode cX8_init 5 = .ok (.sipush 400, 3) := by decide +kernel
theorem dX8_init_8 : decode cX8_init 8 = .ok (.newarray .int, 2) := by decide +kernel
theorem dX8_init_10 : decode cX8_init 10 = .ok (.putfield 9, 3) := by decide +kernel
theorem dX8_init_13 : decode cX8_init 13 = .ok (.return_, 1) := by decide +kernel
theorem dX8_append_0 : decode cX8_append 0 = .ok (.iload_n 1, 1) := by decide +kernel
theorem dX8_append_1 : decode cX8_append 1 = .ok (.iconst 1, 1) := by decide +kernel
theorem dX8_append_2 : decode cX8_append 2 = .ok (.isub, 1) := by decide +kernel
theorem dX8_append_3 : decode cX8_append 3 = .ok (.istore 4, 2) := by decide +kernel
theorem dX8_append_5 : decode cX8_append 5 = .ok (.iload 4, 2) := by decide +kernel
theorem dX8_append_7 : decode cX8_append 7 = .ok (.ifCond .lt 42, 3) := by decide +kernel
theorem dX8_append_10 : decode cX8_append 10 = .ok (.aload_n 0, 1) := by decide +kernel
theorem dX8_append_11 : decode cX8_append 11 = .ok (.getfield 9, 3) := by decide +kernel
theorem dX8_append_14 : decode cX8_append 14 = .ok (.aload_n 0, 1) := by decide +kernel
theorem dX8_append_15 : decode cX8_append 15 = .ok (.getfield 15, 3) := by decide +kernel
theorem dX8_append_18 : decode cX8_append 18 = .ok (.lload_n 2, 1) := by decide +kernel
theorem dX8_append_19 : decode cX8_append 19 = .ok (.bipush 8, 2) := by decide +kernel
theorem dX8_append_21 : decode cX8_append 21 = .ok (.iload 4, 2) := by decide +kernel
theorem dX8_append_23 : decode cX8_append 23 = .ok (.imul, 1) := by decide +kernel
theorem dX8_append_24 : decode cX8_append 24 = .ok (.lushr, 1) := by decide +kernel
theorem dX8_append_25 : decode cX8_append 25 = .ok (.ldc2_w 19, 3) := by decide +kernel
theorem dX8_append_28 : decode cX8_append 28 = .ok (.land, 1) := by decide +kernel
theorem dX8_append_29 : decode cX8_append 29 = .ok (.l2i, 1) := by decide +kernel
theorem dX8_append_30 : decode cX8_append 30 = .ok (.invokestatic 21, 3) := by decide +kernel
theorem dX8_append_33 : decode cX8_append 33 = .ok (.aload_n 0, 1) := by decide +kernel
theorem dX8_append_34 : decode cX8_append 34 = .ok (.dup, 1) := by decide +kernel
theorem dX8_append_35 : decode cX8_append 35 = .ok (.getfield 15, 3) := by decide +kernel
theorem dX8_append_38 : decode cX8_append 38 = .ok (.iconst 1, 1) := by decide +kernel
theorem dX8_append_39 : decode cX8_append 39 = .ok (.iadd, 1) := by decide +kernel
theorem dX8_append_40 : decode cX8_append 40 = .ok (.putfield 15, 3) := by decide +kernel
theorem dX8_append_43 : decode cX8_append 43 = .ok (.iinc 4 (-1), 3) := by decide +kernel
theorem dX8_append_46 : decode cX8_append 46 = .ok (.goto (-41), 3) := by decide +kernel
theorem dX8_append_49 : decode cX8_append 49 = .ok (.return_, 1) := by decide +kernel
