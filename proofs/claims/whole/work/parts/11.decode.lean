theorem dJ0_charAt_5068e_0 : decode cJ0_charAt_5068e 0 = .ok (.aload_n 0, 1) := by decide +kernel
theorem dJ0_charAt_5068e_1 : decode cJ0_charAt_5068e 1 = .ok (.invokevirtual 492, 3) := by decide +kernel
theorem dJ0_charAt_5068e_4 : decode cJ0_charAt_5068e 4 = .ok (.ifCond .eq 12, 3) := by decide +kernel
theorem dJ0_charAt_5068e_7 : decode cJ0_charAt_5068e 7 = .ok (.aload_n 0, 1) := by decide +kernel
theorem dJ0_charAt_5068e_8 : decode cJ0_charAt_5068e 8 = .ok (.getfield 9, 3) := by decide +kernel
theorem dJ0_charAt_5068e_11 : decode cJ0_charAt_5068e 11 = .ok (.iload_n 1, 1) := by decide +kernel
theorem dJ0_charAt_5068e_12 : decode cJ0_charAt_5068e 12 = .ok (.invokestatic 495, 3) := by decide +kernel
theorem dJ0_charAt_5068e_15 : decode cJ0_charAt_5068e 15 = .ok (.ireturn, 1) := by decide +kernel
theorem dJ0_charAt_5068e_16 : decode cJ0_charAt_5068e 16 = .ok (.aload_n 0, 1) := by decide +kernel
theorem dJ0_charAt_5068e_17 : decode cJ0_charAt_5068e 17 = .ok (.getfield 9, 3) := by decide +kernel
theorem dJ0_charAt_5068e_20 : decode cJ0_charAt_5068e 20 = .ok (.iload_n 1, 1) := by decide +kernel
theorem dJ0_charAt_5068e_21 : decode cJ0_charAt_5068e 21 = .ok (.invokestatic 498, 3) := by decide +kernel
theorem dJ0_charAt_5068e_24 : decode cJ0_charAt_5068e 24 = .ok (.ireturn, 1) := by decide +kernel
theorem dJ0_checkBoundsBeginEnd_23922_0 : decode cJ0_checkBoundsBeginEnd_23922 0 = .ok (.iload_n 0, 1) := by decide +kernel
theorem dJ0_checkBoundsBeginEnd_23922_1 : decode cJ0_checkBoundsBeginEnd_23922 1 = .ok (.iload_n 1, 1) := by decide +kernel
theorem dJ0_checkBoundsBeginEnd_23922_2 : decode cJ0_checkBoundsBeginEnd_23922 2 = .ok (.iload_n 2, 1) := by decide +kernel
theorem dJ0_checkBoundsBeginEnd_23922_3 : decode cJ0_checkBoundsBeginEnd_23922 3 = .ok (.getstatic 1053, 3) := by decide +kernel
theorem dJ0_checkBoundsBeginEnd_23922_6 : decode cJ0_checkBoundsBeginEnd_23922 6 = .ok (.invokestatic 1062, 3) := by decide +kernel
theorem dJ0_checkBoundsBeginEnd_23922_9 : decode cJ0_checkBoundsBeginEnd_23922 9 = .ok (.pop, 1) := by decide +kernel
theorem dJ0_checkBoundsBeginEnd_23922_10 : decode cJ0_checkBoundsBeginEnd_23922 10 = .ok (.return_, 1) := by decide +kernel
theorem dJ0_checkIndex_df160_0 : decode cJ0_checkIndex_df160 0 = .ok (.iload_n 0, 1) := by decide +kernel
theorem dJ0_checkIndex_df160_1 : decode cJ0_checkIndex_df160 1 = .ok (.iload_n 1, 1) := by decide +kernel
theorem dJ0_checkIndex_df160_2 : decode cJ0_checkIndex_df160 2 = .ok (.getstatic 1053, 3) := by decide +kernel
theorem dJ0_checkIndex_df160_5 : decode cJ0_checkIndex_df160 5 = .ok (.invokestatic 1059, 3) := by decide +kernel
theorem dJ0_checkIndex_df160_8 : decode cJ0_checkIndex_df160 8 = .ok (.pop, 1) := by decide +kernel
theorem dJ0_checkIndex_df160_9 : decode cJ0_checkIndex_df160 9 = .ok (.return_, 1) := by decide +kernel
theorem dJ0_coder_7d493_0 : decode cJ0_coder_7d493 0 = .ok (.getstatic 38, 3) := by decide +kernel
theorem dJ0_coder_7d493_3 : decode cJ0_coder_7d493 3 = .ok (.ifCond .eq 10, 3) := by decide +kernel
theorem dJ0_coder_7d493_6 : decode cJ0_coder_7d493 6 = .ok (.aload_n 0, 1) := by decide +kernel
theorem dJ0_coder_7d493_7 : decode cJ0_coder_7d493 7 = .ok (.getfield 15, 3) := by decide +kernel
theorem dJ0_coder_7d493_10 : decode cJ0_coder_7d493 10 = .ok (.goto 4, 3) := by decide +kernel
theorem dJ0_coder_7d493_13 : decode cJ0_coder_7d493 13 = .ok (.iconst 1, 1) := by decide +kernel
theorem dJ0_coder_7d493_14 : decode cJ0_coder_7d493 14 = .ok (.ireturn, 1) := by decide +kernel
theorem dJ0_indexOf_0f7a4_0 : decode cJ0_indexOf_0f7a4 0 = .ok (.aload_n 0, 1) := by decide +kernel
theorem dJ0_indexOf_0f7a4_1 : decode cJ0_indexOf_0f7a4 1 = .ok (.iload_n 1, 1) := by decide +kernel
theorem dJ0_indexOf_0f7a4_2 : decode cJ0_indexOf_0f7a4 2 = .ok (.iconst 0, 1) := by decide +kernel
theorem dJ0_indexOf_0f7a4_3 : decode cJ0_indexOf_0f7a4 3 = .ok (.invokevirtual 633, 3) := by decide +kernel
theorem dJ0_indexOf_0f7a4_6 : decode cJ0_indexOf_0f7a4 6 = .ok (.ireturn, 1) := by decide +kernel
theorem dJ0_indexOf_7cf53_0 : decode cJ0_indexOf_7cf53 0 = .ok (.aload_n 0, 1) := by decide +kernel
theorem dJ0_indexOf_7cf53_1 : decode cJ0_indexOf_7cf53 1 = .ok (.invokevirtual 492, 3) := by decide +kernel
theorem dJ0_indexOf_7cf53_4 : decode cJ0_indexOf_7cf53 4 = .ok (.ifCond .eq 19, 3) := by decide +kernel
theorem dJ0_indexOf_7cf53_7 : decode cJ0_indexOf_7cf53 7 = .ok (.aload_n 0, 1) := by decide +kernel
theorem dJ0_indexOf_7cf53_8 : decode cJ0_indexOf_7cf53 8 = .ok (.getfield 9, 3) := by decide +kernel
theorem dJ0_indexOf_7cf53_11 : decode cJ0_indexOf_7cf53 11 = .ok (.iload_n 1, 1) := by decide +kernel
theorem dJ0_indexOf_7cf53_12 : decode cJ0_indexOf_7cf53 12 = .ok (.iload_n 2, 1) := by decide +kernel
theorem dJ0_indexOf_7cf53_13 : decode cJ0_indexOf_7cf53 13 = .ok (.aload_n 0, 1) := by decide +kernel
theorem dJ0_indexOf_7cf53_14 : decode cJ0_indexOf_7cf53 14 = .ok (.invokevirtual 505, 3) := by decide +kernel
theorem dJ0_indexOf_7cf53_17 : decode cJ0_indexOf_7cf53 17 = .ok (.invokestatic 637, 3) := by decide +kernel
theorem dJ0_indexOf_7cf53_20 : decode cJ0_indexOf_7cf53 20 = .ok (.goto 16, 3) := by decide +kernel
theorem dJ0_indexOf_7cf53_23 : decode cJ0_indexOf_7cf53 23 = .ok (.aload_n 0, 1) := by decide +kernel
theorem dJ0_indexOf_7cf53_24 : decode cJ0_indexOf_7cf53 24 = .ok (.getfield 9, 3) := by decide +kernel
theorem dJ0_indexOf_7cf53_27 : decode cJ0_indexOf_7cf53 27 = .ok (.iload_n 1, 1) := by decide +kernel
theorem dJ0_indexOf_7cf53_28 : decode cJ0_indexOf_7cf53 28 = .ok (.iload_n 2, 1) := by decide +kernel
theorem dJ0_indexOf_7cf53_29 : decode cJ0_indexOf_7cf53 29 = .ok (.aload_n 0, 1) := by decide +kernel
theorem dJ0_indexOf_7cf53_30 : decode cJ0_indexOf_7cf53 30 = .ok (.invokevirtual 505, 3) := by decide +kernel
theorem dJ0_indexOf_7cf53_33 : decode cJ0_indexOf_7cf53 33 = .ok (.invokestatic 640, 3) := by decide +kernel
theorem dJ0_indexOf_7cf53_36 : decode cJ0_indexOf_7cf53 36 = .ok (.ireturn, 1) := by decide +kernel
theorem dJ0_isLatin1_aae02_0 : decode cJ0_isLatin1_aae02 0 = .ok (.getstatic 38, 3) := by decide +kernel
theorem dJ0_isLatin1_aae02_3 : decode cJ0_isLatin1_aae02 3 = .ok (.ifCond .eq 14, 3) := by decide +kernel
theorem dJ0_isLatin1_aae02_6 : decode cJ0_isLatin1_aae02 6 = .ok (.aload_n 0, 1) := by decide +kernel
theorem dJ0_isLatin1_aae02_7 : decode cJ0_isLatin1_aae02 7 = .ok (.getfield 15, 3) := by decide +kernel
theorem dJ0_isLatin1_aae02_10 : decode cJ0_isLatin1_aae02 10 = .ok (.ifCond .ne 7, 3) := by decide +kernel
theorem dJ0_isLatin1_aae02_13 : decode cJ0_isLatin1_aae02 13 = .ok (.iconst 1, 1) := by decide +kernel
theorem dJ0_isLatin1_aae02_14 : decode cJ0_isLatin1_aae02 14 = .ok (.goto 4, 3) := by decide +kernel
theorem dJ0_isLatin1_aae02_17 : decode cJ0_isLatin1_aae02 17 = .ok (.iconst 0, 1) := by decide +kernel
theorem dJ0_isLatin1_aae02_18 : decode cJ0_isLatin1_aae02 18 = .ok (.ireturn, 1) := by decide +kernel
theorem dJ0_length_8abf5_0 : decode cJ0_length_8abf5 0 = .ok (.aload_n 0, 1) := by decide +kernel
theorem dJ0_length_8abf5_1 : decode cJ0_length_8abf5 1 = .ok (.getfield 9, 3) := by decide +kernel
theorem dJ0_length_8abf5_4 : decode cJ0_length_8abf5 4 = .ok (.arraylength, 1) := by decide +kernel
theorem dJ0_length_8abf5_5 : decode cJ0_length_8abf5 5 = .ok (.aload_n 0, 1) := by decide +kernel
theorem dJ0_length_8abf5_6 : decode cJ0_length_8abf5 6 = .ok (.invokevirtual 335, 3) := by decide +kernel
theorem dJ0_length_8abf5_9 : decode cJ0_length_8abf5 9 = .ok (.ishr, 1) := by decide +kernel
theorem dJ0_length_8abf5_10 : decode cJ0_length_8abf5 10 = .ok (.ireturn, 1) := by decide +kernel
theorem dJ11_highSurrogate_5068e_0 : decode cJ11_highSurrogate_5068e 0 = .ok (.iload_n 0, 1) := by decide +kernel
theorem dJ11_highSurrogate_5068e_1 : decode cJ11_highSurrogate_5068e 1 = .ok (.bipush 10, 2) := by decide +kernel
theorem dJ11_highSurrogate_5068e_3 : decode cJ11_highSurrogate_5068e 3 = .ok (.iushr, 1) := by decide +kernel
theorem dJ11_highSurrogate_5068e_4 : decode cJ11_highSurrogate_5068e 4 = .ok (.ldc 110, 2) := by decide +kernel
theorem dJ11_highSurrogate_5068e_6 : decode cJ11_highSurrogate_5068e 6 = .ok (.iadd, 1) := by decide +kernel
theorem dJ11_highSurrogate_5068e_7 : decode cJ11_highSurrogate_5068e 7 = .ok (.i2c, 1) := by decide +kernel
theorem dJ11_highSurrogate_5068e_8 : decode cJ11_highSurrogate_5068e 8 = .ok (.ireturn, 1) := by decide +kernel
theorem dJ11_isValidCodePoint_9a6ad_0 : decode cJ11_isValidCodePoint_9a6ad 0 = .ok (.iload_n 0, 1) := by decide +kernel
theorem dJ11_isValidCodePoint_9a6ad_1 : decode cJ11_isValidCodePoint_9a6ad 1 = .ok (.bipush 16, 2) := by decide +kernel
theorem dJ11_isValidCodePoint_9a6ad_3 : decode cJ11_isValidCodePoint_9a6ad 3 = .ok (.iushr, 1) := by decide +kernel
theorem dJ11_isValidCodePoint_9a6ad_4 : decode cJ11_isValidCodePoint_9a6ad 4 = .ok (.istore_n 1, 1) := by decide +kernel
theorem dJ11_isValidCodePoint_9a6ad_5 : decode cJ11_isValidCodePoint_9a6ad 5 = .ok (.iload_n 1, 1) := by decide +kernel
theorem dJ11_isValidCodePoint_9a6ad_6 : decode cJ11_isValidCodePoint_9a6ad 6 = .ok (.bipush 17, 2) := by decide +kernel
theorem dJ11_isValidCodePoint_9a6ad_8 : decode cJ11_isValidCodePoint_9a6ad 8 = .ok (.if_icmp .ge 7, 3) := by decide +kernel
theorem dJ11_isValidCodePoint_9a6ad_11 : decode cJ11_isValidCodePoint_9a6ad 11 = .ok (.iconst 1, 1) := by decide +kernel
theorem dJ11_isValidCodePoint_9a6ad_12 : decode cJ11_isValidCodePoint_9a6ad 12 = .ok (.goto 4, 3) := by decide +kernel
theorem dJ11_isValidCodePoint_9a6ad_15 : decode cJ11_isValidCodePoint_9a6ad 15 = .ok (.iconst 0, 1) := by decide +kernel
theorem dJ11_isValidCodePoint_9a6ad_16 : decode cJ11_isValidCodePoint_9a6ad 16 = .ok (.ireturn, 1) := by decide +kernel
theorem dJ11_lowSurrogate_5068e_0 : decode cJ11_lowSurrogate_5068e 0 = .ok (.iload_n 0, 1) := by decide +kernel
theorem dJ11_lowSurrogate_5068e_1 : decode cJ11_lowSurrogate_5068e 1 = .ok (.sipush 1023, 3) := by decide +kernel
theorem dJ11_lowSurrogate_5068e_4 : decode cJ11_lowSurrogate_5068e 4 = .ok (.iand, 1) := by decide +kernel
theorem dJ11_lowSurrogate_5068e_5 : decode cJ11_lowSurrogate_5068e 5 = .ok (.ldc 76, 2) := by decide +kernel
theorem dJ11_lowSurrogate_5068e_7 : decode cJ11_lowSurrogate_5068e 7 = .ok (.iadd, 1) := by decide +kernel
theorem dJ11_lowSurrogate_5068e_8 : decode cJ11_lowSurrogate_5068e 8 = .ok (.i2c, 1) := by decide +kernel
theorem dJ11_lowSurrogate_5068e_9 : decode cJ11_lowSurrogate_5068e 9 = .ok (.ireturn, 1) := by decide +kernel
theorem dJ1_canEncode_9a6ad_0 : decode cJ1_canEncode_9a6ad 0 = .ok (.iload_n 0, 1) := by decide +kernel
theorem dJ1_canEncode_9a6ad_1 : decode cJ1_canEncode_9a6ad 1 = .ok (.ifCond .lt 14, 3) := by decide +kernel
theorem dJ1_canEncode_9a6ad_4 : decode cJ1_canEncode_9a6ad 4 = .ok (.iload_n 0, 1) := by decide +kernel
theorem dJ1_canEncode_9a6ad_5 : decode cJ1_canEncode_9a6ad 5 = .ok (.sipush 255, 3) := by decide +kernel
theorem dJ1_canEncode_9a6ad_8 : decode cJ1_canEncode_9a6ad 8 = .ok (.if_icmp .gt 7, 3) := by decide +kernel
theorem dJ1_canEncode_9a6ad_11 : decode cJ1_canEncode_9a6ad 11 = .ok (.iconst 1, 1) := by decide +kernel
theorem dJ1_canEncode_9a6ad_12 : decode cJ1_canEncode_9a6ad 12 = .ok (.goto 4, 3) := by decide +kernel
theorem dJ1_canEncode_9a6ad_15 : decode cJ1_canEncode_9a6ad 15 = .ok (.iconst 0, 1) := by decide +kernel
theorem dJ1_canEncode_9a6ad_16 : decode cJ1_canEncode_9a6ad 16 = .ok (.ireturn, 1) := by decide +kernel
theorem dJ1_charAt_3b067_0 : decode cJ1_charAt_3b067 0 = .ok (.iload_n 1, 1) := by decide +kernel
theorem dJ1_charAt_3b067_1 : decode cJ1_charAt_3b067 1 = .ok (.aload_n 0, 1) := by decide +kernel
theorem dJ1_charAt_3b067_2 : decode cJ1_charAt_3b067 2 = .ok (.arraylength, 1) := by decide +kernel
theorem dJ1_charAt_3b067_3 : decode cJ1_charAt_3b067 3 = .ok (.invokestatic 9, 3) := by decide +kernel
theorem dJ1_charAt_3b067_6 : decode cJ1_charAt_3b067 6 = .ok (.aload_n 0, 1) := by decide +kernel
theorem dJ1_charAt_3b067_7 : decode cJ1_charAt_3b067 7 = .ok (.iload_n 1, 1) := by decide +kernel
theorem dJ1_charAt_3b067_8 : decode cJ1_charAt_3b067 8 = .ok (.baload, 1) := by decide +kernel
theorem dJ1_charAt_3b067_9 : decode cJ1_charAt_3b067 9 = .ok (.sipush 255, 3) := by decide +kernel
theorem dJ1_charAt_3b067_12 : decode cJ1_charAt_3b067 12 = .ok (.iand, 1) := by decide +kernel
theorem dJ1_charAt_3b067_13 : decode cJ1_charAt_3b067 13 = .ok (.i2c, 1) := by decide +kernel
theorem dJ1_charAt_3b067_14 : decode cJ1_charAt_3b067 14 = .ok (.ireturn, 1) := by decide +kernel
theorem dJ1_indexOfChar_4cfef_0 : decode cJ1_indexOfChar_4cfef 0 = .ok (.iload_n 1, 1) := by decide +kernel
theorem dJ1_indexOfChar_4cfef_1 : decode cJ1_indexOfChar_4cfef 1 = .ok (.i2b, 1) := by decide +kernel
theorem dJ1_indexOfChar_4cfef_2 : decode cJ1_indexOfChar_4cfef 2 = .ok (.istore 4, 2) := by decide +kernel
theorem dJ1_indexOfChar_4cfef_4 : decode cJ1_indexOfChar_4cfef 4 = .ok (.iload_n 2, 1) := by decide +kernel
theorem dJ1_indexOfChar_4cfef_5 : decode cJ1_indexOfChar_4cfef 5 = .ok (.istore 5, 2) := by decide +kernel
theorem dJ1_indexOfChar_4cfef_7 : decode cJ1_indexOfChar_4cfef 7 = .ok (.iload 5, 2) := by decide +kernel
theorem dJ1_indexOfChar_4cfef_9 : decode cJ1_indexOfChar_4cfef 9 = .ok (.iload_n 3, 1) := by decide +kernel
theorem dJ1_indexOfChar_4cfef_10 : decode cJ1_indexOfChar_4cfef 10 = .ok (.if_icmp .ge 21, 3) := by decide +kernel
theorem dJ1_indexOfChar_4cfef_13 : decode cJ1_indexOfChar_4cfef 13 = .ok (.aload_n 0, 1) := by decide +kernel
theorem dJ1_indexOfChar_4cfef_14 : decode cJ1_indexOfChar_4cfef 14 = .ok (.iload 5, 2) := by decide +kernel
theorem dJ1_indexOfChar_4cfef_16 : decode cJ1_indexOfChar_4cfef 16 = .ok (.baload, 1) := by decide +kernel
theorem dJ1_indexOfChar_4cfef_17 : decode cJ1_indexOfChar_4cfef 17 = .ok (.iload 4, 2) := by decide +kernel
theorem dJ1_indexOfChar_4cfef_19 : decode cJ1_indexOfChar_4cfef 19 = .ok (.if_icmp .ne 6, 3) := by decide +kernel
theorem dJ1_indexOfChar_4cfef_22 : decode cJ1_indexOfChar_4cfef 22 = .ok (.iload 5, 2) := by decide +kernel
theorem dJ1_indexOfChar_4cfef_24 : decode cJ1_indexOfChar_4cfef 24 = .ok (.ireturn, 1) := by decide +kernel
theorem dJ1_indexOfChar_4cfef_25 : decode cJ1_indexOfChar_4cfef 25 = .ok (.iinc 5 1, 3) := by decide +kernel
theorem dJ1_indexOfChar_4cfef_28 : decode cJ1_indexOfChar_4cfef 28 = .ok (.goto (-21), 3) := by decide +kernel
theorem dJ1_indexOfChar_4cfef_31 : decode cJ1_indexOfChar_4cfef 31 = .ok (.iconst (-1), 1) := by decide +kernel
theorem dJ1_indexOfChar_4cfef_32 : decode cJ1_indexOfChar_4cfef 32 = .ok (.ireturn, 1) := by decide +kernel
theorem dJ1_indexOf_4cfef_0 : decode cJ1_indexOf_4cfef 0 = .ok (.iload_n 1, 1) := by decide +kernel
theorem dJ1_indexOf_4cfef_1 : decode cJ1_indexOf_4cfef 1 = .ok (.invokestatic 88, 3) := by decide +kernel
theorem dJ1_indexOf_4cfef_4 : decode cJ1_indexOf_4cfef 4 = .ok (.ifCond .ne 5, 3) := by decide +kernel
theorem dJ1_indexOf_4cfef_7 : decode cJ1_indexOf_4cfef 7 = .ok (.iconst (-1), 1) := by decide +kernel
theorem dJ1_indexOf_4cfef_8 : decode cJ1_indexOf_4cfef 8 = .ok (.ireturn, 1) := by decide +kernel
theorem dJ1_indexOf_4cfef_9 : decode cJ1_indexOf_4cfef 9 = .ok (.iload_n 2, 1) := by decide +kernel
theorem dJ1_indexOf_4cfef_10 : decode cJ1_indexOf_4cfef 10 = .ok (.iconst 0, 1) := by decide +kernel
theorem dJ1_indexOf_4cfef_11 : decode cJ1_indexOf_4cfef 11 = .ok (.invokestatic 92, 3) := by decide +kernel
theorem dJ1_indexOf_4cfef_14 : decode cJ1_indexOf_4cfef 14 = .ok (.istore_n 2, 1) := by decide +kernel
theorem dJ1_indexOf_4cfef_15 : decode cJ1_indexOf_4cfef 15 = .ok (.iload_n 3, 1) := by decide +kernel
theorem dJ1_indexOf_4cfef_16 : decode cJ1_indexOf_4cfef 16 = .ok (.aload_n 0, 1) := by decide +kernel
theorem dJ1_indexOf_4cfef_17 : decode cJ1_indexOf_4cfef 17 = .ok (.arraylength, 1) := by decide +kernel
theorem dJ1_indexOf_4cfef_18 : decode cJ1_indexOf_4cfef 18 = .ok (.invokestatic 38, 3) := by decide +kernel
theorem dJ1_indexOf_4cfef_21 : decode cJ1_indexOf_4cfef 21 = .ok (.istore_n 3, 1) := by decide +kernel
theorem dJ1_indexOf_4cfef_22 : decode cJ1_indexOf_4cfef 22 = .ok (.iload_n 2, 1) := by decide +kernel
theorem dJ1_indexOf_4cfef_23 : decode cJ1_indexOf_4cfef 23 = .ok (.iload_n 3, 1) := by decide +kernel
theorem dJ1_indexOf_4cfef_24 : decode cJ1_indexOf_4cfef 24 = .ok (.if_icmp .lt 5, 3) := by decide +kernel
theorem dJ1_indexOf_4cfef_27 : decode cJ1_indexOf_4cfef 27 = .ok (.iconst (-1), 1) := by decide +kernel
theorem dJ1_indexOf_4cfef_28 : decode cJ1_indexOf_4cfef 28 = .ok (.ireturn, 1) := by decide +kernel
theorem dJ1_indexOf_4cfef_29 : decode cJ1_indexOf_4cfef 29 = .ok (.aload_n 0, 1) := by decide +kernel
theorem dJ1_indexOf_4cfef_30 : decode cJ1_indexOf_4cfef 30 = .ok (.iload_n 1, 1) := by decide +kernel
theorem dJ1_indexOf_4cfef_31 : decode cJ1_indexOf_4cfef 31 = .ok (.iload_n 2, 1) := by decide +kernel
theorem dJ1_indexOf_4cfef_32 : decode cJ1_indexOf_4cfef 32 = .ok (.iload_n 3, 1) := by decide +kernel
theorem dJ1_indexOf_4cfef_33 : decode cJ1_indexOf_4cfef 33 = .ok (.invokestatic 95, 3) := by decide +kernel
theorem dJ1_indexOf_4cfef_36 : decode cJ1_indexOf_4cfef 36 = .ok (.ireturn, 1) := by decide +kernel
theorem dJ2_charAt_3b067_0 : decode cJ2_charAt_3b067 0 = .ok (.iload_n 1, 1) := by decide +kernel
theorem dJ2_charAt_3b067_1 : decode cJ2_charAt_3b067 1 = .ok (.aload_n 0, 1) := by decide +kernel
theorem dJ2_charAt_3b067_2 : decode cJ2_charAt_3b067 2 = .ok (.invokestatic 67, 3) := by decide +kernel
theorem dJ2_charAt_3b067_5 : decode cJ2_charAt_3b067 5 = .ok (.aload_n 0, 1) := by decide +kernel
theorem dJ2_charAt_3b067_6 : decode cJ2_charAt_3b067 6 = .ok (.iload_n 1, 1) := by decide +kernel
theorem dJ2_charAt_3b067_7 : decode cJ2_charAt_3b067 7 = .ok (.invokestatic 71, 3) := by decide +kernel
theorem dJ2_charAt_3b067_10 : decode cJ2_charAt_3b067 10 = .ok (.ireturn, 1) := by decide +kernel
theorem dJ2_checkBoundsBeginEnd_d044e_0 : decode cJ2_checkBoundsBeginEnd_d044e 0 = .ok (.iload_n 0, 1) := by decide +kernel
theorem dJ2_checkBoundsBeginEnd_d044e_1 : decode cJ2_checkBoundsBeginEnd_d044e 1 = .ok (.iload_n 1, 1) := by decide +kernel
theorem dJ2_checkBoundsBeginEnd_d044e_2 : decode cJ2_checkBoundsBeginEnd_d044e 2 = .ok (.aload_n 2, 1) := by decide +kernel
theorem dJ2_checkBoundsBeginEnd_d044e_3 : decode cJ2_checkBoundsBeginEnd_d044e 3 = .ok (.invokestatic 48, 3) := by decide +kernel
theorem dJ2_checkBoundsBeginEnd_d044e_6 : decode cJ2_checkBoundsBeginEnd_d044e 6 = .ok (.invokestatic 241, 3) := by decide +kernel
theorem dJ2_checkBoundsBeginEnd_d044e_9 : decode cJ2_checkBoundsBeginEnd_d044e 9 = .ok (.return_, 1) := by decide +kernel
theorem dJ2_checkIndex_2214a_0 : decode cJ2_checkIndex_2214a 0 = .ok (.iload_n 0, 1) := by decide +kernel
theorem dJ2_checkIndex_2214a_1 : decode cJ2_checkIndex_2214a 1 = .ok (.aload_n 1, 1) := by decide +kernel
theorem dJ2_checkIndex_2214a_2 : decode cJ2_checkIndex_2214a 2 = .ok (.invokestatic 48, 3) := by decide +kernel
theorem dJ2_checkIndex_2214a_5 : decode cJ2_checkIndex_2214a 5 = .ok (.invokestatic 414, 3) := by decide +kernel
theorem dJ2_checkIndex_2214a_8 : decode cJ2_checkIndex_2214a 8 = .ok (.return_, 1) := by decide +kernel
theorem dJ2_getChar_3b067_0 : decode cJ2_getChar_3b067 0 = .ok (.getstatic 44, 3) := by decide +kernel
theorem dJ2_getChar_3b067_3 : decode cJ2_getChar_3b067 3 = .ok (.ifCond .ne 25, 3) := by decide +kernel
theorem dJ2_getChar_3b067_6 : decode cJ2_getChar_3b067 6 = .ok (.iload_n 1, 1) := by decide +kernel
theorem dJ2_getChar_3b067_7 : decode cJ2_getChar_3b067 7 = .ok (.ifCond .lt 11, 3) := by decide +kernel
theorem dJ2_getChar_3b067_10 : decode cJ2_getChar_3b067 10 = .ok (.iload_n 1, 1) := by decide +kernel
theorem dJ2_getChar_3b067_11 : decode cJ2_getChar_3b067 11 = .ok (.aload_n 0, 1) := by decide +kernel
theorem dJ2_getChar_3b067_12 : decode cJ2_getChar_3b067 12 = .ok (.invokestatic 48, 3) := by decide +kernel
theorem dJ2_getChar_3b067_15 : decode cJ2_getChar_3b067 15 = .ok (.if_icmp .lt 13, 3) := by decide +kernel
theorem dJ2_getChar_3b067_18 : decode cJ2_getChar_3b067 18 = .ok (.new 52, 3) := by decide +kernel
theorem dJ2_getChar_3b067_21 : decode cJ2_getChar_3b067 21 = .ok (.dup, 1) := by decide +kernel
theorem dJ2_getChar_3b067_22 : decode cJ2_getChar_3b067 22 = .ok (.ldc 54, 2) := by decide +kernel
theorem dJ2_getChar_3b067_24 : decode cJ2_getChar_3b067 24 = .ok (.invokespecial 56, 3) := by decide +kernel
theorem dJ2_getChar_3b067_27 : decode cJ2_getChar_3b067 27 = .ok (.athrow, 1) := by decide +kernel
theorem dJ2_getChar_3b067_28 : decode cJ2_getChar_3b067 28 = .ok (.iload_n 1, 1) := by decide +kernel
theorem dJ2_getChar_3b067_29 : decode cJ2_getChar_3b067 29 = .ok (.iconst 1, 1) := by decide +kernel
theorem dJ2_getChar_3b067_30 : decode cJ2_getChar_3b067 30 = .ok (.ishl, 1) := by decide +kernel
theorem dJ2_getChar_3b067_31 : decode cJ2_getChar_3b067 31 = .ok (.istore_n 1, 1) := by decide +kernel
theorem dJ2_getChar_3b067_32 : decode cJ2_getChar_3b067 32 = .ok (.aload_n 0, 1) := by decide +kernel
theorem dJ2_getChar_3b067_33 : decode cJ2_getChar_3b067 33 = .ok (.iload_n 1, 1) := by decide +kernel
theorem dJ2_getChar_3b067_34 : decode cJ2_getChar_3b067 34 = .ok (.iinc 1 1, 3) := by decide +kernel
theorem dJ2_getChar_3b067_37 : decode cJ2_getChar_3b067 37 = .ok (.baload, 1) := by decide +kernel
theorem dJ2_getChar_3b067_38 : decode cJ2_getChar_3b067 38 = .ok (.sipush 255, 3) := by decide +kernel
theorem dJ2_getChar_3b067_41 : decode cJ2_getChar_3b067 41 = .ok (.iand, 1) := by decide +kernel
theorem dJ2_getChar_3b067_42 : decode cJ2_getChar_3b067 42 = .ok (.getstatic 59, 3) := by decide +kernel
theorem dJ2_getChar_3b067_45 : decode cJ2_getChar_3b067 45 = .ok (.ishl, 1) := by decide +kernel
theorem dJ2_getChar_3b067_46 : decode cJ2_getChar_3b067 46 = .ok (.aload_n 0, 1) := by decide +kernel
theorem dJ2_getChar_3b067_47 : decode cJ2_getChar_3b067 47 = .ok (.iload_n 1, 1) := by decide +kernel
theorem dJ2_getChar_3b067_48 : decode cJ2_getChar_3b067 48 = .ok (.baload, 1) := by decide +kernel
theorem dJ2_getChar_3b067_49 : decode cJ2_getChar_3b067 49 = .ok (.sipush 255, 3) := by decide +kernel
theorem dJ2_getChar_3b067_52 : decode cJ2_getChar_3b067 52 = .ok (.iand, 1) := by decide +kernel
theorem dJ2_getChar_3b067_53 : decode cJ2_getChar_3b067 53 = .ok (.getstatic 63, 3) := by decide +kernel
theorem dJ2_getChar_3b067_56 : decode cJ2_getChar_3b067 56 = .ok (.ishl, 1) := by decide +kernel
theorem dJ2_getChar_3b067_57 : decode cJ2_getChar_3b067 57 = .ok (.ior, 1) := by decide +kernel
theorem dJ2_getChar_3b067_58 : decode cJ2_getChar_3b067 58 = .ok (.i2c, 1) := by decide +kernel
theorem dJ2_getChar_3b067_59 : decode cJ2_getChar_3b067 59 = .ok (.ireturn, 1) := by decide +kernel
theorem dJ2_indexOfCharUnsafe_4cfef_0 : decode cJ2_indexOfCharUnsafe_4cfef 0 = .ok (.iload_n 2, 1) := by decide +kernel
theorem dJ2_indexOfCharUnsafe_4cfef_1 : decode cJ2_indexOfCharUnsafe_4cfef 1 = .ok (.istore 4, 2) := by decide +kernel
theorem dJ2_indexOfCharUnsafe_4cfef_3 : decode cJ2_indexOfCharUnsafe_4cfef 3 = .ok (.iload 4, 2) := by decide +kernel
theorem dJ2_indexOfCharUnsafe_4cfef_5 : decode cJ2_indexOfCharUnsafe_4cfef 5 = .ok (.iload_n 3, 1) := by decide +kernel
theorem dJ2_indexOfCharUnsafe_4cfef_6 : decode cJ2_indexOfCharUnsafe_4cfef 6 = .ok (.if_icmp .ge 22, 3) := by decide +kernel
theorem dJ2_indexOfCharUnsafe_4cfef_9 : decode cJ2_indexOfCharUnsafe_4cfef 9 = .ok (.aload_n 0, 1) := by decide +kernel
theorem dJ2_indexOfCharUnsafe_4cfef_10 : decode cJ2_indexOfCharUnsafe_4cfef 10 = .ok (.iload 4, 2) := by decide +kernel
theorem dJ2_indexOfCharUnsafe_4cfef_12 : decode cJ2_indexOfCharUnsafe_4cfef 12 = .ok (.invokestatic 71, 3) := by decide +kernel
theorem dJ2_indexOfCharUnsafe_4cfef_15 : decode cJ2_indexOfCharUnsafe_4cfef 15 = .ok (.iload_n 1, 1) := by decide +kernel
theorem dJ2_indexOfCharUnsafe_4cfef_16 : decode cJ2_indexOfCharUnsafe_4cfef 16 = .ok (.if_icmp .ne 6, 3) := by decide +kernel
theorem dJ2_indexOfCharUnsafe_4cfef_19 : decode cJ2_indexOfCharUnsafe_4cfef 19 = .ok (.iload 4, 2) := by decide +kernel
theorem dJ2_indexOfCharUnsafe_4cfef_21 : decode cJ2_indexOfCharUnsafe_4cfef 21 = .ok (.ireturn, 1) := by decide +kernel
theorem dJ2_indexOfCharUnsafe_4cfef_22 : decode cJ2_indexOfCharUnsafe_4cfef 22 = .ok (.iinc 4 1, 3) := by decide +kernel
theorem dJ2_indexOfCharUnsafe_4cfef_25 : decode cJ2_indexOfCharUnsafe_4cfef 25 = .ok (.goto (-22), 3) := by decide +kernel
theorem dJ2_indexOfCharUnsafe_4cfef_28 : decode cJ2_indexOfCharUnsafe_4cfef 28 = .ok (.iconst (-1), 1) := by decide +kernel
theorem dJ2_indexOfCharUnsafe_4cfef_29 : decode cJ2_indexOfCharUnsafe_4cfef 29 = .ok (.ireturn, 1) := by decide +kernel
theorem dJ2_indexOfChar_4cfef_0 : decode cJ2_indexOfChar_4cfef 0 = .ok (.iload_n 2, 1) := by decide +kernel
theorem dJ2_indexOfChar_4cfef_1 : decode cJ2_indexOfChar_4cfef 1 = .ok (.iload_n 3, 1) := by decide +kernel
theorem dJ2_indexOfChar_4cfef_2 : decode cJ2_indexOfChar_4cfef 2 = .ok (.aload_n 0, 1) := by decide +kernel
theorem dJ2_indexOfChar_4cfef_3 : decode cJ2_indexOfChar_4cfef 3 = .ok (.invokestatic 96, 3) := by decide +kernel
theorem dJ2_indexOfChar_4cfef_6 : decode cJ2_indexOfChar_4cfef 6 = .ok (.aload_n 0, 1) := by decide +kernel
theorem dJ2_indexOfChar_4cfef_7 : decode cJ2_indexOfChar_4cfef 7 = .ok (.iload_n 1, 1) := by decide +kernel
theorem dJ2_indexOfChar_4cfef_8 : decode cJ2_indexOfChar_4cfef 8 = .ok (.iload_n 2, 1) := by decide +kernel
theorem dJ2_indexOfChar_4cfef_9 : decode cJ2_indexOfChar_4cfef 9 = .ok (.iload_n 3, 1) := by decide +kernel
theorem dJ2_indexOfChar_4cfef_10 : decode cJ2_indexOfChar_4cfef 10 = .ok (.invokestatic 244, 3) := by decide +kernel
theorem dJ2_indexOfChar_4cfef_13 : decode cJ2_indexOfChar_4cfef 13 = .ok (.ireturn, 1) := by decide +kernel
theorem dJ2_indexOfSupplementary_4cfef_0 : decode cJ2_indexOfSupplementary_4cfef 0 = .ok (.iload_n 1, 1) := by decide +kernel
theorem dJ2_indexOfSupplementary_4cfef_1 : decode cJ2_indexOfSupplementary_4cfef 1 = .ok (.invokestatic 164, 3) := by decide +kernel
theorem dJ2_indexOfSupplementary_4cfef_4 : decode cJ2_indexOfSupplementary_4cfef 4 = .ok (.ifCond .eq 65, 3) := by decide +kernel
theorem dJ2_indexOfSupplementary_4cfef_7 : decode cJ2_indexOfSupplementary_4cfef 7 = .ok (.iload_n 1, 1) := by decide +kernel
theorem dJ2_indexOfSupplementary_4cfef_8 : decode cJ2_indexOfSupplementary_4cfef 8 = .ok (.invokestatic 157, 3) := by decide +kernel
theorem dJ2_indexOfSupplementary_4cfef_11 : decode cJ2_indexOfSupplementary_4cfef 11 = .ok (.istore 4, 2) := by decide +kernel
theorem dJ2_indexOfSupplementary_4cfef_13 : decode cJ2_indexOfSupplementary_4cfef 13 = .ok (.iload_n 1, 1) := by decide +kernel
theorem dJ2_indexOfSupplementary_4cfef_14 : decode cJ2_indexOfSupplementary_4cfef 14 = .ok (.invokestatic 161, 3) := by decide +kernel
theorem dJ2_indexOfSupplementary_4cfef_17 : decode cJ2_indexOfSupplementary_4cfef 17 = .ok (.istore 5, 2) := by decide +kernel
theorem dJ2_indexOfSupplementary_4cfef_19 : decode cJ2_indexOfSupplementary_4cfef 19 = .ok (.iload_n 2, 1) := by decide +kernel
theorem dJ2_indexOfSupplementary_4cfef_20 : decode cJ2_indexOfSupplementary_4cfef 20 = .ok (.iload_n 3, 1) := by decide +kernel
theorem dJ2_indexOfSupplementary_4cfef_21 : decode cJ2_indexOfSupplementary_4cfef 21 = .ok (.aload_n 0, 1) := by decide +kernel
theorem dJ2_indexOfSupplementary_4cfef_22 : decode cJ2_indexOfSupplementary_4cfef 22 = .ok (.invokestatic 96, 3) := by decide +kernel
theorem dJ2_indexOfSupplementary_4cfef_25 : decode cJ2_indexOfSupplementary_4cfef 25 = .ok (.iload_n 2, 1) := by decide +kernel
theorem dJ2_indexOfSupplementary_4cfef_26 : decode cJ2_indexOfSupplementary_4cfef 26 = .ok (.istore 6, 2) := by decide +kernel
theorem dJ2_indexOfSupplementary_4cfef_28 : decode cJ2_indexOfSupplementary_4cfef 28 = .ok (.iload 6, 2) := by decide +kernel
theorem dJ2_indexOfSupplementary_4cfef_30 : decode cJ2_indexOfSupplementary_4cfef 30 = .ok (.iload_n 3, 1) := by decide +kernel
theorem dJ2_indexOfSupplementary_4cfef_31 : decode cJ2_indexOfSupplementary_4cfef 31 = .ok (.iconst 1, 1) := by decide +kernel
theorem dJ2_indexOfSupplementary_4cfef_32 : decode cJ2_indexOfSupplementary_4cfef 32 = .ok (.isub, 1) := by decide +kernel
theorem dJ2_indexOfSupplementary_4cfef_33 : decode cJ2_indexOfSupplementary_4cfef 33 = .ok (.if_icmp .ge 36, 3) := by decide +kernel
theorem dJ2_indexOfSupplementary_4cfef_36 : decode cJ2_indexOfSupplementary_4cfef 36 = .ok (.aload_n 0, 1) := by decide +kernel
theorem dJ2_indexOfSupplementary_4cfef_37 : decode cJ2_indexOfSupplementary_4cfef 37 = .ok (.iload 6, 2) := by decide +kernel
theorem dJ2_indexOfSupplementary_4cfef_39 : decode cJ2_indexOfSupplementary_4cfef 39 = .ok (.invokestatic 71, 3) := by decide +kernel
theorem dJ2_indexOfSupplementary_4cfef_42 : decode cJ2_indexOfSupplementary_4cfef 42 = .ok (.iload 4, 2) := by decide +kernel
theorem dJ2_indexOfSupplementary_4cfef_44 : decode cJ2_indexOfSupplementary_4cfef 44 = .ok (.if_icmp .ne 19, 3) := by decide +kernel
theorem dJ2_indexOfSupplementary_4cfef_47 : decode cJ2_indexOfSupplementary_4cfef 47 = .ok (.aload_n 0, 1) := by decide +kernel
theorem dJ2_indexOfSupplementary_4cfef_48 : decode cJ2_indexOfSupplementary_4cfef 48 = .ok (.iload 6, 2) := by decide +kernel
theorem dJ2_indexOfSupplementary_4cfef_50 : decode cJ2_indexOfSupplementary_4cfef 50 = .ok (.iconst 1, 1) := by decide +kernel
theorem dJ2_indexOfSupplementary_4cfef_51 : decode cJ2_indexOfSupplementary_4cfef 51 = .ok (.iadd, 1) := by decide +kernel
theorem dJ2_indexOfSupplementary_4cfef_52 : decode cJ2_indexOfSupplementary_4cfef 52 = .ok (.invokestatic 71, 3) := by decide +kernel
theorem dJ2_indexOfSupplementary_4cfef_55 : decode cJ2_indexOfSupplementary_4cfef 55 = .ok (.iload 5, 2) := by decide +kernel
theorem dJ2_indexOfSupplementary_4cfef_57 : decode cJ2_indexOfSupplementary_4cfef 57 = .ok (.if_icmp .ne 6, 3) := by decide +kernel
theorem dJ2_indexOfSupplementary_4cfef_60 : decode cJ2_indexOfSupplementary_4cfef 60 = .ok (.iload 6, 2) := by decide +kernel
theorem dJ2_indexOfSupplementary_4cfef_62 : decode cJ2_indexOfSupplementary_4cfef 62 = .ok (.ireturn, 1) := by decide +kernel
theorem dJ2_indexOfSupplementary_4cfef_63 : decode cJ2_indexOfSupplementary_4cfef 63 = .ok (.iinc 6 1, 3) := by decide +kernel
theorem dJ2_indexOfSupplementary_4cfef_66 : decode cJ2_indexOfSupplementary_4cfef 66 = .ok (.goto (-38), 3) := by decide +kernel
theorem dJ2_indexOfSupplementary_4cfef_69 : decode cJ2_indexOfSupplementary_4cfef 69 = .ok (.iconst (-1), 1) := by decide +kernel
theorem dJ2_indexOfSupplementary_4cfef_70 : decode cJ2_indexOfSupplementary_4cfef 70 = .ok (.ireturn, 1) := by decide +kernel
theorem dJ2_indexOf_4cfef_0 : decode cJ2_indexOf_4cfef 0 = .ok (.iload_n 2, 1) := by decide +kernel
theorem dJ2_indexOf_4cfef_1 : decode cJ2_indexOf_4cfef 1 = .ok (.iconst 0, 1) := by decide +kernel
theorem dJ2_indexOf_4cfef_2 : decode cJ2_indexOf_4cfef 2 = .ok (.invokestatic 224, 3) := by decide +kernel
theorem dJ2_indexOf_4cfef_5 : decode cJ2_indexOf_4cfef 5 = .ok (.istore_n 2, 1) := by decide +kernel
theorem dJ2_indexOf_4cfef_6 : decode cJ2_indexOf_4cfef 6 = .ok (.iload_n 3, 1) := by decide +kernel
theorem dJ2_indexOf_4cfef_7 : decode cJ2_indexOf_4cfef 7 = .ok (.aload_n 0, 1) := by decide +kernel
theorem dJ2_indexOf_4cfef_8 : decode cJ2_indexOf_4cfef 8 = .ok (.arraylength, 1) := by decide +kernel
theorem dJ2_indexOf_4cfef_9 : decode cJ2_indexOf_4cfef 9 = .ok (.iconst 1, 1) := by decide +kernel
theorem dJ2_indexOf_4cfef_10 : decode cJ2_indexOf_4cfef 10 = .ok (.ishr, 1) := by decide +kernel
theorem dJ2_indexOf_4cfef_11 : decode cJ2_indexOf_4cfef 11 = .ok (.invokestatic 183, 3) := by decide +kernel
theorem dJ2_indexOf_4cfef_14 : decode cJ2_indexOf_4cfef 14 = .ok (.istore_n 3, 1) := by decide +kernel
theorem dJ2_indexOf_4cfef_15 : decode cJ2_indexOf_4cfef 15 = .ok (.iload_n 2, 1) := by decide +kernel
theorem dJ2_indexOf_4cfef_16 : decode cJ2_indexOf_4cfef 16 = .ok (.iload_n 3, 1) := by decide +kernel
theorem dJ2_indexOf_4cfef_17 : decode cJ2_indexOf_4cfef 17 = .ok (.if_icmp .lt 5, 3) := by decide +kernel
theorem dJ2_indexOf_4cfef_20 : decode cJ2_indexOf_4cfef 20 = .ok (.iconst (-1), 1) := by decide +kernel
theorem dJ2_indexOf_4cfef_21 : decode cJ2_indexOf_4cfef 21 = .ok (.ireturn, 1) := by decide +kernel
theorem dJ2_indexOf_4cfef_22 : decode cJ2_indexOf_4cfef 22 = .ok (.iload_n 1, 1) := by decide +kernel
theorem dJ2_indexOf_4cfef_23 : decode cJ2_indexOf_4cfef 23 = .ok (.ldc 227, 2) := by decide +kernel
theorem dJ2_indexOf_4cfef_25 : decode cJ2_indexOf_4cfef 25 = .ok (.if_icmp .ge 11, 3) := by decide +kernel
theorem dJ2_indexOf_4cfef_28 : decode cJ2_indexOf_4cfef 28 = .ok (.aload_n 0, 1) := by decide +kernel
theorem dJ2_indexOf_4cfef_29 : decode cJ2_indexOf_4cfef 29 = .ok (.iload_n 1, 1) := by decide +kernel
theorem dJ2_indexOf_4cfef_30 : decode cJ2_indexOf_4cfef 30 = .ok (.iload_n 2, 1) := by decide +kernel
theorem dJ2_indexOf_4cfef_31 : decode cJ2_indexOf_4cfef 31 = .ok (.iload_n 3, 1) := by decide +kernel
theorem dJ2_indexOf_4cfef_32 : decode cJ2_indexOf_4cfef 32 = .ok (.invokestatic 228, 3) := by decide +kernel
theorem dJ2_indexOf_4cfef_35 : decode cJ2_indexOf_4cfef 35 = .ok (.ireturn, 1) := by decide +kernel
theorem dJ2_indexOf_4cfef_36 : decode cJ2_indexOf_4cfef 36 = .ok (.aload_n 0, 1) := by decide +kernel
theorem dJ2_indexOf_4cfef_37 : decode cJ2_indexOf_4cfef 37 = .ok (.iload_n 1, 1) := by decide +kernel
theorem dJ2_indexOf_4cfef_38 : decode cJ2_indexOf_4cfef 38 = .ok (.iload_n 2, 1) := by decide +kernel
theorem dJ2_indexOf_4cfef_39 : decode cJ2_indexOf_4cfef 39 = .ok (.iload_n 3, 1) := by decide +kernel
theorem dJ2_indexOf_4cfef_40 : decode cJ2_indexOf_4cfef 40 = .ok (.invokestatic 232, 3) := by decide +kernel
theorem dJ2_indexOf_4cfef_43 : decode cJ2_indexOf_4cfef 43 = .ok (.ireturn, 1) := by decide +kernel
theorem dJ2_length_9d52b_0 : decode cJ2_length_9d52b 0 = .ok (.aload_n 0, 1) := by decide +kernel
theorem dJ2_length_9d52b_1 : decode cJ2_length_9d52b 1 = .ok (.arraylength, 1) := by decide +kernel
theorem dJ2_length_9d52b_2 : decode cJ2_length_9d52b 2 = .ok (.iconst 1, 1) := by decide +kernel
theorem dJ2_length_9d52b_3 : decode cJ2_length_9d52b 3 = .ok (.ishr, 1) := by decide +kernel
theorem dJ2_length_9d52b_4 : decode cJ2_length_9d52b 4 = .ok (.ireturn, 1) := by decide +kernel
theorem dJ3_checkFromToIndex_8c36e_0 : decode cJ3_checkFromToIndex_8c36e 0 = .ok (.iload_n 0, 1) := by decide +kernel
theorem dJ3_checkFromToIndex_8c36e_1 : decode cJ3_checkFromToIndex_8c36e 1 = .ok (.ifCond .lt 13, 3) := by decide +kernel
theorem dJ3_checkFromToIndex_8c36e_4 : decode cJ3_checkFromToIndex_8c36e 4 = .ok (.iload_n 0, 1) := by decide +kernel
theorem dJ3_checkFromToIndex_8c36e_5 : decode cJ3_checkFromToIndex_8c36e 5 = .ok (.iload_n 1, 1) := by decide +kernel
theorem dJ3_checkFromToIndex_8c36e_6 : decode cJ3_checkFromToIndex_8c36e 6 = .ok (.if_icmp .gt 8, 3) := by decide +kernel
theorem dJ3_checkFromToIndex_8c36e_9 : decode cJ3_checkFromToIndex_8c36e 9 = .ok (.iload_n 1, 1) := by decide +kernel
theorem dJ3_checkFromToIndex_8c36e_10 : decode cJ3_checkFromToIndex_8c36e 10 = .ok (.iload_n 2, 1) := by decide +kernel
theorem dJ3_checkFromToIndex_8c36e_11 : decode cJ3_checkFromToIndex_8c36e 11 = .ok (.if_icmp .le 11, 3) := by decide +kernel
theorem dJ3_checkFromToIndex_8c36e_14 : decode cJ3_checkFromToIndex_8c36e 14 = .ok (.aload_n 3, 1) := by decide +kernel
theorem dJ3_checkFromToIndex_8c36e_15 : decode cJ3_checkFromToIndex_8c36e 15 = .ok (.iload_n 0, 1) := by decide +kernel
theorem dJ3_checkFromToIndex_8c36e_16 : decode cJ3_checkFromToIndex_8c36e 16 = .ok (.iload_n 1, 1) := by decide +kernel
theorem dJ3_checkFromToIndex_8c36e_17 : decode cJ3_checkFromToIndex_8c36e 17 = .ok (.iload_n 2, 1) := by decide +kernel
theorem dJ3_checkFromToIndex_8c36e_18 : decode cJ3_checkFromToIndex_8c36e 18 = .ok (.invokestatic 99, 3) := by decide +kernel
theorem dJ3_checkFromToIndex_8c36e_21 : decode cJ3_checkFromToIndex_8c36e 21 = .ok (.athrow, 1) := by decide +kernel
theorem dJ3_checkFromToIndex_8c36e_22 : decode cJ3_checkFromToIndex_8c36e 22 = .ok (.iload_n 0, 1) := by decide +kernel
theorem dJ3_checkFromToIndex_8c36e_23 : decode cJ3_checkFromToIndex_8c36e 23 = .ok (.ireturn, 1) := by decide +kernel
theorem dJ3_checkIndex_8e157_0 : decode cJ3_checkIndex_8e157 0 = .ok (.iload_n 0, 1) := by decide +kernel
theorem dJ3_checkIndex_8e157_1 : decode cJ3_checkIndex_8e157 1 = .ok (.ifCond .lt 8, 3) := by decide +kernel
theorem dJ3_checkIndex_8e157_4 : decode cJ3_checkIndex_8e157 4 = .ok (.iload_n 0, 1) := by decide +kernel
theorem dJ3_checkIndex_8e157_5 : decode cJ3_checkIndex_8e157 5 = .ok (.iload_n 1, 1) := by decide +kernel
theorem dJ3_checkIndex_8e157_6 : decode cJ3_checkIndex_8e157 6 = .ok (.if_icmp .lt 10, 3) := by decide +kernel
theorem dJ3_checkIndex_8e157_9 : decode cJ3_checkIndex_8e157 9 = .ok (.aload_n 2, 1) := by decide +kernel
theorem dJ3_checkIndex_8e157_10 : decode cJ3_checkIndex_8e157 10 = .ok (.iload_n 0, 1) := by decide +kernel
theorem dJ3_checkIndex_8e157_11 : decode cJ3_checkIndex_8e157 11 = .ok (.iload_n 1, 1) := by decide +kernel
theorem dJ3_checkIndex_8e157_12 : decode cJ3_checkIndex_8e157 12 = .ok (.invokestatic 95, 3) := by decide +kernel
theorem dJ3_checkIndex_8e157_15 : decode cJ3_checkIndex_8e157 15 = .ok (.athrow, 1) := by decide +kernel
theorem dJ3_checkIndex_8e157_16 : decode cJ3_checkIndex_8e157 16 = .ok (.iload_n 0, 1) := by decide +kernel
theorem dJ3_checkIndex_8e157_17 : decode cJ3_checkIndex_8e157 17 = .ok (.ireturn, 1) := by decide +kernel
theorem dJ9_max_7cf53_0 : decode cJ9_max_7cf53 0 = .ok (.iload_n 0, 1) := by decide +kernel
theorem dJ9_max_7cf53_1 : decode cJ9_max_7cf53 1 = .ok (.iload_n 1, 1) := by decide +kernel
theorem dJ9_max_7cf53_2 : decode cJ9_max_7cf53 2 = .ok (.if_icmp .lt 7, 3) := by decide +kernel
theorem dJ9_max_7cf53_5 : decode cJ9_max_7cf53 5 = .ok (.iload_n 0, 1) := by decide +kernel
theorem dJ9_max_7cf53_6 : decode cJ9_max_7cf53 6 = .ok (.goto 4, 3) := by decide +kernel
theorem dJ9_max_7cf53_9 : decode cJ9_max_7cf53 9 = .ok (.iload_n 1, 1) := by decide +kernel
theorem dJ9_max_7cf53_10 : decode cJ9_max_7cf53 10 = .ok (.ireturn, 1) := by decide +kernel
theorem dJ9_min_7cf53_0 : decode cJ9_min_7cf53 0 = .ok (.iload_n 0, 1) := by decide +kernel
theorem dJ9_min_7cf53_1 : decode cJ9_min_7cf53 1 = .ok (.iload_n 1, 1) := by decide +kernel
theorem dJ9_min_7cf53_2 : decode cJ9_min_7cf53 2 = .ok (.if_icmp .gt 7, 3) := by decide +kernel
theorem dJ9_min_7cf53_5 : decode cJ9_min_7cf53 5 = .ok (.iload_n 0, 1) := by decide +kernel
theorem dJ9_min_7cf53_6 : decode cJ9_min_7cf53 6 = .ok (.goto 4, 3) := by decide +kernel
theorem dJ9_min_7cf53_9 : decode cJ9_min_7cf53 9 = .ok (.iload_n 1, 1) := by decide +kernel
theorem dJ9_min_7cf53_10 : decode cJ9_min_7cf53 10 = .ok (.ireturn, 1) := by decide +kernel
theorem dX0_bears_0 : decode cX0_bears 0 = .ok (.aload_n 0, 1) := by decide +kernel
theorem dX0_bears_1 : decode cX0_bears 1 = .ok (.getfield 21, 3) := by decide +kernel
theorem dX0_bears_4 : decode cX0_bears 4 = .ok (.bipush 40, 2) := by decide +kernel
theorem dX0_bears_6 : decode cX0_bears 6 = .ok (.invokevirtual 25, 3) := by decide +kernel
theorem dX0_bears_9 : decode cX0_bears 9 = .ok (.aload_n 0, 1) := by decide +kernel
theorem dX0_bears_10 : decode cX0_bears 10 = .ok (.iload_n 1, 1) := by decide +kernel
theorem dX0_bears_11 : decode cX0_bears 11 = .ok (.invokespecial 31, 3) := by decide +kernel
theorem dX0_bears_14 : decode cX0_bears 14 = .ok (.ineg, 1) := by decide +kernel
theorem dX0_bears_15 : decode cX0_bears 15 = .ok (.ireturn, 1) := by decide +kernel
theorem dX0_brakesAt_0 : decode cX0_brakesAt 0 = .ok (.iconst 1, 1) := by decide +kernel
theorem dX0_brakesAt_1 : decode cX0_brakesAt 1 = .ok (.ireturn, 1) := by decide +kernel
theorem dX0_gainOfKind_0 : decode cX0_gainOfKind 0 = .ok (.aload_n 0, 1) := by decide +kernel
theorem dX0_gainOfKind_1 : decode cX0_gainOfKind 1 = .ok (.aload_n 1, 1) := by decide +kernel
theorem dX0_gainOfKind_2 : decode cX0_gainOfKind 2 = .ok (.iload_n 2, 1) := by decide +kernel
theorem dX0_gainOfKind_3 : decode cX0_gainOfKind 3 = .ok (.iload_n 3, 1) := by decide +kernel
theorem dX0_gainOfKind_4 : decode cX0_gainOfKind 4 = .ok (.invokespecial 7, 3) := by decide +kernel
theorem dX0_gainOfKind_7 : decode cX0_gainOfKind 7 = .ok (.istore 4, 2) := by decide +kernel
theorem dX0_gainOfKind_9 : decode cX0_gainOfKind 9 = .ok (.iload_n 3, 1) := by decide +kernel
theorem dX0_gainOfKind_10 : decode cX0_gainOfKind 10 = .ok (.aload_n 0, 1) := by decide +kernel
theorem dX0_gainOfKind_11 : decode cX0_gainOfKind 11 = .ok (.getfield 11, 3) := by decide +kernel
theorem dX0_gainOfKind_14 : decode cX0_gainOfKind 14 = .ok (.if_icmp .le 26, 3) := by decide +kernel
theorem dX0_gainOfKind_17 : decode cX0_gainOfKind 17 = .ok (.aload_n 0, 1) := by decide +kernel
theorem dX0_gainOfKind_18 : decode cX0_gainOfKind 18 = .ok (.aload_n 1, 1) := by decide +kernel
theorem dX0_gainOfKind_19 : decode cX0_gainOfKind 19 = .ok (.iload_n 2, 1) := by decide +kernel
theorem dX0_gainOfKind_20 : decode cX0_gainOfKind 20 = .ok (.invokevirtual 17, 3) := by decide +kernel
theorem dX0_gainOfKind_23 : decode cX0_gainOfKind 23 = .ok (.ifCond .eq 17, 3) := by decide +kernel
theorem dX0_gainOfKind_26 : decode cX0_gainOfKind 26 = .ok (.iload 4, 2) := by decide +kernel
theorem dX0_gainOfKind_28 : decode cX0_gainOfKind 28 = .ok (.iload_n 3, 1) := by decide +kernel
theorem dX0_gainOfKind_29 : decode cX0_gainOfKind 29 = .ok (.aload_n 0, 1) := by decide +kernel
theorem dX0_gainOfKind_30 : decode cX0_gainOfKind 30 = .ok (.getfield 11, 3) := by decide +kernel
theorem dX0_gainOfKind_33 : decode cX0_gainOfKind 33 = .ok (.isub, 1) := by decide +kernel
theorem dX0_gainOfKind_34 : decode cX0_gainOfKind 34 = .ok (.iconst 2, 1) := by decide +kernel
theorem dX0_gainOfKind_35 : decode cX0_gainOfKind 35 = .ok (.idiv, 1) := by decide +kernel
theorem dX0_gainOfKind_36 : decode cX0_gainOfKind 36 = .ok (.isub, 1) := by decide +kernel
theorem dX0_gainOfKind_37 : decode cX0_gainOfKind 37 = .ok (.goto 5, 3) := by decide +kernel
theorem dX0_gainOfKind_40 : decode cX0_gainOfKind 40 = .ok (.iload 4, 2) := by decide +kernel
theorem dX0_gainOfKind_42 : decode cX0_gainOfKind 42 = .ok (.ireturn, 1) := by decide +kernel
theorem dX0_init_0 : decode cX0_init 0 = .ok (.aload_n 0, 1) := by decide +kernel
theorem dX0_init_1 : decode cX0_init 1 = .ok (.iload_n 1, 1) := by decide +kernel
theorem dX0_init_2 : decode cX0_init 2 = .ok (.iload_n 2, 1) := by decide +kernel
theorem dX0_init_3 : decode cX0_init 3 = .ok (.iload_n 3, 1) := by decide +kernel
theorem dX0_init_4 : decode cX0_init 4 = .ok (.iload 4, 2) := by decide +kernel
theorem dX0_init_6 : decode cX0_init 6 = .ok (.aload 5, 2) := by decide +kernel
theorem dX0_init_8 : decode cX0_init 8 = .ok (.invokespecial 1, 3) := by decide +kernel
theorem dX0_init_11 : decode cX0_init 11 = .ok (.return_, 1) := by decide +kernel
theorem dX10_allows_0 : decode cX10_allows 0 = .ok (.iload_n 0, 1) := by decide +kernel
theorem dX10_allows_1 : decode cX10_allows 1 = .ok (.iconst 0, 1) := by decide +kernel
theorem dX10_allows_2 : decode cX10_allows 2 = .ok (.bipush 8, 2) := by decide +kernel
theorem dX10_allows_4 : decode cX10_allows 4 = .ok (.invokestatic 23, 3) := by decide +kernel
theorem dX10_allows_7 : decode cX10_allows 7 = .ok (.ifCond .eq 24, 3) := by decide +kernel
theorem dX10_allows_10 : decode cX10_allows 10 = .ok (.iload_n 1, 1) := by decide +kernel
theorem dX10_allows_11 : decode cX10_allows 11 = .ok (.getstatic 27, 3) := by decide +kernel
theorem dX10_allows_14 : decode cX10_allows 14 = .ok (.iload_n 0, 1) := by decide +kernel
theorem dX10_allows_15 : decode cX10_allows 15 = .ok (.iaload, 1) := by decide +kernel
theorem dX10_allows_16 : decode cX10_allows 16 = .ok (.getstatic 30, 3) := by decide +kernel
theorem dX10_allows_19 : decode cX10_allows 19 = .ok (.iload_n 0, 1) := by decide +kernel
theorem dX10_allows_20 : decode cX10_allows 20 = .ok (.iaload, 1) := by decide +kernel
theorem dX10_allows_21 : decode cX10_allows 21 = .ok (.invokestatic 23, 3) := by decide +kernel
theorem dX10_allows_24 : decode cX10_allows 24 = .ok (.ifCond .eq 7, 3) := by decide +kernel
theorem dX10_allows_27 : decode cX10_allows 27 = .ok (.iconst 1, 1) := by decide +kernel
theorem dX10_allows_28 : decode cX10_allows 28 = .ok (.goto 4, 3) := by decide +kernel
theorem dX10_allows_31 : decode cX10_allows 31 = .ok (.iconst 0, 1) := by decide +kernel
theorem dX10_allows_32 : decode cX10_allows 32 = .ok (.ireturn, 1) := by decide +kernel
theorem dX10_becomes_0 : decode cX10_becomes 0 = .ok (.iload_n 1, 1) := by decide +kernel
theorem dX10_becomes_1 : decode cX10_becomes 1 = .ok (.iload_n 2, 1) := by decide +kernel
theorem dX10_becomes_2 : decode cX10_becomes 2 = .ok (.invokestatic 33, 3) := by decide +kernel
theorem dX10_becomes_5 : decode cX10_becomes 5 = .ok (.ifCond .eq 10, 3) := by decide +kernel
theorem dX10_becomes_8 : decode cX10_becomes 8 = .ok (.aload_n 0, 1) := by decide +kernel
theorem dX10_becomes_9 : decode cX10_becomes 9 = .ok (.getfield 20, 3) := by decide +kernel
theorem dX10_becomes_12 : decode cX10_becomes 12 = .ok (.iload_n 1, 1) := by decide +kernel
theorem dX10_becomes_13 : decode cX10_becomes 13 = .ok (.iload_n 2, 1) := by decide +kernel
theorem dX10_becomes_14 : decode cX10_becomes 14 = .ok (.iastore, 1) := by decide +kernel
theorem dX10_becomes_15 : decode cX10_becomes 15 = .ok (.return_, 1) := by decide +kernel
theorem dX10_copyFrom_0 : decode cX10_copyFrom 0 = .ok (.aload_n 1, 1) := by decide +kernel
theorem dX10_copyFrom_1 : decode cX10_copyFrom 1 = .ok (.getfield 20, 3) := by decide +kernel
theorem dX10_copyFrom_4 : decode cX10_copyFrom 4 = .ok (.iconst 0, 1) := by decide +kernel
theorem dX10_copyFrom_5 : decode cX10_copyFrom 5 = .ok (.aload_n 0, 1) := by decide +kernel
theorem dX10_copyFrom_6 : decode cX10_copyFrom 6 = .ok (.getfield 20, 3) := by decide +kernel
theorem dX10_copyFrom_9 : decode cX10_copyFrom 9 = .ok (.iconst 0, 1) := by decide +kernel
theorem dX10_copyFrom_10 : decode cX10_copyFrom 10 = .ok (.aload_n 0, 1) := by decide +kernel
theorem dX10_copyFrom_11 : decode cX10_copyFrom 11 = .ok (.getfield 20, 3) := by decide +kernel
theorem dX10_copyFrom_14 : decode cX10_copyFrom 14 = .ok (.arraylength, 1) := by decide +kernel
theorem dX10_copyFrom_15 : decode cX10_copyFrom 15 = .ok (.invokestatic 37, 3) := by decide +kernel
theorem dX10_copyFrom_18 : decode cX10_copyFrom 18 = .ok (.return_, 1) := by decide +kernel
theorem dX10_depthAt_0 : decode cX10_depthAt 0 = .ok (.aload_n 0, 1) := by decide +kernel
theorem dX10_depthAt_1 : decode cX10_depthAt 1 = .ok (.invokevirtual 43, 3) := by decide +kernel
theorem dX10_depthAt_4 : decode cX10_depthAt 4 = .ok (.i2l, 1) := by decide +kernel
theorem dX10_depthAt_5 : decode cX10_depthAt 5 = .ok (.lstore_n 3, 1) := by decide +kernel
theorem dX10_depthAt_6 : decode cX10_depthAt 6 = .ok (.aload_n 0, 1) := by decide +kernel
theorem dX10_depthAt_7 : decode cX10_depthAt 7 = .ok (.invokevirtual 47, 3) := by decide +kernel
theorem dX10_depthAt_10 : decode cX10_depthAt 10 = .ok (.i2l, 1) := by decide +kernel
theorem dX10_depthAt_11 : decode cX10_depthAt 11 = .ok (.lstore 5, 2) := by decide +kernel
theorem dX10_depthAt_13 : decode cX10_depthAt 13 = .ok (.iload_n 1, 1) := by decide +kernel
theorem dX10_depthAt_14 : decode cX10_depthAt 14 = .ok (.i2l, 1) := by decide +kernel
theorem dX10_depthAt_15 : decode cX10_depthAt 15 = .ok (.lload_n 3, 1) := by decide +kernel
theorem dX10_depthAt_16 : decode cX10_depthAt 16 = .ok (.iload_n 1, 1) := by decide +kernel
theorem dX10_depthAt_17 : decode cX10_depthAt 17 = .ok (.i2l, 1) := by decide +kernel
theorem dX10_depthAt_18 : decode cX10_depthAt 18 = .ok (.lsub, 1) := by decide +kernel
theorem dX10_depthAt_19 : decode cX10_depthAt 19 = .ok (.lmul, 1) := by decide +kernel
theorem dX10_depthAt_20 : decode cX10_depthAt 20 = .ok (.lstore 7, 2) := by decide +kernel
theorem dX10_depthAt_22 : decode cX10_depthAt 22 = .ok (.ldc2_w 50, 3) := by decide +kernel
theorem dX10_depthAt_25 : decode cX10_depthAt 25 = .ok (.aload_n 0, 1) := by decide +kernel
theorem dX10_depthAt_26 : decode cX10_depthAt 26 = .ok (.getfield 20, 3) := by decide +kernel
theorem dX10_depthAt_29 : decode cX10_depthAt 29 = .ok (.iconst 1, 1) := by decide +kernel
theorem dX10_depthAt_30 : decode cX10_depthAt 30 = .ok (.iaload, 1) := by decide +kernel
theorem dX10_depthAt_31 : decode cX10_depthAt 31 = .ok (.i2l, 1) := by decide +kernel
theorem dX10_depthAt_32 : decode cX10_depthAt 32 = .ok (.lmul, 1) := by decide +kernel
theorem dX10_depthAt_33 : decode cX10_depthAt 33 = .ok (.iload_n 1, 1) := by decide +kernel
theorem dX10_depthAt_34 : decode cX10_depthAt 34 = .ok (.i2l, 1) := by decide +kernel
theorem dX10_depthAt_35 : decode cX10_depthAt 35 = .ok (.lmul, 1) := by decide +kernel
theorem dX10_depthAt_36 : decode cX10_depthAt 36 = .ok (.lload_n 3, 1) := by decide +kernel
theorem dX10_depthAt_37 : decode cX10_depthAt 37 = .ok (.ldiv, 1) := by decide +kernel
theorem dX10_depthAt_38 : decode cX10_depthAt 38 = .ok (.ldc2_w 52, 3) := by decide +kernel
theorem dX10_depthAt_41 : decode cX10_depthAt 41 = .ok (.aload_n 0, 1) := by decide +kernel
theorem dX10_depthAt_42 : decode cX10_depthAt 42 = .ok (.getfield 20, 3) := by decide +kernel
theorem dX10_depthAt_45 : decode cX10_depthAt 45 = .ok (.iconst 3, 1) := by decide +kernel
theorem dX10_depthAt_46 : decode cX10_depthAt 46 = .ok (.iaload, 1) := by decide +kernel
theorem dX10_depthAt_47 : decode cX10_depthAt 47 = .ok (.i2l, 1) := by decide +kernel
theorem dX10_depthAt_48 : decode cX10_depthAt 48 = .ok (.lmul, 1) := by decide +kernel
theorem dX10_depthAt_49 : decode cX10_depthAt 49 = .ok (.lload 7, 2) := by decide +kernel
theorem dX10_depthAt_51 : decode cX10_depthAt 51 = .ok (.lmul, 1) := by decide +kernel
theorem dX10_depthAt_52 : decode cX10_depthAt 52 = .ok (.lload 5, 2) := by decide +kernel
theorem dX10_depthAt_54 : decode cX10_depthAt 54 = .ok (.ldiv, 1) := by decide +kernel
theorem dX10_depthAt_55 : decode cX10_depthAt 55 = .ok (.ladd, 1) := by decide +kernel
theorem dX10_depthAt_56 : decode cX10_depthAt 56 = .ok (.ldc2_w 50, 3) := by decide +kernel
theorem dX10_depthAt_59 : decode cX10_depthAt 59 = .ok (.iload_n 2, 1) := by decide +kernel
theorem dX10_depthAt_60 : decode cX10_depthAt 60 = .ok (.i2l, 1) := by decide +kernel
theorem dX10_depthAt_61 : decode cX10_depthAt 61 = .ok (.lmul, 1) := by decide +kernel
theorem dX10_depthAt_62 : decode cX10_depthAt 62 = .ok (.lload 7, 2) := by decide +kernel
theorem dX10_depthAt_64 : decode cX10_depthAt 64 = .ok (.lmul, 1) := by decide +kernel
theorem dX10_depthAt_65 : decode cX10_depthAt 65 = .ok (.lload_n 3, 1) := by decide +kernel
theorem dX10_depthAt_66 : decode cX10_depthAt 66 = .ok (.lload 5, 2) := by decide +kernel
theorem dX10_depthAt_68 : decode cX10_depthAt 68 = .ok (.lmul, 1) := by decide +kernel
theorem dX10_depthAt_69 : decode cX10_depthAt 69 = .ok (.ldiv, 1) := by decide +kernel
theorem dX10_depthAt_70 : decode cX10_depthAt 70 = .ok (.ladd, 1) := by decide +kernel
theorem dX10_depthAt_71 : decode cX10_depthAt 71 = .ok (.l2i, 1) := by decide +kernel
theorem dX10_depthAt_72 : decode cX10_depthAt 72 = .ok (.ireturn, 1) := by decide +kernel
theorem dX10_end_0 : decode cX10_end 0 = .ok (.bipush 10, 2) := by decide +kernel
theorem dX10_end_2 : decode cX10_end 2 = .ok (.aload_n 0, 1) := by decide +kernel
theorem dX10_end_3 : decode cX10_end 3 = .ok (.getfield 20, 3) := by decide +kernel
theorem dX10_end_6 : decode cX10_end 6 = .ok (.iconst 0, 1) := by decide +kernel
theorem dX10_end_7 : decode cX10_end 7 = .ok (.iaload, 1) := by decide +kernel
theorem dX10_end_8 : decode cX10_end 8 = .ok (.imul, 1) := by decide +kernel
theorem dX10_end_9 : decode cX10_end 9 = .ok (.ireturn, 1) := by decide +kernel
theorem dX10_init_0 : decode cX10_init 0 = .ok (.aload_n 0, 1) := by decide +kernel
theorem dX10_init_1 : decode cX10_init 1 = .ok (.invokespecial 3, 3) := by decide +kernel
theorem dX10_init_4 : decode cX10_init 4 = .ok (.aload_n 0, 1) := by decide +kernel
theorem dX10_init_5 : decode cX10_init 5 = .ok (.getstatic 9, 3) := by decide +kernel
theorem dX10_init_8 : decode cX10_init 8 = .ok (.invokevirtual 15, 3) := by decide +kernel
theorem dX10_init_11 : decode cX10_init 11 = .ok (.checkcast 16, 3) := by decide +kernel
theorem dX10_init_14 : decode cX10_init 14 = .ok (.putfield 20, 3) := by decide +kernel
theorem dX10_init_17 : decode cX10_init 17 = .ok (.return_, 1) := by decide +kernel
theorem dX10_of_0 : decode cX10_of 0 = .ok (.iload_n 1, 1) := by decide +kernel
theorem dX10_of_1 : decode cX10_of 1 = .ok (.ifCond .lt 18, 3) := by decide +kernel
theorem dX10_of_4 : decode cX10_of 4 = .ok (.iload_n 1, 1) := by decide +kernel
theorem dX10_of_5 : decode cX10_of 5 = .ok (.bipush 8, 2) := by decide +kernel
theorem dX10_of_7 : decode cX10_of 7 = .ok (.if_icmp .gt 12, 3) := by decide +kernel
theorem dX10_of_10 : decode cX10_of 10 = .ok (.aload_n 0, 1) := by decide +kernel
theorem dX10_of_11 : decode cX10_of 11 = .ok (.getfield 20, 3) := by decide +kernel
theorem dX10_of_14 : decode cX10_of 14 = .ok (.iload_n 1, 1) := by decide +kernel
theorem dX10_of_15 : decode cX10_of 15 = .ok (.iaload, 1) := by decide +kernel
theorem dX10_of_16 : decode cX10_of 16 = .ok (.goto 4, 3) := by decide +kernel
theorem dX10_of_19 : decode cX10_of 19 = .ok (.iconst 0, 1) := by decide +kernel
theorem dX10_of_20 : decode cX10_of 20 = .ok (.ireturn, 1) := by decide +kernel
theorem dX10_pulledAt_0 : decode cX10_pulledAt 0 = .ok (.aload_n 0, 1) := by decide +kernel
theorem dX10_pulledAt_1 : decode cX10_pulledAt 1 = .ok (.invokevirtual 43, 3) := by decide +kernel
theorem dX10_pulledAt_4 : decode cX10_pulledAt 4 = .ok (.istore_n 3, 1) := by decide +kernel
theorem dX10_pulledAt_5 : decode cX10_pulledAt 5 = .ok (.aload_n 0, 1) := by decide +kernel
theorem dX10_pulledAt_6 : decode cX10_pulledAt 6 = .ok (.invokevirtual 47, 3) := by decide +kernel
theorem dX10_pulledAt_9 : decode cX10_pulledAt 9 = .ok (.iconst 4, 1) := by decide +kernel
theorem dX10_pulledAt_10 : decode cX10_pulledAt 10 = .ok (.iload_n 2, 1) := by decide +kernel
theorem dX10_pulledAt_11 : decode cX10_pulledAt 11 = .ok (.imul, 1) := by decide +kernel
theorem dX10_pulledAt_12 : decode cX10_pulledAt 12 = .ok (.iload_n 1, 1) := by decide +kernel
theorem dX10_pulledAt_13 : decode cX10_pulledAt 13 = .ok (.imul, 1) := by decide +kernel
theorem dX10_pulledAt_14 : decode cX10_pulledAt 14 = .ok (.iload_n 3, 1) := by decide +kernel
theorem dX10_pulledAt_15 : decode cX10_pulledAt 15 = .ok (.iload_n 1, 1) := by decide +kernel
theorem dX10_pulledAt_16 : decode cX10_pulledAt 16 = .ok (.isub, 1) := by decide +kernel
theorem dX10_pulledAt_17 : decode cX10_pulledAt 17 = .ok (.imul, 1) := by decide +kernel
theorem dX10_pulledAt_18 : decode cX10_pulledAt 18 = .ok (.iload_n 3, 1) := by decide +kernel
theorem dX10_pulledAt_19 : decode cX10_pulledAt 19 = .ok (.iload_n 3, 1) := by decide +kernel
theorem dX10_pulledAt_20 : decode cX10_pulledAt 20 = .ok (.imul, 1) := by decide +kernel
theorem dX10_pulledAt_21 : decode cX10_pulledAt 21 = .ok (.idiv, 1) := by decide +kernel
theorem dX10_pulledAt_22 : decode cX10_pulledAt 22 = .ok (.iadd, 1) := by decide +kernel
theorem dX10_pulledAt_23 : decode cX10_pulledAt 23 = .ok (.ireturn, 1) := by decide +kernel
theorem dX10_spanBy_0 : decode cX10_spanBy 0 = .ok (.aload_n 0, 1) := by decide +kernel
theorem dX10_spanBy_1 : decode cX10_spanBy 1 = .ok (.getfield 20, 3) := by decide +kernel
theorem dX10_spanBy_4 : decode cX10_spanBy 4 = .ok (.iconst 0, 1) := by decide +kernel
theorem dX10_spanBy_5 : decode cX10_spanBy 5 = .ok (.iaload, 1) := by decide +kernel
theorem dX10_spanBy_6 : decode cX10_spanBy 6 = .ok (.iconst 1, 1) := by decide +kernel
theorem dX10_spanBy_7 : decode cX10_spanBy 7 = .ok (.if_icmp .ge 7, 3) := by decide +kernel
theorem dX10_spanBy_10 : decode cX10_spanBy 10 = .ok (.iconst 1, 1) := by decide +kernel
theorem dX10_spanBy_11 : decode cX10_spanBy 11 = .ok (.goto 9, 3) := by decide +kernel
theorem dX10_spanBy_14 : decode cX10_spanBy 14 = .ok (.aload_n 0, 1) := by decide +kernel
theorem dX10_spanBy_15 : decode cX10_spanBy 15 = .ok (.getfield 20, 3) := by decide +kernel
theorem dX10_spanBy_18 : decode cX10_spanBy 18 = .ok (.iconst 0, 1) := by decide +kernel
theorem dX10_spanBy_19 : decode cX10_spanBy 19 = .ok (.iaload, 1) := by decide +kernel
theorem dX10_spanBy_20 : decode cX10_spanBy 20 = .ok (.ireturn, 1) := by decide +kernel
theorem dX10_steepAt_0 : decode cX10_steepAt 0 = .ok (.iload_n 1, 1) := by decide +kernel
theorem dX10_steepAt_1 : decode cX10_steepAt 1 = .ok (.aload_n 0, 1) := by decide +kernel
theorem dX10_steepAt_2 : decode cX10_steepAt 2 = .ok (.getfield 20, 3) := by decide +kernel
theorem dX10_steepAt_5 : decode cX10_steepAt 5 = .ok (.iconst 0, 1) := by decide +kernel
theorem dX10_steepAt_6 : decode cX10_steepAt 6 = .ok (.iaload, 1) := by decide +kernel
theorem dX10_steepAt_7 : decode cX10_steepAt 7 = .ok (.iconst 1, 1) := by decide +kernel
theorem dX10_steepAt_8 : decode cX10_steepAt 8 = .ok (.isub, 1) := by decide +kernel
theorem dX10_steepAt_9 : decode cX10_steepAt 9 = .ok (.invokestatic 54, 3) := by decide +kernel
theorem dX10_steepAt_12 : decode cX10_steepAt 12 = .ok (.istore_n 3, 1) := by decide +kernel
theorem dX10_steepAt_13 : decode cX10_steepAt 13 = .ok (.aload_n 0, 1) := by decide +kernel
theorem dX10_steepAt_14 : decode cX10_steepAt 14 = .ok (.iload_n 3, 1) := by decide +kernel
theorem dX10_steepAt_15 : decode cX10_steepAt 15 = .ok (.iconst 1, 1) := by decide +kernel
theorem dX10_steepAt_16 : decode cX10_steepAt 16 = .ok (.iadd, 1) := by decide +kernel
theorem dX10_steepAt_17 : decode cX10_steepAt 17 = .ok (.iload_n 2, 1) := by decide +kernel
theorem dX10_steepAt_18 : decode cX10_steepAt 18 = .ok (.invokevirtual 60, 3) := by decide +kernel
theorem dX10_steepAt_21 : decode cX10_steepAt 21 = .ok (.aload_n 0, 1) := by decide +kernel
theorem dX10_steepAt_22 : decode cX10_steepAt 22 = .ok (.iload_n 3, 1) := by decide +kernel
theorem dX10_steepAt_23 : decode cX10_steepAt 23 = .ok (.iload_n 2, 1) := by decide +kernel
theorem dX10_steepAt_24 : decode cX10_steepAt 24 = .ok (.invokevirtual 60, 3) := by decide +kernel
theorem dX10_steepAt_27 : decode cX10_steepAt 27 = .ok (.isub, 1) := by decide +kernel
theorem dX10_steepAt_28 : decode cX10_steepAt 28 = .ok (.ireturn, 1) := by decide +kernel
theorem dX10_taut_0 : decode cX10_taut 0 = .ok (.aload_n 0, 1) := by decide +kernel
theorem dX10_taut_1 : decode cX10_taut 1 = .ok (.getfield 20, 3) := by decide +kernel
theorem dX10_taut_4 : decode cX10_taut 4 = .ok (.iconst 2, 1) := by decide +kernel
theorem dX10_taut_5 : decode cX10_taut 5 = .ok (.iaload, 1) := by decide +kernel
theorem dX10_taut_6 : decode cX10_taut 6 = .ok (.bipush 10, 2) := by decide +kernel
theorem dX10_taut_8 : decode cX10_taut 8 = .ok (.aload_n 0, 1) := by decide +kernel
theorem dX10_taut_9 : decode cX10_taut 9 = .ok (.getfield 20, 3) := by decide +kernel
theorem dX10_taut_12 : decode cX10_taut 12 = .ok (.iconst 4, 1) := by decide +kernel
theorem dX10_taut_13 : decode cX10_taut 13 = .ok (.iaload, 1) := by decide +kernel
theorem dX10_taut_14 : decode cX10_taut 14 = .ok (.imul, 1) := by decide +kernel
theorem dX10_taut_15 : decode cX10_taut 15 = .ok (.isub, 1) := by decide +kernel
theorem dX10_taut_16 : decode cX10_taut 16 = .ok (.istore_n 1, 1) := by decide +kernel
theorem dX10_taut_17 : decode cX10_taut 17 = .ok (.iload_n 1, 1) := by decide +kernel
theorem dX10_taut_18 : decode cX10_taut 18 = .ok (.bipush 100, 2) := by decide +kernel
theorem dX10_taut_20 : decode cX10_taut 20 = .ok (.if_icmp .ge 8, 3) := by decide +kernel
theorem dX10_taut_23 : decode cX10_taut 23 = .ok (.bipush 100, 2) := by decide +kernel
theorem dX10_taut_25 : decode cX10_taut 25 = .ok (.goto 4, 3) := by decide +kernel
theorem dX10_taut_28 : decode cX10_taut 28 = .ok (.iload_n 1, 1) := by decide +kernel
theorem dX10_taut_29 : decode cX10_taut 29 = .ok (.ireturn, 1) := by decide +kernel
theorem dX11_addLine_0 : decode cX11_addLine 0 = .ok (.aload_n 0, 1) := by decide +kernel
theorem dX11_addLine_1 : decode cX11_addLine 1 = .ok (.getfield 21, 3) := by decide +kernel
theorem dX11_addLine_4 : decode cX11_addLine 4 = .ok (.getfield 213, 3) := by decide +kernel
theorem dX11_addLine_7 : decode cX11_addLine 7 = .ok (.iload_n 1, 1) := by decide +kernel
theorem dX11_addLine_8 : decode cX11_addLine 8 = .ok (.invokevirtual 162, 3) := by decide +kernel
theorem dX11_addLine_11 : decode cX11_addLine 11 = .ok (.aload_n 0, 1) := by decide +kernel
theorem dX11_addLine_12 : decode cX11_addLine 12 = .ok (.getfield 21, 3) := by decide +kernel
theorem dX11_addLine_15 : decode cX11_addLine 15 = .ok (.getfield 320, 3) := by decide +kernel
theorem dX11_addLine_18 : decode cX11_addLine 18 = .ok (.iload_n 2, 1) := by decide +kernel
theorem dX11_addLine_19 : decode cX11_addLine 19 = .ok (.invokevirtual 162, 3) := by decide +kernel
theorem dX11_addLine_22 : decode cX11_addLine 22 = .ok (.aload_n 0, 1) := by decide +kernel
theorem dX11_addLine_23 : decode cX11_addLine 23 = .ok (.getfield 21, 3) := by decide +kernel
theorem dX11_addLine_26 : decode cX11_addLine 26 = .ok (.getfield 213, 3) := by decide +kernel
theorem dX11_addLine_29 : decode cX11_addLine 29 = .ok (.getfield 159, 3) := by decide +kernel
theorem dX11_addLine_32 : decode cX11_addLine 32 = .ok (.iconst 1, 1) := by decide +kernel
theorem dX11_addLine_33 : decode cX11_addLine 33 = .ok (.isub, 1) := by decide +kernel
theorem dX11_addLine_34 : decode cX11_addLine 34 = .ok (.ireturn, 1) := by decide +kernel
theorem dX11_as_0 : decode cX11_as 0 = .ok (.aload_n 0, 1) := by decide +kernel
theorem dX11_as_1 : decode cX11_as 1 = .ok (.getfield 21, 3) := by decide +kernel
theorem dX11_as_4 : decode cX11_as 4 = .ok (.iload_n 1, 1) := by decide +kernel
theorem dX11_as_5 : decode cX11_as 5 = .ok (.invokevirtual 127, 3) := by decide +kernel
theorem dX11_as_8 : decode cX11_as 8 = .ok (.astore_n 3, 1) := by decide +kernel
theorem dX11_as_9 : decode cX11_as 9 = .ok (.aload_n 3, 1) := by decide +kernel
theorem dX11_as_10 : decode cX11_as 10 = .ok (.ifnull 13, 3) := by decide +kernel
theorem dX11_as_13 : decode cX11_as 13 = .ok (.iload_n 2, 1) := by decide +kernel
theorem dX11_as_14 : decode cX11_as 14 = .ok (.iconst 0, 1) := by decide +kernel
theorem dX11_as_15 : decode cX11_as 15 = .ok (.bipush 6, 2) := by decide +kernel
theorem dX11_as_17 : decode cX11_as 17 = .ok (.invokestatic 108, 3) := by decide +kernel
theorem dX11_as_20 : decode cX11_as 20 = .ok (.ifCond .ne 9, 3) := by decide +kernel
theorem dX11_as_23 : decode cX11_as 23 = .ok (.aload_n 0, 1) := by decide +kernel
theorem dX11_as_24 : decode cX11_as 24 = .ok (.iconst 1, 1) := by decide +kernel
theorem dX11_as_25 : decode cX11_as 25 = .ok (.invokevirtual 73, 3) := by decide +kernel
theorem dX11_as_28 : decode cX11_as 28 = .ok (.ireturn, 1) := by decide +kernel
theorem dX11_as_29 : decode cX11_as 29 = .ok (.aload_n 3, 1) := by decide +kernel
theorem dX11_as_30 : decode cX11_as 30 = .ok (.iload_n 2, 1) := by decide +kernel
theorem dX11_as_31 : decode cX11_as 31 = .ok (.invokestatic 134, 3) := by decide +kernel
theorem dX11_as_34 : decode cX11_as 34 = .ok (.ifCond .eq 10, 3) := by decide +kernel
theorem dX11_as_37 : decode cX11_as 37 = .ok (.aload_n 3, 1) := by decide +kernel
theorem dX11_as_38 : decode cX11_as 38 = .ok (.getfield 138, 3) := by decide +kernel
theorem dX11_as_41 : decode cX11_as 41 = .ok (.goto 8, 3) := by decide +kernel
theorem dX11_as_44 : decode cX11_as 44 = .ok (.aload_n 0, 1) := by decide +kernel
theorem dX11_as_45 : decode cX11_as 45 = .ok (.iconst 5, 1) := by decide +kernel
theorem dX11_as_46 : decode cX11_as 46 = .ok (.invokevirtual 73, 3) := by decide +kernel
theorem dX11_as_49 : decode cX11_as 49 = .ok (.ireturn, 1) := by decide +kernel
theorem dX11_bridge_0 : decode cX11_bridge 0 = .ok (.iload_n 1, 1) := by decide +kernel
theorem dX11_bridge_1 : decode cX11_bridge 1 = .ok (.iconst 1, 1) := by decide +kernel
theorem dX11_bridge_2 : decode cX11_bridge 2 = .ok (.sipush 9999, 3) := by decide +kernel
theorem dX11_bridge_5 : decode cX11_bridge 5 = .ok (.invokestatic 108, 3) := by decide +kernel
theorem dX11_bridge_8 : decode cX11_bridge 8 = .ok (.ifCond .eq 13, 3) := by decide +kernel
theorem dX11_bridge_11 : decode cX11_bridge 11 = .ok (.iload_n 2, 1) := by decide +kernel
theorem dX11_bridge_12 : decode cX11_bridge 12 = .ok (.iconst 1, 1) := by decide +kernel
theorem dX11_bridge_13 : decode cX11_bridge 13 = .ok (.bipush 99, 2) := by decide +kernel
theorem dX11_bridge_15 : decode cX11_bridge 15 = .ok (.invokestatic 108, 3) := by decide +kernel
theorem dX11_bridge_18 : decode cX11_bridge 18 = .ok (.ifCond .ne 9, 3) := by decide +kernel
theorem dX11_bridge_21 : decode cX11_bridge 21 = .ok (.aload_n 0, 1) := by decide +kernel
theorem dX11_bridge_22 : decode cX11_bridge 22 = .ok (.iconst 1, 1) := by decide +kernel
theorem dX11_bridge_23 : decode cX11_bridge 23 = .ok (.invokevirtual 73, 3) := by decide +kernel
theorem dX11_bridge_26 : decode cX11_bridge 26 = .ok (.ireturn, 1) := by decide +kernel
theorem dX11_bridge_27 : decode cX11_bridge 27 = .ok (.iload_n 1, 1) := by decide +kernel
theorem dX11_bridge_28 : decode cX11_bridge 28 = .ok (.iload_n 2, 1) := by decide +kernel
theorem dX11_bridge_29 : decode cX11_bridge 29 = .ok (.iadd, 1) := by decide +kernel
theorem dX11_bridge_30 : decode cX11_bridge 30 = .ok (.iconst 1, 1) := by decide +kernel
theorem dX11_bridge_31 : decode cX11_bridge 31 = .ok (.isub, 1) := by decide +kernel
theorem dX11_bridge_32 : decode cX11_bridge 32 = .ok (.iload_n 2, 1) := by decide +kernel
theorem dX11_bridge_33 : decode cX11_bridge 33 = .ok (.idiv, 1) := by decide +kernel
theorem dX11_bridge_34 : decode cX11_bridge 34 = .ok (.ireturn, 1) := by decide +kernel
theorem dX11_check_0 : decode cX11_check 0 = .ok (.iload_n 1, 1) := by decide +kernel
theorem dX11_check_1 : decode cX11_check 1 = .ok (.iconst 0, 1) := by decide +kernel
theorem dX11_check_2 : decode cX11_check 2 = .ok (.sipush 200, 3) := by decide +kernel
theorem dX11_check_5 : decode cX11_check 5 = .ok (.invokestatic 108, 3) := by decide +kernel
theorem dX11_check_8 : decode cX11_check 8 = .ok (.ifCond .ne 19, 3) := by decide +kernel
theorem dX11_check_11 : decode cX11_check 11 = .ok (.aload_n 0, 1) := by decide +kernel
theorem dX11_check_12 : decode cX11_check 12 = .ok (.getfield 21, 3) := by decide +kernel
theorem dX11_check_15 : decode cX11_check 15 = .ok (.getfield 277, 3) := by decide +kernel
theorem dX11_check_18 : decode cX11_check 18 = .ok (.invokevirtual 177, 3) := by decide +kernel
theorem dX11_check_21 : decode cX11_check 21 = .ok (.aload_n 0, 1) := by decide +kernel
theorem dX11_check_22 : decode cX11_check 22 = .ok (.iconst 1, 1) := by decide +kernel
theorem dX11_check_23 : decode cX11_check 23 = .ok (.invokevirtual 73, 3) := by decide +kernel
theorem dX11_check_26 : decode cX11_check 26 = .ok (.ireturn, 1) := by decide +kernel
theorem dX11_check_27 : decode cX11_check 27 = .ok (.aload_n 0, 1) := by decide +kernel
theorem dX11_check_28 : decode cX11_check 28 = .ok (.iload_n 1, 1) := by decide +kernel
theorem dX11_check_29 : decode cX11_check 29 = .ok (.invokevirtual 194, 3) := by decide +kernel
theorem dX11_check_32 : decode cX11_check 32 = .ok (.aload_n 0, 1) := by decide +kernel
theorem dX11_check_33 : decode cX11_check 33 = .ok (.getfield 21, 3) := by decide +kernel
theorem dX11_check_36 : decode cX11_check 36 = .ok (.getfield 277, 3) := by decide +kernel
theorem dX11_check_39 : decode cX11_check 39 = .ok (.invokevirtual 177, 3) := by decide +kernel
theorem dX11_check_42 : decode cX11_check 42 = .ok (.iconst 0, 1) := by decide +kernel
theorem dX11_check_43 : decode cX11_check 43 = .ok (.istore_n 2, 1) := by decide +kernel
theorem dX11_check_44 : decode cX11_check 44 = .ok (.iload_n 2, 1) := by decide +kernel
theorem dX11_check_45 : decode cX11_check 45 = .ok (.aload_n 0, 1) := by decide +kernel
theorem dX11_check_46 : decode cX11_check 46 = .ok (.getfield 25, 3) := by decide +kernel
theorem dX11_check_49 : decode cX11_check 49 = .ok (.getfield 116, 3) := by decide +kernel
theorem dX11_check_52 : decode cX11_check 52 = .ok (.if_icmp .ge 46, 3) := by decide +kernel
theorem dX11_check_55 : decode cX11_check 55 = .ok (.iload_n 2, 1) := by decide +kernel
theorem dX11_check_56 : decode cX11_check 56 = .ok (.aload_n 0, 1) := by decide +kernel
theorem dX11_check_57 : decode cX11_check 57 = .ok (.getfield 25, 3) := by decide +kernel
theorem dX11_check_60 : decode cX11_check 60 = .ok (.getfield 277, 3) := by decide +kernel
theorem dX11_check_63 : decode cX11_check 63 = .ok (.getfield 159, 3) := by decide +kernel
theorem dX11_check_66 : decode cX11_check 66 = .ok (.if_icmp .ge 32, 3) := by decide +kernel
theorem dX11_check_69 : decode cX11_check 69 = .ok (.aload_n 0, 1) := by decide +kernel
theorem dX11_check_70 : decode cX11_check 70 = .ok (.getfield 25, 3) := by decide +kernel
theorem dX11_check_73 : decode cX11_check 73 = .ok (.getfield 277, 3) := by decide +kernel
theorem dX11_check_76 : decode cX11_check 76 = .ok (.iload_n 2, 1) := by decide +kernel
theorem dX11_check_77 : decode cX11_check 77 = .ok (.invokevirtual 223, 3) := by decide +kernel
theorem dX11_check_80 : decode cX11_check 80 = .ok (.aload_n 0, 1) := by decide +kernel
theorem dX11_check_81 : decode cX11_check 81 = .ok (.getfield 25, 3) := by decide +kernel
theorem dX11_check_84 : decode cX11_check 84 = .ok (.getfield 146, 3) := by decide +kernel
theorem dX11_check_87 : decode cX11_check 87 = .ok (.iload_n 2, 1) := by decide +kernel
theorem dX11_check_88 : decode cX11_check 88 = .ok (.iaload, 1) := by decide +kernel
theorem dX11_check_89 : decode cX11_check 89 = .ok (.if_icmp .ne 9, 3) := by decide +kernel
theorem dX11_check_92 : decode cX11_check 92 = .ok (.iinc 2 1, 3) := by decide +kernel
theorem dX11_check_95 : decode cX11_check 95 = .ok (.goto (-51), 3) := by decide +kernel
theorem dX11_check_98 : decode cX11_check 98 = .ok (.iload_n 2, 1) := by decide +kernel
theorem dX11_check_99 : decode cX11_check 99 = .ok (.aload_n 0, 1) := by decide +kernel
theorem dX11_check_100 : decode cX11_check 100 = .ok (.getfield 25, 3) := by decide +kernel
theorem dX11_check_103 : decode cX11_check 103 = .ok (.getfield 116, 3) := by decide +kernel
theorem dX11_check_106 : decode cX11_check 106 = .ok (.if_icmp .ne 21, 3) := by decide +kernel
theorem dX11_check_109 : decode cX11_check 109 = .ok (.iload_n 2, 1) := by decide +kernel
theorem dX11_check_110 : decode cX11_check 110 = .ok (.aload_n 0, 1) := by decide +kernel
theorem dX11_check_111 : decode cX11_check 111 = .ok (.getfield 25, 3) := by decide +kernel
theorem dX11_check_114 : decode cX11_check 114 = .ok (.getfield 277, 3) := by decide +kernel
theorem dX11_check_117 : decode cX11_check 117 = .ok (.getfield 159, 3) := by decide +kernel
theorem dX11_check_120 : decode cX11_check 120 = .ok (.if_icmp .ne 7, 3) := by decide +kernel
theorem dX11_check_123 : decode cX11_check 123 = .ok (.iconst 0, 1) := by decide +kernel
theorem dX11_check_124 : decode cX11_check 124 = .ok (.goto 6, 3) := by decide +kernel
theorem dX11_check_127 : decode cX11_check 127 = .ok (.iload_n 2, 1) := by decide +kernel
theorem dX11_check_128 : decode cX11_check 128 = .ok (.iconst 1, 1) := by decide +kernel
theorem dX11_check_129 : decode cX11_check 129 = .ok (.iadd, 1) := by decide +kernel
theorem dX11_check_130 : decode cX11_check 130 = .ok (.ireturn, 1) := by decide +kernel
theorem dX11_comes_0 : decode cX11_comes 0 = .ok (.aload_n 0, 1) := by decide +kernel
theorem dX11_comes_1 : decode cX11_comes 1 = .ok (.getfield 21, 3) := by decide +kernel
theorem dX11_comes_4 : decode cX11_comes 4 = .ok (.iload_n 1, 1) := by decide +kernel
theorem dX11_comes_5 : decode cX11_comes 5 = .ok (.invokevirtual 127, 3) := by decide +kernel
theorem dX11_comes_8 : decode cX11_comes 8 = .ok (.ifnonnull 9, 3) := by decide +kernel
theorem dX11_comes_11 : decode cX11_comes 11 = .ok (.aload_n 0, 1) := by decide +kernel
theorem dX11_comes_12 : decode cX11_comes 12 = .ok (.iconst 1, 1) := by decide +kernel
theorem dX11_comes_13 : decode cX11_comes 13 = .ok (.invokevirtual 73, 3) := by decide +kernel
theorem dX11_comes_16 : decode cX11_comes 16 = .ok (.ireturn, 1) := by decide +kernel
theorem dX11_comes_17 : decode cX11_comes 17 = .ok (.aload_n 0, 1) := by decide +kernel
theorem dX11_comes_18 : decode cX11_comes 18 = .ok (.getfield 21, 3) := by decide +kernel
theorem dX11_comes_21 : decode cX11_comes 21 = .ok (.getfield 152, 3) := by decide +kernel
theorem dX11_comes_24 : decode cX11_comes 24 = .ok (.iload_n 1, 1) := by decide +kernel
theorem dX11_comes_25 : decode cX11_comes 25 = .ok (.baload, 1) := by decide +kernel
theorem dX11_comes_26 : decode cX11_comes 26 = .ok (.ifCond .eq 9, 3) := by decide +kernel
theorem dX11_comes_29 : decode cX11_comes 29 = .ok (.aload_n 0, 1) := by decide +kernel
theorem dX11_comes_30 : decode cX11_comes 30 = .ok (.iconst 3, 1) := by decide +kernel
theorem dX11_comes_31 : decode cX11_comes 31 = .ok (.invokevirtual 73, 3) := by decide +kernel
theorem dX11_comes_34 : decode cX11_comes 34 = .ok (.ireturn, 1) := by decide +kernel
theorem dX11_comes_35 : decode cX11_comes 35 = .ok (.aload_n 0, 1) := by decide +kernel
theorem dX11_comes_36 : decode cX11_comes 36 = .ok (.getfield 25, 3) := by decide +kernel
theorem dX11_comes_39 : decode cX11_comes 39 = .ok (.aload_n 0, 1) := by decide +kernel
theorem dX11_comes_40 : decode cX11_comes 40 = .ok (.getfield 21, 3) := by decide +kernel
theorem dX11_comes_43 : decode cX11_comes 43 = .ok (.invokevirtual 197, 3) := by decide +kernel
theorem dX11_comes_46 : decode cX11_comes 46 = .ok (.aload_n 0, 1) := by decide +kernel
theorem dX11_comes_47 : decode cX11_comes 47 = .ok (.getfield 25, 3) := by decide +kernel
theorem dX11_comes_50 : decode cX11_comes 50 = .ok (.iload_n 1, 1) := by decide +kernel
theorem dX11_comes_51 : decode cX11_comes 51 = .ok (.sipush 200, 3) := by decide +kernel
theorem dX11_comes_54 : decode cX11_comes 54 = .ok (.invokevirtual 203, 3) := by decide +kernel
theorem dX11_comes_57 : decode cX11_comes 57 = .ok (.istore_n 2, 1) := by decide +kernel
theorem dX11_comes_58 : decode cX11_comes 58 = .ok (.iload_n 2, 1) := by decide +kernel
theorem dX11_comes_59 : decode cX11_comes 59 = .ok (.ifCond .le 7, 3) := by decide +kernel
theorem dX11_comes_62 : decode cX11_comes 62 = .ok (.iload_n 2, 1) := by decide +kernel
theorem dX11_comes_63 : decode cX11_comes 63 = .ok (.goto 8, 3) := by decide +kernel
theorem dX11_comes_66 : decode cX11_comes 66 = .ok (.aload_n 0, 1) := by decide +kernel
theorem dX11_comes_67 : decode cX11_comes 67 = .ok (.iconst 2, 1) := by decide +kernel
theorem dX11_comes_68 : decode cX11_comes 68 = .ok (.invokevirtual 73, 3) := by decide +kernel
theorem dX11_comes_71 : decode cX11_comes 71 = .ok (.ireturn, 1) := by decide +kernel
theorem dX11_count_0 : decode cX11_count 0 = .ok (.iload_n 1, 1) := by decide +kernel
theorem dX11_count_1 : decode cX11_count 1 = .ok (.tableswitch 135 0 8 #[51, 59, 67, 75, 86, 97, 108, 119, 127], 51) := by decide +kernel
theorem dX11_count_52 : decode cX11_count 52 = .ok (.aload_n 0, 1) := by decide +kernel
theorem dX11_count_53 : decode cX11_count 53 = .ok (.getfield 21, 3) := by decide +kernel
theorem dX11_count_56 : decode cX11_count 56 = .ok (.getfield 184, 3) := by decide +kernel
theorem dX11_count_59 : decode cX11_count 59 = .ok (.ireturn, 1) := by decide +kernel
theorem dX11_count_60 : decode cX11_count 60 = .ok (.aload_n 0, 1) := by decide +kernel
theorem dX11_count_61 : decode cX11_count 61 = .ok (.getfield 21, 3) := by decide +kernel
theorem dX11_count_64 : decode cX11_count 64 = .ok (.getfield 116, 3) := by decide +kernel
theorem dX11_count_67 : decode cX11_count 67 = .ok (.ireturn, 1) := by decide +kernel
theorem dX11_count_68 : decode cX11_count 68 = .ok (.aload_n 0, 1) := by decide +kernel
theorem dX11_count_69 : decode cX11_count 69 = .ok (.getfield 21, 3) := by decide +kernel
theorem dX11_count_72 : decode cX11_count 72 = .ok (.invokevirtual 280, 3) := by decide +kernel
theorem dX11_count_75 : decode cX11_count 75 = .ok (.ireturn, 1) := by decide +kernel
theorem dX11_count_76 : decode cX11_count 76 = .ok (.aload_n 0, 1) := by decide +kernel
theorem dX11_count_77 : decode cX11_count 77 = .ok (.getfield 21, 3) := by decide +kernel
theorem dX11_count_80 : decode cX11_count 80 = .ok (.getfield 213, 3) := by decide +kernel
theorem dX11_count_83 : decode cX11_count 83 = .ok (.getfield 159, 3) := by decide +kernel
theorem dX11_count_86 : decode cX11_count 86 = .ok (.ireturn, 1) := by decide +kernel
theorem dX11_count_87 : decode cX11_count 87 = .ok (.aload_n 0, 1) := by decide +kernel
theorem dX11_count_88 : decode cX11_count 88 = .ok (.getfield 21, 3) := by decide +kernel
theorem dX11_count_91 : decode cX11_count 91 = .ok (.getfield 232, 3) := by decide +kernel
theorem dX11_count_94 : decode cX11_count 94 = .ok (.getfield 159, 3) := by decide +kernel
theorem dX11_count_97 : decode cX11_count 97 = .ok (.ireturn, 1) := by decide +kernel
theorem dX11_count_98 : decode cX11_count 98 = .ok (.aload_n 0, 1) := by decide +kernel
theorem dX11_count_99 : decode cX11_count 99 = .ok (.getfield 21, 3) := by decide +kernel
theorem dX11_count_102 : decode cX11_count 102 = .ok (.getfield 156, 3) := by decide +kernel
theorem dX11_count_105 : decode cX11_count 105 = .ok (.getfield 159, 3) := by decide +kernel
theorem dX11_count_108 : decode cX11_count 108 = .ok (.ireturn, 1) := by decide +kernel
theorem dX11_count_109 : decode cX11_count 109 = .ok (.aload_n 0, 1) := by decide +kernel
theorem dX11_count_110 : decode cX11_count 110 = .ok (.getfield 21, 3) := by decide +kernel
theorem dX11_count_113 : decode cX11_count 113 = .ok (.getfield 277, 3) := by decide +kernel
theorem dX11_count_116 : decode cX11_count 116 = .ok (.getfield 159, 3) := by decide +kernel
theorem dX11_count_119 : decode cX11_count 119 = .ok (.ireturn, 1) := by decide +kernel
theorem dX11_count_120 : decode cX11_count 120 = .ok (.aload_n 0, 1) := by decide +kernel
theorem dX11_count_121 : decode cX11_count 121 = .ok (.getfield 44, 3) := by decide +kernel
theorem dX11_count_124 : decode cX11_count 124 = .ok (.getfield 159, 3) := by decide +kernel
theorem dX11_count_127 : decode cX11_count 127 = .ok (.ireturn, 1) := by decide +kernel
theorem dX11_count_128 : decode cX11_count 128 = .ok (.aload_n 0, 1) := by decide +kernel
theorem dX11_count_129 : decode cX11_count 129 = .ok (.getfield 21, 3) := by decide +kernel
theorem dX11_count_132 : decode cX11_count 132 = .ok (.getfield 243, 3) := by decide +kernel
theorem dX11_count_135 : decode cX11_count 135 = .ok (.ireturn, 1) := by decide +kernel
theorem dX11_count_136 : decode cX11_count 136 = .ok (.aload_n 0, 1) := by decide +kernel
theorem dX11_count_137 : decode cX11_count 137 = .ok (.iconst 1, 1) := by decide +kernel
theorem dX11_count_138 : decode cX11_count 138 = .ok (.invokevirtual 73, 3) := by decide +kernel
theorem dX11_count_141 : decode cX11_count 141 = .ok (.ireturn, 1) := by decide +kernel
theorem dX11_depth_0 : decode cX11_depth 0 = .ok (.aload_n 0, 1) := by decide +kernel
theorem dX11_depth_1 : decode cX11_depth 1 = .ok (.iload_n 1, 1) := by decide +kernel
theorem dX11_depth_2 : decode cX11_depth 2 = .ok (.iload_n 2, 1) := by decide +kernel
theorem dX11_depth_3 : decode cX11_depth 3 = .ok (.invokevirtual 91, 3) := by decide +kernel
theorem dX11_depth_6 : decode cX11_depth 6 = .ok (.ifCond .eq 18, 3) := by decide +kernel
theorem dX11_depth_9 : decode cX11_depth 9 = .ok (.aload_n 0, 1) := by decide +kernel
theorem dX11_depth_10 : decode cX11_depth 10 = .ok (.getfield 21, 3) := by decide +kernel
theorem dX11_depth_13 : decode cX11_depth 13 = .ok (.getfield 77, 3) := by decide +kernel
theorem dX11_depth_16 : decode cX11_depth 16 = .ok (.iload_n 1, 1) := by decide +kernel
theorem dX11_depth_17 : decode cX11_depth 17 = .ok (.iload_n 2, 1) := by decide +kernel
theorem dX11_depth_18 : decode cX11_depth 18 = .ok (.invokevirtual 94, 3) := by decide +kernel
theorem dX11_depth_21 : decode cX11_depth 21 = .ok (.goto 8, 3) := by decide +kernel
theorem dX11_depth_24 : decode cX11_depth 24 = .ok (.aload_n 0, 1) := by decide +kernel
theorem dX11_depth_25 : decode cX11_depth 25 = .ok (.iconst 1, 1) := by decide +kernel
theorem dX11_depth_26 : decode cX11_depth 26 = .ok (.invokevirtual 73, 3) := by decide +kernel
theorem dX11_depth_29 : decode cX11_depth 29 = .ok (.ireturn, 1) := by decide +kernel
theorem dX11_fail_0 : decode cX11_fail 0 = .ok (.aload_n 0, 1) := by decide +kernel
theorem dX11_fail_1 : decode cX11_fail 1 = .ok (.getfield 35, 3) := by decide +kernel
theorem dX11_fail_4 : decode cX11_fail 4 = .ok (.iload_n 1, 1) := by decide +kernel
theorem dX11_fail_5 : decode cX11_fail 5 = .ok (.dup2, 1) := by decide +kernel
theorem dX11_fail_6 : decode cX11_fail 6 = .ok (.iaload, 1) := by decide +kernel
theorem dX11_fail_7 : decode cX11_fail 7 = .ok (.iconst 1, 1) := by decide +kernel
theorem dX11_fail_8 : decode cX11_fail 8 = .ok (.iadd, 1) := by decide +kernel
theorem dX11_fail_9 : decode cX11_fail 9 = .ok (.iastore, 1) := by decide +kernel
theorem dX11_fail_10 : decode cX11_fail 10 = .ok (.ldc_w 283, 3) := by decide +kernel
theorem dX11_fail_13 : decode cX11_fail 13 = .ok (.iload_n 1, 1) := by decide +kernel
theorem dX11_fail_14 : decode cX11_fail 14 = .ok (.isub, 1) := by decide +kernel
theorem dX11_fail_15 : decode cX11_fail 15 = .ok (.ireturn, 1) := by decide +kernel
theorem dX11_feed_0 : decode cX11_feed 0 = .ok (.iload_n 3, 1) := by decide +kernel
theorem dX11_feed_1 : decode cX11_feed 1 = .ok (.iconst 1, 1) := by decide +kernel
theorem dX11_feed_2 : decode cX11_feed 2 = .ok (.bipush 8, 2) := by decide +kernel
theorem dX11_feed_4 : decode cX11_feed 4 = .ok (.invokestatic 108, 3) := by decide +kernel
theorem dX11_feed_7 : decode cX11_feed 7 = .ok (.ifCond .ne 9, 3) := by decide +kernel
theorem dX11_feed_10 : decode cX11_feed 10 = .ok (.aload_n 0, 1) := by decide +kernel
theorem dX11_feed_11 : decode cX11_feed 11 = .ok (.iconst 1, 1) := by decide +kernel
theorem dX11_feed_12 : decode cX11_feed 12 = .ok (.invokevirtual 73, 3) := by decide +kernel
theorem dX11_feed_15 : decode cX11_feed 15 = .ok (.ireturn, 1) := by decide +kernel
theorem dX11_feed_16 : decode cX11_feed 16 = .ok (.aload_n 0, 1) := by decide +kernel
theorem dX11_feed_17 : decode cX11_feed 17 = .ok (.getfield 21, 3) := by decide +kernel
theorem dX11_feed_20 : decode cX11_feed 20 = .ok (.getfield 156, 3) := by decide +kernel
theorem dX11_feed_23 : decode cX11_feed 23 = .ok (.getfield 159, 3) := by decide +kernel
theorem dX11_feed_26 : decode cX11_feed 26 = .ok (.iload_n 3, 1) := by decide +kernel
theorem dX11_feed_27 : decode cX11_feed 27 = .ok (.iadd, 1) := by decide +kernel
theorem dX11_feed_28 : decode cX11_feed 28 = .ok (.bipush 50, 2) := by decide +kernel
theorem dX11_feed_30 : decode cX11_feed 30 = .ok (.if_icmp .le 9, 3) := by decide +kernel
theorem dX11_feed_33 : decode cX11_feed 33 = .ok (.aload_n 0, 1) := by decide +kernel
theorem dX11_feed_34 : decode cX11_feed 34 = .ok (.iconst 4, 1) := by decide +kernel
theorem dX11_feed_35 : decode cX11_feed 35 = .ok (.invokevirtual 73, 3) := by decide +kernel
theorem dX11_feed_38 : decode cX11_feed 38 = .ok (.ireturn, 1) := by decide +kernel
theorem dX11_feed_39 : decode cX11_feed 39 = .ok (.iconst 0, 1) := by decide +kernel
theorem dX11_feed_40 : decode cX11_feed 40 = .ok (.istore 4, 2) := by decide +kernel
theorem dX11_feed_42 : decode cX11_feed 42 = .ok (.iload 4, 2) := by decide +kernel
theorem dX11_feed_44 : decode cX11_feed 44 = .ok (.iload_n 3, 1) := by decide +kernel
theorem dX11_feed_45 : decode cX11_feed 45 = .ok (.if_icmp .ge 31, 3) := by decide +kernel
theorem dX11_feed_48 : decode cX11_feed 48 = .ok (.aload_n 0, 1) := by decide +kernel
theorem dX11_feed_49 : decode cX11_feed 49 = .ok (.getfield 21, 3) := by decide +kernel
theorem dX11_feed_52 : decode cX11_feed 52 = .ok (.getfield 156, 3) := by decide +kernel
theorem dX11_feed_55 : decode cX11_feed 55 = .ok (.lload_n 1, 1) := by decide +kernel
theorem dX11_feed_56 : decode cX11_feed 56 = .ok (.bipush 8, 2) := by decide +kernel
theorem dX11_feed_58 : decode cX11_feed 58 = .ok (.iload 4, 2) := by decide +kernel
theorem dX11_feed_60 : decode cX11_feed 60 = .ok (.imul, 1) := by decide +kernel
theorem dX11_feed_61 : decode cX11_feed 61 = .ok (.lushr, 1) := by decide +kernel
theorem dX11_feed_62 : decode cX11_feed 62 = .ok (.l2i, 1) := by decide +kernel
theorem dX11_feed_63 : decode cX11_feed 63 = .ok (.sipush 255, 3) := by decide +kernel
theorem dX11_feed_66 : decode cX11_feed 66 = .ok (.iand, 1) := by decide +kernel
theorem dX11_feed_67 : decode cX11_feed 67 = .ok (.invokevirtual 162, 3) := by decide +kernel
theorem dX11_feed_70 : decode cX11_feed 70 = .ok (.iinc 4 1, 3) := by decide +kernel
theorem dX11_feed_73 : decode cX11_feed 73 = .ok (.goto (-31), 3) := by decide +kernel
theorem dX11_feed_76 : decode cX11_feed 76 = .ok (.aload_n 0, 1) := by decide +kernel
theorem dX11_feed_77 : decode cX11_feed 77 = .ok (.getfield 21, 3) := by decide +kernel
theorem dX11_feed_80 : decode cX11_feed 80 = .ok (.getfield 156, 3) := by decide +kernel
theorem dX11_feed_83 : decode cX11_feed 83 = .ok (.getfield 159, 3) := by decide +kernel
theorem dX11_feed_86 : decode cX11_feed 86 = .ok (.ireturn, 1) := by decide +kernel
theorem dX11_findLinesToGo_0 : decode cX11_findLinesToGo 0 = .ok (.aload_n 0, 1) := by decide +kernel
theorem dX11_findLinesToGo_1 : decode cX11_findLinesToGo 1 = .ok (.getfield 21, 3) := by decide +kernel
theorem dX11_findLinesToGo_4 : decode cX11_findLinesToGo 4 = .ok (.getfield 213, 3) := by decide +kernel
theorem dX11_findLinesToGo_7 : decode cX11_findLinesToGo 7 = .ok (.getfield 159, 3) := by decide +kernel
theorem dX11_findLinesToGo_10 : decode cX11_findLinesToGo 10 = .ok (.istore_n 2, 1) := by decide +kernel
theorem dX11_findLinesToGo_11 : decode cX11_findLinesToGo 11 = .ok (.iconst 0, 1) := by decide +kernel
theorem dX11_findLinesToGo_12 : decode cX11_findLinesToGo 12 = .ok (.istore_n 3, 1) := by decide +kernel
theorem dX11_findLinesToGo_13 : decode cX11_findLinesToGo 13 = .ok (.iload_n 3, 1) := by decide +kernel
theorem dX11_findLinesToGo_14 : decode cX11_findLinesToGo 14 = .ok (.bipush 8, 2) := by decide +kernel
theorem dX11_findLinesToGo_16 : decode cX11_findLinesToGo 16 = .ok (.if_icmp .ge 25, 3) := by decide +kernel
theorem dX11_findLinesToGo_19 : decode cX11_findLinesToGo 19 = .ok (.aload_n 0, 1) := by decide +kernel
theorem dX11_findLinesToGo_20 : decode cX11_findLinesToGo 20 = .ok (.getfield 55, 3) := by decide +kernel
theorem dX11_findLinesToGo_23 : decode cX11_findLinesToGo 23 = .ok (.iload_n 3, 1) := by decide +kernel
theorem dX11_findLinesToGo_24 : decode cX11_findLinesToGo 24 = .ok (.iload_n 3, 1) := by decide +kernel
theorem dX11_findLinesToGo_25 : decode cX11_findLinesToGo 25 = .ok (.iload_n 1, 1) := by decide +kernel
theorem dX11_findLinesToGo_26 : decode cX11_findLinesToGo 26 = .ok (.if_icmp .ne 7, 3) := by decide +kernel
theorem dX11_findLinesToGo_29 : decode cX11_findLinesToGo 29 = .ok (.iconst 1, 1) := by decide +kernel
theorem dX11_findLinesToGo_30 : decode cX11_findLinesToGo 30 = .ok (.goto 4, 3) := by decide +kernel
theorem dX11_findLinesToGo_33 : decode cX11_findLinesToGo 33 = .ok (.iconst 0, 1) := by decide +kernel
theorem dX11_findLinesToGo_34 : decode cX11_findLinesToGo 34 = .ok (.iastore, 1) := by decide +kernel
theorem dX11_findLinesToGo_35 : decode cX11_findLinesToGo 35 = .ok (.iinc 3 1, 3) := by decide +kernel
theorem dX11_findLinesToGo_38 : decode cX11_findLinesToGo 38 = .ok (.goto (-25), 3) := by decide +kernel
theorem dX11_findLinesToGo_41 : decode cX11_findLinesToGo 41 = .ok (.iconst 1, 1) := by decide +kernel
theorem dX11_findLinesToGo_42 : decode cX11_findLinesToGo 42 = .ok (.istore_n 3, 1) := by decide +kernel
theorem dX11_findLinesToGo_43 : decode cX11_findLinesToGo 43 = .ok (.iload_n 3, 1) := by decide +kernel
theorem dX11_findLinesToGo_44 : decode cX11_findLinesToGo 44 = .ok (.iload_n 2, 1) := by decide +kernel
theorem dX11_findLinesToGo_45 : decode cX11_findLinesToGo 45 = .ok (.if_icmp .ge 54, 3) := by decide +kernel
theorem dX11_findLinesToGo_48 : decode cX11_findLinesToGo 48 = .ok (.iconst 0, 1) := by decide +kernel
theorem dX11_findLinesToGo_49 : decode cX11_findLinesToGo 49 = .ok (.istore 4, 2) := by decide +kernel
theorem dX11_findLinesToGo_51 : decode cX11_findLinesToGo 51 = .ok (.iload 4, 2) := by decide +kernel
theorem dX11_findLinesToGo_53 : decode cX11_findLinesToGo 53 = .ok (.iload_n 2, 1) := by decide +kernel
theorem dX11_findLinesToGo_54 : decode cX11_findLinesToGo 54 = .ok (.if_icmp .ge 39, 3) := by decide +kernel
theorem dX11_findLinesToGo_57 : decode cX11_findLinesToGo 57 = .ok (.aload_n 0, 1) := by decide +kernel
theorem dX11_findLinesToGo_58 : decode cX11_findLinesToGo 58 = .ok (.getfield 55, 3) := by decide +kernel
theorem dX11_findLinesToGo_61 : decode cX11_findLinesToGo 61 = .ok (.iload 4, 2) := by decide +kernel
theorem dX11_findLinesToGo_63 : decode cX11_findLinesToGo 63 = .ok (.iaload, 1) := by decide +kernel
theorem dX11_findLinesToGo_64 : decode cX11_findLinesToGo 64 = .ok (.ifCond .ne 23, 3) := by decide +kernel
theorem dX11_findLinesToGo_67 : decode cX11_findLinesToGo 67 = .ok (.aload_n 0, 1) := by decide +kernel
theorem dX11_findLinesToGo_68 : decode cX11_findLinesToGo 68 = .ok (.iload 4, 2) := by decide +kernel
theorem dX11_findLinesToGo_70 : decode cX11_findLinesToGo 70 = .ok (.iload_n 3, 1) := by decide +kernel
theorem dX11_findLinesToGo_71 : decode cX11_findLinesToGo 71 = .ok (.invokevirtual 323, 3) := by decide +kernel
theorem dX11_findLinesToGo_74 : decode cX11_findLinesToGo 74 = .ok (.ifCond .lt 13, 3) := by decide +kernel
theorem dX11_findLinesToGo_77 : decode cX11_findLinesToGo 77 = .ok (.aload_n 0, 1) := by decide +kernel
theorem dX11_findLinesToGo_78 : decode cX11_findLinesToGo 78 = .ok (.getfield 55, 3) := by decide +kernel
theorem dX11_findLinesToGo_81 : decode cX11_findLinesToGo 81 = .ok (.iload 4, 2) := by decide +kernel
theorem dX11_findLinesToGo_83 : decode cX11_findLinesToGo 83 = .ok (.iload_n 3, 1) := by decide +kernel
theorem dX11_findLinesToGo_84 : decode cX11_findLinesToGo 84 = .ok (.iconst 1, 1) := by decide +kernel
theorem dX11_findLinesToGo_85 : decode cX11_findLinesToGo 85 = .ok (.iadd, 1) := by decide +kernel
theorem dX11_findLinesToGo_86 : decode cX11_findLinesToGo 86 = .ok (.iastore, 1) := by decide +kernel
theorem dX11_findLinesToGo_87 : decode cX11_findLinesToGo 87 = .ok (.iinc 4 1, 3) := by decide +kernel
theorem dX11_findLinesToGo_90 : decode cX11_findLinesToGo 90 = .ok (.goto (-39), 3) := by decide +kernel
theorem dX11_findLinesToGo_93 : decode cX11_findLinesToGo 93 = .ok (.iinc 3 1, 3) := by decide +kernel
theorem dX11_findLinesToGo_96 : decode cX11_findLinesToGo 96 = .ok (.goto (-53), 3) := by decide +kernel
theorem dX11_findLinesToGo_99 : decode cX11_findLinesToGo 99 = .ok (.return_, 1) := by decide +kernel
theorem dX11_gusts_0 : decode cX11_gusts 0 = .ok (.iload_n 1, 1) := by decide +kernel
theorem dX11_gusts_1 : decode cX11_gusts 1 = .ok (.iconst 1, 1) := by decide +kernel
theorem dX11_gusts_2 : decode cX11_gusts 2 = .ok (.sipush 200, 3) := by decide +kernel
theorem dX11_gusts_5 : decode cX11_gusts 5 = .ok (.invokestatic 108, 3) := by decide +kernel
theorem dX11_gusts_8 : decode cX11_gusts 8 = .ok (.ifCond .ne 9, 3) := by decide +kernel
theorem dX11_gusts_11 : decode cX11_gusts 11 = .ok (.aload_n 0, 1) := by decide +kernel
theorem dX11_gusts_12 : decode cX11_gusts 12 = .ok (.iconst 1, 1) := by decide +kernel
theorem dX11_gusts_13 : decode cX11_gusts 13 = .ok (.invokevirtual 73, 3) := by decide +kernel
theorem dX11_gusts_16 : decode cX11_gusts 16 = .ok (.ireturn, 1) := by decide +kernel
theorem dX11_gusts_17 : decode cX11_gusts 17 = .ok (.aload_n 0, 1) := by decide +kernel
theorem dX11_gusts_18 : decode cX11_gusts 18 = .ok (.getfield 21, 3) := by decide +kernel
theorem dX11_gusts_21 : decode cX11_gusts 21 = .ok (.getfield 184, 3) := by decide +kernel
theorem dX11_gusts_24 : decode cX11_gusts 24 = .ok (.iload_n 1, 1) := by decide +kernel
theorem dX11_gusts_25 : decode cX11_gusts 25 = .ok (.iadd, 1) := by decide +kernel
theorem dX11_gusts_26 : decode cX11_gusts 26 = .ok (.ldc 187, 2) := by decide +kernel
theorem dX11_gusts_28 : decode cX11_gusts 28 = .ok (.if_icmp .le 9, 3) := by decide +kernel
theorem dX11_gusts_31 : decode cX11_gusts 31 = .ok (.aload_n 0, 1) := by decide +kernel
theorem dX11_gusts_32 : decode cX11_gusts 32 = .ok (.iconst 3, 1) := by decide +kernel
theorem dX11_gusts_33 : decode cX11_gusts 33 = .ok (.invokevirtual 73, 3) := by decide +kernel
theorem dX11_gusts_36 : decode cX11_gusts 36 = .ok (.ireturn, 1) := by decide +kernel
theorem dX11_gusts_37 : decode cX11_gusts 37 = .ok (.iconst 0, 1) := by decide +kernel
theorem dX11_gusts_38 : decode cX11_gusts 38 = .ok (.istore_n 2, 1) := by decide +kernel
theorem dX11_gusts_39 : decode cX11_gusts 39 = .ok (.iload_n 2, 1) := by decide +kernel
theorem dX11_gusts_40 : decode cX11_gusts 40 = .ok (.iload_n 1, 1) := by decide +kernel
theorem dX11_gusts_41 : decode cX11_gusts 41 = .ok (.if_icmp .ge 42, 3) := by decide +kernel
theorem dX11_gusts_44 : decode cX11_gusts 44 = .ok (.aload_n 0, 1) := by decide +kernel
theorem dX11_gusts_45 : decode cX11_gusts 45 = .ok (.getfield 21, 3) := by decide +kernel
theorem dX11_gusts_48 : decode cX11_gusts 48 = .ok (.getfield 77, 3) := by decide +kernel
theorem dX11_gusts_51 : decode cX11_gusts 51 = .ok (.bipush 7, 2) := by decide +kernel
theorem dX11_gusts_53 : decode cX11_gusts 53 = .ok (.aload_n 0, 1) := by decide +kernel
theorem dX11_gusts_54 : decode cX11_gusts 54 = .ok (.getfield 21, 3) := by decide +kernel
theorem dX11_gusts_57 : decode cX11_gusts 57 = .ok (.invokevirtual 191, 3) := by decide +kernel
theorem dX11_gusts_60 : decode cX11_gusts 60 = .ok (.bipush 41, 2) := by decide +kernel
theorem dX11_gusts_62 : decode cX11_gusts 62 = .ok (.irem, 1) := by decide +kernel
theorem dX11_gusts_63 : decode cX11_gusts 63 = .ok (.bipush 20, 2) := by decide +kernel
theorem dX11_gusts_65 : decode cX11_gusts 65 = .ok (.isub, 1) := by decide +kernel
theorem dX11_gusts_66 : decode cX11_gusts 66 = .ok (.invokevirtual 84, 3) := by decide +kernel
theorem dX11_gusts_69 : decode cX11_gusts 69 = .ok (.aload_n 0, 1) := by decide +kernel
theorem dX11_gusts_70 : decode cX11_gusts 70 = .ok (.getfield 21, 3) := by decide +kernel
theorem dX11_gusts_73 : decode cX11_gusts 73 = .ok (.iconst 1, 1) := by decide +kernel
theorem dX11_gusts_74 : decode cX11_gusts 74 = .ok (.invokevirtual 188, 3) := by decide +kernel
theorem dX11_gusts_77 : decode cX11_gusts 77 = .ok (.iinc 2 1, 3) := by decide +kernel
theorem dX11_gusts_80 : decode cX11_gusts 80 = .ok (.goto (-41), 3) := by decide +kernel
theorem dX11_gusts_83 : decode cX11_gusts 83 = .ok (.aload_n 0, 1) := by decide +kernel
theorem dX11_gusts_84 : decode cX11_gusts 84 = .ok (.getfield 21, 3) := by decide +kernel
theorem dX11_gusts_87 : decode cX11_gusts 87 = .ok (.getfield 77, 3) := by decide +kernel
theorem dX11_gusts_90 : decode cX11_gusts 90 = .ok (.bipush 7, 2) := by decide +kernel
theorem dX11_gusts_92 : decode cX11_gusts 92 = .ok (.invokevirtual 81, 3) := by decide +kernel
theorem dX11_gusts_95 : decode cX11_gusts 95 = .ok (.ireturn, 1) := by decide +kernel
theorem dX11_held_0 : decode cX11_held 0 = .ok (.iload_n 1, 1) := by decide +kernel
theorem dX11_held_1 : decode cX11_held 1 = .ok (.iload_n 0, 1) := by decide +kernel
theorem dX11_held_2 : decode cX11_held 2 = .ok (.iload_n 2, 1) := by decide +kernel
theorem dX11_held_3 : decode cX11_held 3 = .ok (.invokestatic 284, 3) := by decide +kernel
theorem dX11_held_6 : decode cX11_held 6 = .ok (.invokestatic 289, 3) := by decide +kernel
theorem dX11_held_9 : decode cX11_held 9 = .ok (.ireturn, 1) := by decide +kernel
theorem dX11_image_0 : decode cX11_image 0 = .ok (.aload_n 0, 1) := by decide +kernel
theorem dX11_image_1 : decode cX11_image 1 = .ok (.getfield 28, 3) := by decide +kernel
theorem dX11_image_4 : decode cX11_image 4 = .ok (.aload_n 0, 1) := by decide +kernel
theorem dX11_image_5 : decode cX11_image 5 = .ok (.getfield 21, 3) := by decide +kernel
theorem dX11_image_8 : decode cX11_image 8 = .ok (.invokevirtual 197, 3) := by decide +kernel
theorem dX11_image_11 : decode cX11_image 11 = .ok (.aload_n 0, 1) := by decide +kernel
theorem dX11_image_12 : decode cX11_image 12 = .ok (.dup, 1) := by decide +kernel
theorem dX11_image_13 : decode cX11_image 13 = .ok (.getfield 31, 3) := by decide +kernel
theorem dX11_image_16 : decode cX11_image 16 = .ok (.iconst 1, 1) := by decide +kernel
theorem dX11_image_17 : decode cX11_image 17 = .ok (.iadd, 1) := by decide +kernel
theorem dX11_image_18 : decode cX11_image 18 = .ok (.putfield 31, 3) := by decide +kernel
theorem dX11_image_21 : decode cX11_image 21 = .ok (.aload_n 0, 1) := by decide +kernel
theorem dX11_image_22 : decode cX11_image 22 = .ok (.getfield 31, 3) := by decide +kernel
theorem dX11_image_25 : decode cX11_image 25 = .ok (.ireturn, 1) := by decide +kernel
theorem dX11_init_0 : decode cX11_init 0 = .ok (.aload_n 0, 1) := by decide +kernel
theorem dX11_init_1 : decode cX11_init 1 = .ok (.invokespecial 1, 3) := by decide +kernel
theorem dX11_init_4 : decode cX11_init 4 = .ok (.aload_n 0, 1) := by decide +kernel
theorem dX11_init_5 : decode cX11_init 5 = .ok (.new 7, 3) := by decide +kernel
theorem dX11_init_8 : decode cX11_init 8 = .ok (.dup, 1) := by decide +kernel
theorem dX11_init_9 : decode cX11_init 9 = .ok (.invokespecial 9, 3) := by decide +kernel
theorem dX11_init_12 : decode cX11_init 12 = .ok (.putfield 10, 3) := by decide +kernel
theorem dX11_init_15 : decode cX11_init 15 = .ok (.aload_n 0, 1) := by decide +kernel
theorem dX11_init_16 : decode cX11_init 16 = .ok (.new 16, 3) := by decide +kernel
theorem dX11_init_19 : decode cX11_init 19 = .ok (.dup, 1) := by decide +kernel
theorem dX11_init_20 : decode cX11_init 20 = .ok (.aload_n 0, 1) := by decide +kernel
theorem dX11_init_21 : decode cX11_init 21 = .ok (.getfield 10, 3) := by decide +kernel
theorem dX11_init_24 : decode cX11_init 24 = .ok (.invokespecial 18, 3) := by decide +kernel
theorem dX11_init_27 : decode cX11_init 27 = .ok (.putfield 21, 3) := by decide +kernel
theorem dX11_init_30 : decode cX11_init 30 = .ok (.aload_n 0, 1) := by decide +kernel
theorem dX11_init_31 : decode cX11_init 31 = .ok (.new 16, 3) := by decide +kernel
theorem dX11_init_34 : decode cX11_init 34 = .ok (.dup, 1) := by decide +kernel
theorem dX11_init_35 : decode cX11_init 35 = .ok (.aload_n 0, 1) := by decide +kernel
theorem dX11_init_36 : decode cX11_init 36 = .ok (.getfield 10, 3) := by decide +kernel
theorem dX11_init_39 : decode cX11_init 39 = .ok (.invokespecial 18, 3) := by decide +kernel
theorem dX11_init_42 : decode cX11_init 42 = .ok (.putfield 25, 3) := by decide +kernel
theorem dX11_init_45 : decode cX11_init 45 = .ok (.aload_n 0, 1) := by decide +kernel
theorem dX11_init_46 : decode cX11_init 46 = .ok (.new 16, 3) := by decide +kernel
theorem dX11_init_49 : decode cX11_init 49 = .ok (.dup, 1) := by decide +kernel
theorem dX11_init_50 : decode cX11_init 50 = .ok (.aload_n 0, 1) := by decide +kernel
theorem dX11_init_51 : decode cX11_init 51 = .ok (.getfield 10, 3) := by decide +kernel
theorem dX11_init_54 : decode cX11_init 54 = .ok (.invokespecial 18, 3) := by decide +kernel
theorem dX11_init_57 : decode cX11_init 57 = .ok (.putfield 28, 3) := by decide +kernel
theorem dX11_init_60 : decode cX11_init 60 = .ok (.aload_n 0, 1) := by decide +kernel
theorem dX11_init_61 : decode cX11_init 61 = .ok (.iconst 0, 1) := by decide +kernel
theorem dX11_init_62 : decode cX11_init 62 = .ok (.putfield 31, 3) := by decide +kernel
theorem dX11_init_65 : decode cX11_init 65 = .ok (.aload_n 0, 1) := by decide +kernel
theorem dX11_init_66 : decode cX11_init 66 = .ok (.bipush 6, 2) := by decide +kernel
theorem dX11_init_68 : decode cX11_init 68 = .ok (.newarray .int, 2) := by decide +kernel
theorem dX11_init_70 : decode cX11_init 70 = .ok (.putfield 35, 3) := by decide +kernel
theorem dX11_init_73 : decode cX11_init 73 = .ok (.aload_n 0, 1) := by decide +kernel
theorem dX11_init_74 : decode cX11_init 74 = .ok (.new 39, 3) := by decide +kernel
theorem dX11_init_77 : decode cX11_init 77 = .ok (.dup, 1) := by decide +kernel
theorem dX11_init_78 : decode cX11_init 78 = .ok (.bipush 40, 2) := by decide +kernel
theorem dX11_init_80 : decode cX11_init 80 = .ok (.invokespecial 41, 3) := by decide +kernel
theorem dX11_init_83 : decode cX11_init 83 = .ok (.putfield 44, 3) := by decide +kernel
theorem dX11_init_86 : decode cX11_init 86 = .ok (.aload_n 0, 1) := by decide +kernel
theorem dX11_init_87 : decode cX11_init 87 = .ok (.iconst 4, 1) := by decide +kernel
theorem dX11_init_88 : decode cX11_init 88 = .ok (.anewarray 39, 3) := by decide +kernel
theorem dX11_init_91 : decode cX11_init 91 = .ok (.putfield 48, 3) := by decide +kernel
theorem dX11_init_94 : decode cX11_init 94 = .ok (.aload_n 0, 1) := by decide +kernel
theorem dX11_init_95 : decode cX11_init 95 = .ok (.iconst 4, 1) := by decide +kernel
theorem dX11_init_96 : decode cX11_init 96 = .ok (.newarray .int, 2) := by decide +kernel
theorem dX11_init_98 : decode cX11_init 98 = .ok (.putfield 52, 3) := by decide +kernel
theorem dX11_init_101 : decode cX11_init 101 = .ok (.aload_n 0, 1) := by decide +kernel
theorem dX11_init_102 : decode cX11_init 102 = .ok (.bipush 8, 2) := by decide +kernel
theorem dX11_init_104 : decode cX11_init 104 = .ok (.newarray .int, 2) := by decide +kernel
theorem dX11_init_106 : decode cX11_init 106 = .ok (.putfield 55, 3) := by decide +kernel
theorem dX11_init_109 : decode cX11_init 109 = .ok (.aload_n 0, 1) := by decide +kernel
theorem dX11_init_110 : decode cX11_init 110 = .ok (.iconst 5, 1) := by decide +kernel
theorem dX11_init_111 : decode cX11_init 111 = .ok (.newarray .int, 2) := by decide +kernel
theorem dX11_init_113 : decode cX11_init 113 = .ok (.putfield 58, 3) := by decide +kernel
theorem dX11_init_116 : decode cX11_init 116 = .ok (.aload_n 0, 1) := by decide +kernel
theorem dX11_init_117 : decode cX11_init 117 = .ok (.iconst 5, 1) := by decide +kernel
theorem dX11_init_118 : decode cX11_init 118 = .ok (.newarray .int, 2) := by decide +kernel
theorem dX11_init_120 : decode cX11_init 120 = .ok (.putfield 61, 3) := by decide +kernel
theorem dX11_init_123 : decode cX11_init 123 = .ok (.aload_n 0, 1) := by decide +kernel
theorem dX11_init_124 : decode cX11_init 124 = .ok (.iconst 0, 1) := by decide +kernel
theorem dX11_init_125 : decode cX11_init 125 = .ok (.putfield 64, 3) := by decide +kernel
theorem dX11_init_128 : decode cX11_init 128 = .ok (.iconst 0, 1) := by decide +kernel
theorem dX11_init_129 : decode cX11_init 129 = .ok (.istore_n 1, 1) := by decide +kernel
theorem dX11_init_130 : decode cX11_init 130 = .ok (.iload_n 1, 1) := by decide +kernel
theorem dX11_init_131 : decode cX11_init 131 = .ok (.iconst 4, 1) := by decide +kernel
theorem dX11_init_132 : decode cX11_init 132 = .ok (.if_icmp .ge 24, 3) := by decide +kernel
theorem dX11_init_135 : decode cX11_init 135 = .ok (.aload_n 0, 1) := by decide +kernel
theorem dX11_init_136 : decode cX11_init 136 = .ok (.getfield 48, 3) := by decide +kernel
theorem dX11_init_139 : decode cX11_init 139 = .ok (.iload_n 1, 1) := by decide +kernel
theorem dX11_init_140 : decode cX11_init 140 = .ok (.new 39, 3) := by decide +kernel
theorem dX11_init_143 : decode cX11_init 143 = .ok (.dup, 1) := by decide +kernel
theorem dX11_init_144 : decode cX11_init 144 = .ok (.bipush 40, 2) := by decide +kernel
theorem dX11_init_146 : decode cX11_init 146 = .ok (.invokespecial 41, 3) := by decide +kernel
theorem dX11_init_149 : decode cX11_init 149 = .ok (.aastore, 1) := by decide +kernel
theorem dX11_init_150 : decode cX11_init 150 = .ok (.iinc 1 1, 3) := by decide +kernel
theorem dX11_init_153 : decode cX11_init 153 = .ok (.goto (-23), 3) := by decide +kernel
theorem dX11_init_156 : decode cX11_init 156 = .ok (.return_, 1) := by decide +kernel
theorem dX11_isLine_0 : decode cX11_isLine 0 = .ok (.iload_n 0, 1) := by decide +kernel
theorem dX11_isLine_1 : decode cX11_isLine 1 = .ok (.iconst 1, 1) := by decide +kernel
theorem dX11_isLine_2 : decode cX11_isLine 2 = .ok (.sipush 9999, 3) := by decide +kernel
theorem dX11_isLine_5 : decode cX11_isLine 5 = .ok (.invokestatic 108, 3) := by decide +kernel
theorem dX11_isLine_8 : decode cX11_isLine 8 = .ok (.ifCond .eq 18, 3) := by decide +kernel
theorem dX11_isLine_11 : decode cX11_isLine 11 = .ok (.iload_n 1, 1) := by decide +kernel
theorem dX11_isLine_12 : decode cX11_isLine 12 = .ok (.iconst 1, 1) := by decide +kernel
theorem dX11_isLine_13 : decode cX11_isLine 13 = .ok (.sipush 999, 3) := by decide +kernel
theorem dX11_isLine_16 : decode cX11_isLine 16 = .ok (.invokestatic 108, 3) := by decide +kernel
theorem dX11_isLine_19 : decode cX11_isLine 19 = .ok (.ifCond .eq 7, 3) := by decide +kernel
theorem dX11_isLine_22 : decode cX11_isLine 22 = .ok (.iconst 1, 1) := by decide +kernel
theorem dX11_isLine_23 : decode cX11_isLine 23 = .ok (.goto 4, 3) := by decide +kernel
theorem dX11_isLine_26 : decode cX11_isLine 26 = .ok (.iconst 0, 1) := by decide +kernel
theorem dX11_isLine_27 : decode cX11_isLine 27 = .ok (.ireturn, 1) := by decide +kernel
theorem dX11_isOf_0 : decode cX11_isOf 0 = .ok (.iload_n 1, 1) := by decide +kernel
theorem dX11_isOf_1 : decode cX11_isOf 1 = .ok (.tableswitch 69 1 6 #[39, 44, 49, 54, 59, 64], 39) := by decide +kernel
theorem dX11_isOf_40 : decode cX11_isOf 40 = .ok (.aload_n 0, 1) := by decide +kernel
theorem dX11_isOf_41 : decode cX11_isOf 41 = .ok (.instanceof 292, 3) := by decide +kernel
theorem dX11_isOf_44 : decode cX11_isOf 44 = .ok (.ireturn, 1) := by decide +kernel
theorem dX11_isOf_45 : decode cX11_isOf 45 = .ok (.aload_n 0, 1) := by decide +kernel
theorem dX11_isOf_46 : decode cX11_isOf 46 = .ok (.instanceof 297, 3) := by decide +kernel
theorem dX11_isOf_49 : decode cX11_isOf 49 = .ok (.ireturn, 1) := by decide +kernel
theorem dX11_isOf_50 : decode cX11_isOf 50 = .ok (.aload_n 0, 1) := by decide +kernel
theorem dX11_isOf_51 : decode cX11_isOf 51 = .ok (.instanceof 300, 3) := by decide +kernel
theorem dX11_isOf_54 : decode cX11_isOf 54 = .ok (.ireturn, 1) := by decide +kernel
theorem dX11_isOf_55 : decode cX11_isOf 55 = .ok (.aload_n 0, 1) := by decide +kernel
theorem dX11_isOf_56 : decode cX11_isOf 56 = .ok (.instanceof 303, 3) := by decide +kernel
theorem dX11_isOf_59 : decode cX11_isOf 59 = .ok (.ireturn, 1) := by decide +kernel
theorem dX11_isOf_60 : decode cX11_isOf 60 = .ok (.aload_n 0, 1) := by decide +kernel
theorem dX11_isOf_61 : decode cX11_isOf 61 = .ok (.instanceof 306, 3) := by decide +kernel
theorem dX11_isOf_64 : decode cX11_isOf 64 = .ok (.ireturn, 1) := by decide +kernel
theorem dX11_isOf_65 : decode cX11_isOf 65 = .ok (.aload_n 0, 1) := by decide +kernel
theorem dX11_isOf_66 : decode cX11_isOf 66 = .ok (.instanceof 309, 3) := by decide +kernel
theorem dX11_isOf_69 : decode cX11_isOf 69 = .ok (.ireturn, 1) := by decide +kernel
theorem dX11_isOf_70 : decode cX11_isOf 70 = .ok (.iconst 1, 1) := by decide +kernel
theorem dX11_isOf_71 : decode cX11_isOf 71 = .ok (.ireturn, 1) := by decide +kernel
theorem dX11_isOnWire_0 : decode cX11_isOnWire 0 = .ok (.iload_n 1, 1) := by decide +kernel
theorem dX11_isOnWire_1 : decode cX11_isOnWire 1 = .ok (.iconst 0, 1) := by decide +kernel
theorem dX11_isOnWire_2 : decode cX11_isOnWire 2 = .ok (.aload_n 0, 1) := by decide +kernel
theorem dX11_isOnWire_3 : decode cX11_isOnWire 3 = .ok (.getfield 21, 3) := by decide +kernel
theorem dX11_isOnWire_6 : decode cX11_isOnWire 6 = .ok (.getfield 77, 3) := by decide +kernel
theorem dX11_isOnWire_9 : decode cX11_isOnWire 9 = .ok (.iconst 0, 1) := by decide +kernel
theorem dX11_isOnWire_10 : decode cX11_isOnWire 10 = .ok (.invokevirtual 81, 3) := by decide +kernel
theorem dX11_isOnWire_13 : decode cX11_isOnWire 13 = .ok (.invokestatic 108, 3) := by decide +kernel
theorem dX11_isOnWire_16 : decode cX11_isOnWire 16 = .ok (.ifCond .eq 18, 3) := by decide +kernel
theorem dX11_isOnWire_19 : decode cX11_isOnWire 19 = .ok (.iload_n 2, 1) := by decide +kernel
theorem dX11_isOnWire_20 : decode cX11_isOnWire 20 = .ok (.iconst 0, 1) := by decide +kernel
theorem dX11_isOnWire_21 : decode cX11_isOnWire 21 = .ok (.sipush 300, 3) := by decide +kernel
theorem dX11_isOnWire_24 : decode cX11_isOnWire 24 = .ok (.invokestatic 108, 3) := by decide +kernel
theorem dX11_isOnWire_27 : decode cX11_isOnWire 27 = .ok (.ifCond .eq 7, 3) := by decide +kernel
theorem dX11_isOnWire_30 : decode cX11_isOnWire 30 = .ok (.iconst 1, 1) := by decide +kernel
theorem dX11_isOnWire_31 : decode cX11_isOnWire 31 = .ok (.goto 4, 3) := by decide +kernel
theorem dX11_isOnWire_34 : decode cX11_isOnWire 34 = .ok (.iconst 0, 1) := by decide +kernel
theorem dX11_isOnWire_35 : decode cX11_isOnWire 35 = .ok (.ireturn, 1) := by decide +kernel
theorem dX11_law_0 : decode cX11_law 0 = .ok (.iload_n 1, 1) := by decide +kernel
theorem dX11_law_1 : decode cX11_law 1 = .ok (.iconst 0, 1) := by decide +kernel
theorem dX11_law_2 : decode cX11_law 2 = .ok (.iconst 1, 1) := by decide +kernel
theorem dX11_law_3 : decode cX11_law 3 = .ok (.invokestatic 108, 3) := by decide +kernel
theorem dX11_law_6 : decode cX11_law 6 = .ok (.ifCond .eq 28, 3) := by decide +kernel
theorem dX11_law_9 : decode cX11_law 9 = .ok (.aload_n 0, 1) := by decide +kernel
theorem dX11_law_10 : decode cX11_law 10 = .ok (.getfield 10, 3) := by decide +kernel
theorem dX11_law_13 : decode cX11_law 13 = .ok (.aload_n 0, 1) := by decide +kernel
theorem dX11_law_14 : decode cX11_law 14 = .ok (.getfield 21, 3) := by decide +kernel
theorem dX11_law_17 : decode cX11_law 17 = .ok (.iload_n 1, 1) := by decide +kernel
theorem dX11_law_18 : decode cX11_law 18 = .ok (.invokevirtual 169, 3) := by decide +kernel
theorem dX11_law_21 : decode cX11_law 21 = .ok (.iload_n 1, 1) := by decide +kernel
theorem dX11_law_22 : decode cX11_law 22 = .ok (.iload_n 2, 1) := by decide +kernel
theorem dX11_law_23 : decode cX11_law 23 = .ok (.iload_n 3, 1) := by decide +kernel
theorem dX11_law_24 : decode cX11_law 24 = .ok (.iload 4, 2) := by decide +kernel
theorem dX11_law_26 : decode cX11_law 26 = .ok (.iload 5, 2) := by decide +kernel
theorem dX11_law_28 : decode cX11_law 28 = .ok (.invokevirtual 180, 3) := by decide +kernel
theorem dX11_law_31 : decode cX11_law 31 = .ok (.goto 8, 3) := by decide +kernel
theorem dX11_law_34 : decode cX11_law 34 = .ok (.aload_n 0, 1) := by decide +kernel
theorem dX11_law_35 : decode cX11_law 35 = .ok (.iconst 1, 1) := by decide +kernel
theorem dX11_law_36 : decode cX11_law 36 = .ok (.invokevirtual 73, 3) := by decide +kernel
theorem dX11_law_39 : decode cX11_law 39 = .ok (.ireturn, 1) := by decide +kernel
theorem dX11_leastBy_0 : decode cX11_leastBy 0 = .ok (.aload_n 0, 1) := by decide +kernel
theorem dX11_leastBy_1 : decode cX11_leastBy 1 = .ok (.getfield 21, 3) := by decide +kernel
theorem dX11_leastBy_4 : decode cX11_leastBy 4 = .ok (.getfield 152, 3) := by decide +kernel
theorem dX11_leastBy_7 : decode cX11_leastBy 7 = .ok (.iload 5, 2) := by decide +kernel
theorem dX11_leastBy_9 : decode cX11_leastBy 9 = .ok (.baload, 1) := by decide +kernel
theorem dX11_leastBy_10 : decode cX11_leastBy 10 = .ok (.ifCond .eq 9, 3) := by decide +kernel
theorem dX11_leastBy_13 : decode cX11_leastBy 13 = .ok (.aload_n 0, 1) := by decide +kernel
theorem dX11_leastBy_14 : decode cX11_leastBy 14 = .ok (.iconst 3, 1) := by decide +kernel
theorem dX11_leastBy_15 : decode cX11_leastBy 15 = .ok (.invokevirtual 73, 3) := by decide +kernel
theorem dX11_leastBy_18 : decode cX11_leastBy 18 = .ok (.ireturn, 1) := by decide +kernel
theorem dX11_leastBy_19 : decode cX11_leastBy 19 = .ok (.aload_n 0, 1) := by decide +kernel
theorem dX11_leastBy_20 : decode cX11_leastBy 20 = .ok (.getfield 25, 3) := by decide +kernel
theorem dX11_leastBy_23 : decode cX11_leastBy 23 = .ok (.aload_n 0, 1) := by decide +kernel
theorem dX11_leastBy_24 : decode cX11_leastBy 24 = .ok (.getfield 21, 3) := by decide +kernel
theorem dX11_leastBy_27 : decode cX11_leastBy 27 = .ok (.invokevirtual 197, 3) := by decide +kernel
theorem dX11_leastBy_30 : decode cX11_leastBy 30 = .ok (.iload_n 2, 1) := by decide +kernel
theorem dX11_leastBy_31 : decode cX11_leastBy 31 = .ok (.istore 8, 2) := by decide +kernel
theorem dX11_leastBy_33 : decode cX11_leastBy 33 = .ok (.iload 8, 2) := by decide +kernel
theorem dX11_leastBy_35 : decode cX11_leastBy 35 = .ok (.iload_n 3, 1) := by decide +kernel
theorem dX11_leastBy_36 : decode cX11_leastBy 36 = .ok (.if_icmp .gt 71, 3) := by decide +kernel
theorem dX11_leastBy_39 : decode cX11_leastBy 39 = .ok (.aload_n 0, 1) := by decide +kernel
theorem dX11_leastBy_40 : decode cX11_leastBy 40 = .ok (.getfield 25, 3) := by decide +kernel
theorem dX11_leastBy_43 : decode cX11_leastBy 43 = .ok (.aload_n 0, 1) := by decide +kernel
theorem dX11_leastBy_44 : decode cX11_leastBy 44 = .ok (.getfield 21, 3) := by decide +kernel
theorem dX11_leastBy_47 : decode cX11_leastBy 47 = .ok (.iload 5, 2) := by decide +kernel
theorem dX11_leastBy_49 : decode cX11_leastBy 49 = .ok (.invokevirtual 313, 3) := by decide +kernel
theorem dX11_leastBy_52 : decode cX11_leastBy 52 = .ok (.aload_n 0, 1) := by decide +kernel
theorem dX11_leastBy_53 : decode cX11_leastBy 53 = .ok (.getfield 25, 3) := by decide +kernel
theorem dX11_leastBy_56 : decode cX11_leastBy 56 = .ok (.getfield 77, 3) := by decide +kernel
theorem dX11_leastBy_59 : decode cX11_leastBy 59 = .ok (.iload_n 1, 1) := by decide +kernel
theorem dX11_leastBy_60 : decode cX11_leastBy 60 = .ok (.iload 8, 2) := by decide +kernel
theorem dX11_leastBy_62 : decode cX11_leastBy 62 = .ok (.invokevirtual 84, 3) := by decide +kernel
theorem dX11_leastBy_65 : decode cX11_leastBy 65 = .ok (.aload_n 0, 1) := by decide +kernel
theorem dX11_leastBy_66 : decode cX11_leastBy 66 = .ok (.getfield 25, 3) := by decide +kernel
theorem dX11_leastBy_69 : decode cX11_leastBy 69 = .ok (.iload 5, 2) := by decide +kernel
theorem dX11_leastBy_71 : decode cX11_leastBy 71 = .ok (.iload 6, 2) := by decide +kernel
theorem dX11_leastBy_73 : decode cX11_leastBy 73 = .ok (.invokevirtual 203, 3) := by decide +kernel
theorem dX11_leastBy_76 : decode cX11_leastBy 76 = .ok (.ifCond .le 21, 3) := by decide +kernel
theorem dX11_leastBy_79 : decode cX11_leastBy 79 = .ok (.aload_n 0, 1) := by decide +kernel
theorem dX11_leastBy_80 : decode cX11_leastBy 80 = .ok (.getfield 25, 3) := by decide +kernel
theorem dX11_leastBy_83 : decode cX11_leastBy 83 = .ok (.getfield 317, 3) := by decide +kernel
theorem dX11_leastBy_86 : decode cX11_leastBy 86 = .ok (.iload 5, 2) := by decide +kernel
theorem dX11_leastBy_88 : decode cX11_leastBy 88 = .ok (.iaload, 1) := by decide +kernel
theorem dX11_leastBy_89 : decode cX11_leastBy 89 = .ok (.iload 7, 2) := by decide +kernel
theorem dX11_leastBy_91 : decode cX11_leastBy 91 = .ok (.if_icmp .gt 6, 3) := by decide +kernel
theorem dX11_leastBy_94 : decode cX11_leastBy 94 = .ok (.iload 8, 2) := by decide +kernel
theorem dX11_leastBy_96 : decode cX11_leastBy 96 = .ok (.ireturn, 1) := by decide +kernel
theorem dX11_leastBy_97 : decode cX11_leastBy 97 = .ok (.iload 8, 2) := by decide +kernel
theorem dX11_leastBy_99 : decode cX11_leastBy 99 = .ok (.iload 4, 2) := by decide +kernel
theorem dX11_leastBy_101 : decode cX11_leastBy 101 = .ok (.iadd, 1) := by decide +kernel
theorem dX11_leastBy_102 : decode cX11_leastBy 102 = .ok (.istore 8, 2) := by decide +kernel
theorem dX11_leastBy_104 : decode cX11_leastBy 104 = .ok (.goto (-71), 3) := by decide +kernel
theorem dX11_leastBy_107 : decode cX11_leastBy 107 = .ok (.aload_n 0, 1) := by decide +kernel
theorem dX11_leastBy_108 : decode cX11_leastBy 108 = .ok (.iconst 2, 1) := by decide +kernel
theorem dX11_leastBy_109 : decode cX11_leastBy 109 = .ok (.invokevirtual 73, 3) := by decide +kernel
theorem dX11_leastBy_112 : decode cX11_leastBy 112 = .ok (.ireturn, 1) := by decide +kernel
theorem dX11_line_0 : decode cX11_line 0 = .ok (.iload_n 1, 1) := by decide +kernel
theorem dX11_line_1 : decode cX11_line 1 = .ok (.iload_n 2, 1) := by decide +kernel
theorem dX11_line_2 : decode cX11_line 2 = .ok (.invokestatic 210, 3) := by decide +kernel
theorem dX11_line_5 : decode cX11_line 5 = .ok (.ifCond .ne 9, 3) := by decide +kernel
theorem dX11_line_8 : decode cX11_line 8 = .ok (.aload_n 0, 1) := by decide +kernel
theorem dX11_line_9 : decode cX11_line 9 = .ok (.iconst 1, 1) := by decide +kernel
theorem dX11_line_10 : decode cX11_line 10 = .ok (.invokevirtual 73, 3) := by decide +kernel
theorem dX11_line_13 : decode cX11_line 13 = .ok (.ireturn, 1) := by decide +kernel
theorem dX11_line_14 : decode cX11_line 14 = .ok (.aload_n 0, 1) := by decide +kernel
theorem dX11_line_15 : decode cX11_line 15 = .ok (.getfield 21, 3) := by decide +kernel
theorem dX11_line_18 : decode cX11_line 18 = .ok (.getfield 213, 3) := by decide +kernel
theorem dX11_line_21 : decode cX11_line 21 = .ok (.invokevirtual 216, 3) := by decide +kernel
theorem dX11_line_24 : decode cX11_line 24 = .ok (.ifCond .eq 9, 3) := by decide +kernel
theorem dX11_line_27 : decode cX11_line 27 = .ok (.aload_n 0, 1) := by decide +kernel
theorem dX11_line_28 : decode cX11_line 28 = .ok (.iconst 4, 1) := by decide +kernel
theorem dX11_line_29 : decode cX11_line 29 = .ok (.invokevirtual 73, 3) := by decide +kernel
theorem dX11_line_32 : decode cX11_line 32 = .ok (.ireturn, 1) := by decide +kernel
theorem dX11_line_33 : decode cX11_line 33 = .ok (.aload_n 0, 1) := by decide +kernel
theorem dX11_line_34 : decode cX11_line 34 = .ok (.iload_n 1, 1) := by decide +kernel
theorem dX11_line_35 : decode cX11_line 35 = .ok (.iload_n 2, 1) := by decide +kernel
theorem dX11_line_36 : decode cX11_line 36 = .ok (.invokevirtual 220, 3) := by decide +kernel
theorem dX11_line_39 : decode cX11_line 39 = .ok (.ireturn, 1) := by decide +kernel
theorem dX11_lineOfRow_0 : decode cX11_lineOfRow 0 = .ok (.iconst 0, 1) := by decide +kernel
theorem dX11_lineOfRow_1 : decode cX11_lineOfRow 1 = .ok (.istore_n 2, 1) := by decide +kernel
theorem dX11_lineOfRow_2 : decode cX11_lineOfRow 2 = .ok (.iconst 1, 1) := by decide +kernel
theorem dX11_lineOfRow_3 : decode cX11_lineOfRow 3 = .ok (.istore_n 3, 1) := by decide +kernel
theorem dX11_lineOfRow_4 : decode cX11_lineOfRow 4 = .ok (.iload_n 3, 1) := by decide +kernel
theorem dX11_lineOfRow_5 : decode cX11_lineOfRow 5 = .ok (.iload_n 1, 1) := by decide +kernel
theorem dX11_lineOfRow_6 : decode cX11_lineOfRow 6 = .ok (.if_icmp .gt 27, 3) := by decide +kernel
theorem dX11_lineOfRow_9 : decode cX11_lineOfRow 9 = .ok (.iload_n 2, 1) := by decide +kernel
theorem dX11_lineOfRow_10 : decode cX11_lineOfRow 10 = .ok (.ifCond .lt 23, 3) := by decide +kernel
theorem dX11_lineOfRow_13 : decode cX11_lineOfRow 13 = .ok (.aload_n 0, 1) := by decide +kernel
theorem dX11_lineOfRow_14 : decode cX11_lineOfRow 14 = .ok (.iload_n 2, 1) := by decide +kernel
theorem dX11_lineOfRow_15 : decode cX11_lineOfRow 15 = .ok (.aload_n 0, 1) := by decide +kernel
theorem dX11_lineOfRow_16 : decode cX11_lineOfRow 16 = .ok (.getfield 55, 3) := by decide +kernel
theorem dX11_lineOfRow_19 : decode cX11_lineOfRow 19 = .ok (.iconst 0, 1) := by decide +kernel
theorem dX11_lineOfRow_20 : decode cX11_lineOfRow 20 = .ok (.iaload, 1) := by decide +kernel
theorem dX11_lineOfRow_21 : decode cX11_lineOfRow 21 = .ok (.iload_n 3, 1) := by decide +kernel
theorem dX11_lineOfRow_22 : decode cX11_lineOfRow 22 = .ok (.isub, 1) := by decide +kernel
theorem dX11_lineOfRow_23 : decode cX11_lineOfRow 23 = .ok (.invokevirtual 323, 3) := by decide +kernel
theorem dX11_lineOfRow_26 : decode cX11_lineOfRow 26 = .ok (.istore_n 2, 1) := by decide +kernel
theorem dX11_lineOfRow_27 : decode cX11_lineOfRow 27 = .ok (.iinc 3 1, 3) := by decide +kernel
theorem dX11_lineOfRow_30 : decode cX11_lineOfRow 30 = .ok (.goto (-26), 3) := by decide +kernel
theorem dX11_lineOfRow_33 : decode cX11_lineOfRow 33 = .ok (.iload_n 2, 1) := by decide +kernel
theorem dX11_lineOfRow_34 : decode cX11_lineOfRow 34 = .ok (.ireturn, 1) := by decide +kernel
theorem dX11_lines_0 : decode cX11_lines 0 = .ok (.iload_n 1, 1) := by decide +kernel
theorem dX11_lines_1 : decode cX11_lines 1 = .ok (.iconst 0, 1) := by decide +kernel
theorem dX11_lines_2 : decode cX11_lines 2 = .ok (.iconst 3, 1) := by decide +kernel
theorem dX11_lines_3 : decode cX11_lines 3 = .ok (.invokestatic 108, 3) := by decide +kernel
theorem dX11_lines_6 : decode cX11_lines 6 = .ok (.ifCond .ne 9, 3) := by decide +kernel
theorem dX11_lines_9 : decode cX11_lines 9 = .ok (.aload_n 0, 1) := by decide +kernel
theorem dX11_lines_10 : decode cX11_lines 10 = .ok (.iconst 1, 1) := by decide +kernel
theorem dX11_lines_11 : decode cX11_lines 11 = .ok (.invokevirtual 73, 3) := by decide +kernel
theorem dX11_lines_14 : decode cX11_lines 14 = .ok (.ireturn, 1) := by decide +kernel
theorem dX11_lines_15 : decode cX11_lines 15 = .ok (.aload_n 0, 1) := by decide +kernel
theorem dX11_lines_16 : decode cX11_lines 16 = .ok (.getfield 52, 3) := by decide +kernel
theorem dX11_lines_19 : decode cX11_lines 19 = .ok (.iload_n 1, 1) := by decide +kernel
theorem dX11_lines_20 : decode cX11_lines 20 = .ok (.iaload, 1) := by decide +kernel
theorem dX11_lines_21 : decode cX11_lines 21 = .ok (.ifCond .ne 9, 3) := by decide +kernel
theorem dX11_lines_24 : decode cX11_lines 24 = .ok (.aload_n 0, 1) := by decide +kernel
theorem dX11_lines_25 : decode cX11_lines 25 = .ok (.iconst 2, 1) := by decide +kernel
theorem dX11_lines_26 : decode cX11_lines 26 = .ok (.invokevirtual 73, 3) := by decide +kernel
theorem dX11_lines_29 : decode cX11_lines 29 = .ok (.ireturn, 1) := by decide +kernel
theorem dX11_lines_30 : decode cX11_lines 30 = .ok (.aload_n 0, 1) := by decide +kernel
theorem dX11_lines_31 : decode cX11_lines 31 = .ok (.getfield 48, 3) := by decide +kernel
theorem dX11_lines_34 : decode cX11_lines 34 = .ok (.iload_n 1, 1) := by decide +kernel
theorem dX11_lines_35 : decode cX11_lines 35 = .ok (.aaload, 1) := by decide +kernel
theorem dX11_lines_36 : decode cX11_lines 36 = .ok (.astore_n 2, 1) := by decide +kernel
theorem dX11_lines_37 : decode cX11_lines 37 = .ok (.iconst 0, 1) := by decide +kernel
theorem dX11_lines_38 : decode cX11_lines 38 = .ok (.istore_n 3, 1) := by decide +kernel
theorem dX11_lines_39 : decode cX11_lines 39 = .ok (.iload_n 3, 1) := by decide +kernel
theorem dX11_lines_40 : decode cX11_lines 40 = .ok (.bipush 8, 2) := by decide +kernel
theorem dX11_lines_42 : decode cX11_lines 42 = .ok (.if_icmp .ge 77, 3) := by decide +kernel
theorem dX11_lines_45 : decode cX11_lines 45 = .ok (.iconst 2, 1) := by decide +kernel
theorem dX11_lines_46 : decode cX11_lines 46 = .ok (.iload_n 3, 1) := by decide +kernel
theorem dX11_lines_47 : decode cX11_lines 47 = .ok (.imul, 1) := by decide +kernel
theorem dX11_lines_48 : decode cX11_lines 48 = .ok (.iconst 1, 1) := by decide +kernel
theorem dX11_lines_49 : decode cX11_lines 49 = .ok (.iadd, 1) := by decide +kernel
theorem dX11_lines_50 : decode cX11_lines 50 = .ok (.aload_n 2, 1) := by decide +kernel
theorem dX11_lines_51 : decode cX11_lines 51 = .ok (.getfield 159, 3) := by decide +kernel
theorem dX11_lines_54 : decode cX11_lines 54 = .ok (.if_icmp .ge 65, 3) := by decide +kernel
theorem dX11_lines_57 : decode cX11_lines 57 = .ok (.aload_n 0, 1) := by decide +kernel
theorem dX11_lines_58 : decode cX11_lines 58 = .ok (.getfield 21, 3) := by decide +kernel
theorem dX11_lines_61 : decode cX11_lines 61 = .ok (.getfield 213, 3) := by decide +kernel
theorem dX11_lines_64 : decode cX11_lines 64 = .ok (.invokevirtual 216, 3) := by decide +kernel
theorem dX11_lines_67 : decode cX11_lines 67 = .ok (.ifCond .ne 52, 3) := by decide +kernel
theorem dX11_lines_70 : decode cX11_lines 70 = .ok (.aload_n 2, 1) := by decide +kernel
theorem dX11_lines_71 : decode cX11_lines 71 = .ok (.iconst 2, 1) := by decide +kernel
theorem dX11_lines_72 : decode cX11_lines 72 = .ok (.iload_n 3, 1) := by decide +kernel
theorem dX11_lines_73 : decode cX11_lines 73 = .ok (.imul, 1) := by decide +kernel
theorem dX11_lines_74 : decode cX11_lines 74 = .ok (.invokevirtual 223, 3) := by decide +kernel
theorem dX11_lines_77 : decode cX11_lines 77 = .ok (.aload_n 2, 1) := by decide +kernel
theorem dX11_lines_78 : decode cX11_lines 78 = .ok (.iconst 2, 1) := by decide +kernel
theorem dX11_lines_79 : decode cX11_lines 79 = .ok (.iload_n 3, 1) := by decide +kernel
theorem dX11_lines_80 : decode cX11_lines 80 = .ok (.imul, 1) := by decide +kernel
theorem dX11_lines_81 : decode cX11_lines 81 = .ok (.iconst 1, 1) := by decide +kernel
theorem dX11_lines_82 : decode cX11_lines 82 = .ok (.iadd, 1) := by decide +kernel
theorem dX11_lines_83 : decode cX11_lines 83 = .ok (.invokevirtual 223, 3) := by decide +kernel
theorem dX11_lines_86 : decode cX11_lines 86 = .ok (.invokestatic 210, 3) := by decide +kernel
theorem dX11_lines_89 : decode cX11_lines 89 = .ok (.ifCond .eq 30, 3) := by decide +kernel
theorem dX11_lines_92 : decode cX11_lines 92 = .ok (.aload_n 0, 1) := by decide +kernel
theorem dX11_lines_93 : decode cX11_lines 93 = .ok (.aload_n 2, 1) := by decide +kernel
theorem dX11_lines_94 : decode cX11_lines 94 = .ok (.iconst 2, 1) := by decide +kernel
theorem dX11_lines_95 : decode cX11_lines 95 = .ok (.iload_n 3, 1) := by decide +kernel
theorem dX11_lines_96 : decode cX11_lines 96 = .ok (.imul, 1) := by decide +kernel
theorem dX11_lines_97 : decode cX11_lines 97 = .ok (.invokevirtual 223, 3) := by decide +kernel
theorem dX11_lines_100 : decode cX11_lines 100 = .ok (.aload_n 2, 1) := by decide +kernel
theorem dX11_lines_101 : decode cX11_lines 101 = .ok (.iconst 2, 1) := by decide +kernel
theorem dX11_lines_102 : decode cX11_lines 102 = .ok (.iload_n 3, 1) := by decide +kernel
theorem dX11_lines_103 : decode cX11_lines 103 = .ok (.imul, 1) := by decide +kernel
theorem dX11_lines_104 : decode cX11_lines 104 = .ok (.iconst 1, 1) := by decide +kernel
theorem dX11_lines_105 : decode cX11_lines 105 = .ok (.iadd, 1) := by decide +kernel
theorem dX11_lines_106 : decode cX11_lines 106 = .ok (.invokevirtual 223, 3) := by decide +kernel
theorem dX11_lines_109 : decode cX11_lines 109 = .ok (.invokevirtual 220, 3) := by decide +kernel
theorem dX11_lines_112 : decode cX11_lines 112 = .ok (.pop, 1) := by decide +kernel
theorem dX11_lines_113 : decode cX11_lines 113 = .ok (.iinc 3 1, 3) := by decide +kernel
theorem dX11_lines_116 : decode cX11_lines 116 = .ok (.goto (-77), 3) := by decide +kernel
theorem dX11_lines_119 : decode cX11_lines 119 = .ok (.iload_n 3, 1) := by decide +kernel
theorem dX11_lines_120 : decode cX11_lines 120 = .ok (.ireturn, 1) := by decide +kernel
theorem dX11_load_0 : decode cX11_load 0 = .ok (.iload_n 1, 1) := by decide +kernel
theorem dX11_load_1 : decode cX11_load 1 = .ok (.iconst 1, 1) := by decide +kernel
theorem dX11_load_2 : decode cX11_load 2 = .ok (.bipush 99, 2) := by decide +kernel
theorem dX11_load_4 : decode cX11_load 4 = .ok (.invokestatic 108, 3) := by decide +kernel
theorem dX11_load_7 : decode cX11_load 7 = .ok (.ifCond .eq 12, 3) := by decide +kernel
theorem dX11_load_10 : decode cX11_load 10 = .ok (.iload_n 2, 1) := by decide +kernel
theorem dX11_load_11 : decode cX11_load 11 = .ok (.iconst 0, 1) := by decide +kernel
theorem dX11_load_12 : decode cX11_load 12 = .ok (.iconst 1, 1) := by decide +kernel
theorem dX11_load_13 : decode cX11_load 13 = .ok (.invokestatic 108, 3) := by decide +kernel
theorem dX11_load_16 : decode cX11_load 16 = .ok (.ifCond .ne 9, 3) := by decide +kernel
theorem dX11_load_19 : decode cX11_load 19 = .ok (.aload_n 0, 1) := by decide +kernel
theorem dX11_load_20 : decode cX11_load 20 = .ok (.iconst 1, 1) := by decide +kernel
theorem dX11_load_21 : decode cX11_load 21 = .ok (.invokevirtual 73, 3) := by decide +kernel
theorem dX11_load_24 : decode cX11_load 24 = .ok (.ireturn, 1) := by decide +kernel
theorem dX11_load_25 : decode cX11_load 25 = .ok (.aload_n 0, 1) := by decide +kernel
theorem dX11_load_26 : decode cX11_load 26 = .ok (.getfield 21, 3) := by decide +kernel
theorem dX11_load_29 : decode cX11_load 29 = .ok (.getfield 232, 3) := by decide +kernel
theorem dX11_load_32 : decode cX11_load 32 = .ok (.invokevirtual 216, 3) := by decide +kernel
theorem dX11_load_35 : decode cX11_load 35 = .ok (.ifCond .eq 9, 3) := by decide +kernel
theorem dX11_load_38 : decode cX11_load 38 = .ok (.aload_n 0, 1) := by decide +kernel
theorem dX11_load_39 : decode cX11_load 39 = .ok (.iconst 4, 1) := by decide +kernel
theorem dX11_load_40 : decode cX11_load 40 = .ok (.invokevirtual 73, 3) := by decide +kernel
theorem dX11_load_43 : decode cX11_load 43 = .ok (.ireturn, 1) := by decide +kernel
theorem dX11_load_44 : decode cX11_load 44 = .ok (.aload_n 0, 1) := by decide +kernel
theorem dX11_load_45 : decode cX11_load 45 = .ok (.getfield 21, 3) := by decide +kernel
theorem dX11_load_48 : decode cX11_load 48 = .ok (.getfield 232, 3) := by decide +kernel
theorem dX11_load_51 : decode cX11_load 51 = .ok (.iload_n 1, 1) := by decide +kernel
theorem dX11_load_52 : decode cX11_load 52 = .ok (.invokevirtual 162, 3) := by decide +kernel
theorem dX11_load_55 : decode cX11_load 55 = .ok (.aload_n 0, 1) := by decide +kernel
theorem dX11_load_56 : decode cX11_load 56 = .ok (.getfield 21, 3) := by decide +kernel
theorem dX11_load_59 : decode cX11_load 59 = .ok (.getfield 235, 3) := by decide +kernel
theorem dX11_load_62 : decode cX11_load 62 = .ok (.iload_n 2, 1) := by decide +kernel
theorem dX11_load_63 : decode cX11_load 63 = .ok (.invokevirtual 162, 3) := by decide +kernel
theorem dX11_load_66 : decode cX11_load 66 = .ok (.aload_n 0, 1) := by decide +kernel
theorem dX11_load_67 : decode cX11_load 67 = .ok (.getfield 21, 3) := by decide +kernel
theorem dX11_load_70 : decode cX11_load 70 = .ok (.getfield 232, 3) := by decide +kernel
theorem dX11_load_73 : decode cX11_load 73 = .ok (.getfield 159, 3) := by decide +kernel
theorem dX11_load_76 : decode cX11_load 76 = .ok (.iconst 1, 1) := by decide +kernel
theorem dX11_load_77 : decode cX11_load 77 = .ok (.isub, 1) := by decide +kernel
theorem dX11_load_78 : decode cX11_load 78 = .ok (.ireturn, 1) := by decide +kernel
theorem dX11_lookAhead_0 : decode cX11_lookAhead 0 = .ok (.aload_n 0, 1) := by decide +kernel
theorem dX11_lookAhead_1 : decode cX11_lookAhead 1 = .ok (.getfield 25, 3) := by decide +kernel
theorem dX11_lookAhead_4 : decode cX11_lookAhead 4 = .ok (.aload_n 0, 1) := by decide +kernel
theorem dX11_lookAhead_5 : decode cX11_lookAhead 5 = .ok (.getfield 21, 3) := by decide +kernel
theorem dX11_lookAhead_8 : decode cX11_lookAhead 8 = .ok (.invokevirtual 197, 3) := by decide +kernel
theorem dX11_lookAhead_11 : decode cX11_lookAhead 11 = .ok (.aload_n 0, 1) := by decide +kernel
theorem dX11_lookAhead_12 : decode cX11_lookAhead 12 = .ok (.getfield 25, 3) := by decide +kernel
theorem dX11_lookAhead_15 : decode cX11_lookAhead 15 = .ok (.iload_n 1, 1) := by decide +kernel
theorem dX11_lookAhead_16 : decode cX11_lookAhead 16 = .ok (.invokevirtual 188, 3) := by decide +kernel
theorem dX11_lookAhead_19 : decode cX11_lookAhead 19 = .ok (.return_, 1) := by decide +kernel
theorem dX11_lower_0 : decode cX11_lower 0 = .ok (.aload_n 0, 1) := by decide +kernel
theorem dX11_lower_1 : decode cX11_lower 1 = .ok (.getfield 21, 3) := by decide +kernel
theorem dX11_lower_4 : decode cX11_lower 4 = .ok (.iload_n 1, 1) := by decide +kernel
theorem dX11_lower_5 : decode cX11_lower 5 = .ok (.invokevirtual 127, 3) := by decide +kernel
theorem dX11_lower_8 : decode cX11_lower 8 = .ok (.ifnull 13, 3) := by decide +kernel
theorem dX11_lower_11 : decode cX11_lower 11 = .ok (.iload_n 2, 1) := by decide +kernel
theorem dX11_lower_12 : decode cX11_lower 12 = .ok (.iconst 1, 1) := by decide +kernel
theorem dX11_lower_13 : decode cX11_lower 13 = .ok (.bipush 60, 2) := by decide +kernel
theorem dX11_lower_15 : decode cX11_lower 15 = .ok (.invokestatic 108, 3) := by decide +kernel
theorem dX11_lower_18 : decode cX11_lower 18 = .ok (.ifCond .ne 9, 3) := by decide +kernel
theorem dX11_lower_21 : decode cX11_lower 21 = .ok (.aload_n 0, 1) := by decide +kernel
theorem dX11_lower_22 : decode cX11_lower 22 = .ok (.iconst 1, 1) := by decide +kernel
theorem dX11_lower_23 : decode cX11_lower 23 = .ok (.invokevirtual 73, 3) := by decide +kernel
theorem dX11_lower_26 : decode cX11_lower 26 = .ok (.ireturn, 1) := by decide +kernel
theorem dX11_lower_27 : decode cX11_lower 27 = .ok (.aload_n 0, 1) := by decide +kernel
theorem dX11_lower_28 : decode cX11_lower 28 = .ok (.iconst 1, 1) := by decide +kernel
theorem dX11_lower_29 : decode cX11_lower 29 = .ok (.bipush (-99), 2) := by decide +kernel
theorem dX11_lower_31 : decode cX11_lower 31 = .ok (.bipush 99, 2) := by decide +kernel
theorem dX11_lower_33 : decode cX11_lower 33 = .ok (.iconst 1, 1) := by decide +kernel
theorem dX11_lower_34 : decode cX11_lower 34 = .ok (.iload_n 1, 1) := by decide +kernel
theorem dX11_lower_35 : decode cX11_lower 35 = .ok (.iload_n 2, 1) := by decide +kernel
theorem dX11_lower_36 : decode cX11_lower 36 = .ok (.sipush 300, 3) := by decide +kernel
theorem dX11_lower_39 : decode cX11_lower 39 = .ok (.invokevirtual 206, 3) := by decide +kernel
theorem dX11_lower_42 : decode cX11_lower 42 = .ok (.ireturn, 1) := by decide +kernel
theorem dX11_lowest_0 : decode cX11_lowest 0 = .ok (.iload_n 1, 1) := by decide +kernel
theorem dX11_lowest_1 : decode cX11_lowest 1 = .ok (.lookupswitch 33 #[(8, 27), (16, 30)], 27) := by decide +kernel
theorem dX11_lowest_28 : decode cX11_lowest 28 = .ok (.iload_n 0, 1) := by decide +kernel
theorem dX11_lowest_29 : decode cX11_lowest 29 = .ok (.i2b, 1) := by decide +kernel
theorem dX11_lowest_30 : decode cX11_lowest 30 = .ok (.ireturn, 1) := by decide +kernel
theorem dX11_lowest_31 : decode cX11_lowest 31 = .ok (.iload_n 0, 1) := by decide +kernel
theorem dX11_lowest_32 : decode cX11_lowest 32 = .ok (.i2s, 1) := by decide +kernel
theorem dX11_lowest_33 : decode cX11_lowest 33 = .ok (.ireturn, 1) := by decide +kernel
theorem dX11_lowest_34 : decode cX11_lowest 34 = .ok (.iload_n 0, 1) := by decide +kernel
theorem dX11_lowest_35 : decode cX11_lowest 35 = .ok (.ireturn, 1) := by decide +kernel
theorem dX11_made_0 : decode cX11_made 0 = .ok (.iload_n 1, 1) := by decide +kernel
theorem dX11_made_1 : decode cX11_made 1 = .ok (.tableswitch 141 1 6 #[39, 56, 73, 90, 107, 124], 39) := by decide +kernel
theorem dX11_made_40 : decode cX11_made 40 = .ok (.new 292, 3) := by decide +kernel
theorem dX11_made_43 : decode cX11_made 43 = .ok (.dup, 1) := by decide +kernel
theorem dX11_made_44 : decode cX11_made 44 = .ok (.iload_n 1, 1) := by decide +kernel
theorem dX11_made_45 : decode cX11_made 45 = .ok (.iload_n 2, 1) := by decide +kernel
theorem dX11_made_46 : decode cX11_made 46 = .ok (.iload_n 3, 1) := by decide +kernel
theorem dX11_made_47 : decode cX11_made 47 = .ok (.iload 4, 2) := by decide +kernel
theorem dX11_made_49 : decode cX11_made 49 = .ok (.aload_n 0, 1) := by decide +kernel
theorem dX11_made_50 : decode cX11_made 50 = .ok (.getfield 44, 3) := by decide +kernel
theorem dX11_made_53 : decode cX11_made 53 = .ok (.invokespecial 294, 3) := by decide +kernel
theorem dX11_made_56 : decode cX11_made 56 = .ok (.areturn, 1) := by decide +kernel
theorem dX11_made_57 : decode cX11_made 57 = .ok (.new 297, 3) := by decide +kernel
theorem dX11_made_60 : decode cX11_made 60 = .ok (.dup, 1) := by decide +kernel
theorem dX11_made_61 : decode cX11_made 61 = .ok (.iload_n 1, 1) := by decide +kernel
theorem dX11_made_62 : decode cX11_made 62 = .ok (.iload_n 2, 1) := by decide +kernel
theorem dX11_made_63 : decode cX11_made 63 = .ok (.iload_n 3, 1) := by decide +kernel
theorem dX11_made_64 : decode cX11_made 64 = .ok (.iload 4, 2) := by decide +kernel
theorem dX11_made_66 : decode cX11_made 66 = .ok (.aload_n 0, 1) := by decide +kernel
theorem dX11_made_67 : decode cX11_made 67 = .ok (.getfield 44, 3) := by decide +kernel
theorem dX11_made_70 : decode cX11_made 70 = .ok (.invokespecial 299, 3) := by decide +kernel
theorem dX11_made_73 : decode cX11_made 73 = .ok (.areturn, 1) := by decide +kernel
theorem dX11_made_74 : decode cX11_made 74 = .ok (.new 300, 3) := by decide +kernel
theorem dX11_made_77 : decode cX11_made 77 = .ok (.dup, 1) := by decide +kernel
theorem dX11_made_78 : decode cX11_made 78 = .ok (.iload_n 1, 1) := by decide +kernel
theorem dX11_made_79 : decode cX11_made 79 = .ok (.iload_n 2, 1) := by decide +kernel
theorem dX11_made_80 : decode cX11_made 80 = .ok (.iload_n 3, 1) := by decide +kernel
theorem dX11_made_81 : decode cX11_made 81 = .ok (.iload 4, 2) := by decide +kernel
theorem dX11_made_83 : decode cX11_made 83 = .ok (.aload_n 0, 1) := by decide +kernel
theorem dX11_made_84 : decode cX11_made 84 = .ok (.getfield 44, 3) := by decide +kernel
theorem dX11_made_87 : decode cX11_made 87 = .ok (.invokespecial 302, 3) := by decide +kernel
theorem dX11_made_90 : decode cX11_made 90 = .ok (.areturn, 1) := by decide +kernel
theorem dX11_made_91 : decode cX11_made 91 = .ok (.new 303, 3) := by decide +kernel
theorem dX11_made_94 : decode cX11_made 94 = .ok (.dup, 1) := by decide +kernel
theorem dX11_made_95 : decode cX11_made 95 = .ok (.iload_n 1, 1) := by decide +kernel
theorem dX11_made_96 : decode cX11_made 96 = .ok (.iload_n 2, 1) := by decide +kernel
theorem dX11_made_97 : decode cX11_made 97 = .ok (.iload_n 3, 1) := by decide +kernel
theorem dX11_made_98 : decode cX11_made 98 = .ok (.iload 4, 2) := by decide +kernel
theorem dX11_made_100 : decode cX11_made 100 = .ok (.aload_n 0, 1) := by decide +kernel
theorem dX11_made_101 : decode cX11_made 101 = .ok (.getfield 44, 3) := by decide +kernel
theorem dX11_made_104 : decode cX11_made 104 = .ok (.invokespecial 305, 3) := by decide +kernel
theorem dX11_made_107 : decode cX11_made 107 = .ok (.areturn, 1) := by decide +kernel
theorem dX11_made_108 : decode cX11_made 108 = .ok (.new 306, 3) := by decide +kernel
theorem dX11_made_111 : decode cX11_made 111 = .ok (.dup, 1) := by decide +kernel
theorem dX11_made_112 : decode cX11_made 112 = .ok (.iload_n 1, 1) := by decide +kernel
theorem dX11_made_113 : decode cX11_made 113 = .ok (.iload_n 2, 1) := by decide +kernel
theorem dX11_made_114 : decode cX11_made 114 = .ok (.iload_n 3, 1) := by decide +kernel
theorem dX11_made_115 : decode cX11_made 115 = .ok (.iload 4, 2) := by decide +kernel
theorem dX11_made_117 : decode cX11_made 117 = .ok (.aload_n 0, 1) := by decide +kernel
theorem dX11_made_118 : decode cX11_made 118 = .ok (.getfield 44, 3) := by decide +kernel
theorem dX11_made_121 : decode cX11_made 121 = .ok (.invokespecial 308, 3) := by decide +kernel
theorem dX11_made_124 : decode cX11_made 124 = .ok (.areturn, 1) := by decide +kernel
theorem dX11_made_125 : decode cX11_made 125 = .ok (.new 309, 3) := by decide +kernel
theorem dX11_made_128 : decode cX11_made 128 = .ok (.dup, 1) := by decide +kernel
theorem dX11_made_129 : decode cX11_made 129 = .ok (.iload_n 1, 1) := by decide +kernel
theorem dX11_made_130 : decode cX11_made 130 = .ok (.iload_n 2, 1) := by decide +kernel
theorem dX11_made_131 : decode cX11_made 131 = .ok (.iload_n 3, 1) := by decide +kernel
theorem dX11_made_132 : decode cX11_made 132 = .ok (.iload 4, 2) := by decide +kernel
theorem dX11_made_134 : decode cX11_made 134 = .ok (.aload_n 0, 1) := by decide +kernel
theorem dX11_made_135 : decode cX11_made 135 = .ok (.getfield 44, 3) := by decide +kernel
theorem dX11_made_138 : decode cX11_made 138 = .ok (.invokespecial 311, 3) := by decide +kernel
theorem dX11_made_141 : decode cX11_made 141 = .ok (.areturn, 1) := by decide +kernel
theorem dX11_made_142 : decode cX11_made 142 = .ok (.new 139, 3) := by decide +kernel
theorem dX11_made_145 : decode cX11_made 145 = .ok (.dup, 1) := by decide +kernel
theorem dX11_made_146 : decode cX11_made 146 = .ok (.iload_n 1, 1) := by decide +kernel
theorem dX11_made_147 : decode cX11_made 147 = .ok (.iload_n 2, 1) := by decide +kernel
theorem dX11_made_148 : decode cX11_made 148 = .ok (.iload_n 3, 1) := by decide +kernel
theorem dX11_made_149 : decode cX11_made 149 = .ok (.iload 4, 2) := by decide +kernel
theorem dX11_made_151 : decode cX11_made 151 = .ok (.aload_n 0, 1) := by decide +kernel
theorem dX11_made_152 : decode cX11_made 152 = .ok (.getfield 44, 3) := by decide +kernel
theorem dX11_made_155 : decode cX11_made 155 = .ok (.invokespecial 312, 3) := by decide +kernel
theorem dX11_made_158 : decode cX11_made 158 = .ok (.areturn, 1) := by decide +kernel
theorem dX11_mayGo_0 : decode cX11_mayGo 0 = .ok (.aload_n 0, 1) := by decide +kernel
theorem dX11_mayGo_1 : decode cX11_mayGo 1 = .ok (.getfield 21, 3) := by decide +kernel
theorem dX11_mayGo_4 : decode cX11_mayGo 4 = .ok (.getfield 77, 3) := by decide +kernel
theorem dX11_mayGo_7 : decode cX11_mayGo 7 = .ok (.astore_n 2, 1) := by decide +kernel
theorem dX11_mayGo_8 : decode cX11_mayGo 8 = .ok (.aload_n 0, 1) := by decide +kernel
theorem dX11_mayGo_9 : decode cX11_mayGo 9 = .ok (.getfield 10, 3) := by decide +kernel
theorem dX11_mayGo_12 : decode cX11_mayGo 12 = .ok (.aload_n 0, 1) := by decide +kernel
theorem dX11_mayGo_13 : decode cX11_mayGo 13 = .ok (.getfield 21, 3) := by decide +kernel
theorem dX11_mayGo_16 : decode cX11_mayGo 16 = .ok (.iconst 1, 1) := by decide +kernel
theorem dX11_mayGo_17 : decode cX11_mayGo 17 = .ok (.invokevirtual 169, 3) := by decide +kernel
theorem dX11_mayGo_20 : decode cX11_mayGo 20 = .ok (.iconst 1, 1) := by decide +kernel
theorem dX11_mayGo_21 : decode cX11_mayGo 21 = .ok (.iload_n 1, 1) := by decide +kernel
theorem dX11_mayGo_22 : decode cX11_mayGo 22 = .ok (.aload_n 2, 1) := by decide +kernel
theorem dX11_mayGo_23 : decode cX11_mayGo 23 = .ok (.bipush 7, 2) := by decide +kernel
theorem dX11_mayGo_25 : decode cX11_mayGo 25 = .ok (.invokevirtual 81, 3) := by decide +kernel
theorem dX11_mayGo_28 : decode cX11_mayGo 28 = .ok (.aload_n 2, 1) := by decide +kernel
theorem dX11_mayGo_29 : decode cX11_mayGo 29 = .ok (.bipush 8, 2) := by decide +kernel
theorem dX11_mayGo_31 : decode cX11_mayGo 31 = .ok (.invokevirtual 81, 3) := by decide +kernel
theorem dX11_mayGo_34 : decode cX11_mayGo 34 = .ok (.aload_n 0, 1) := by decide +kernel
theorem dX11_mayGo_35 : decode cX11_mayGo 35 = .ok (.getfield 21, 3) := by decide +kernel
theorem dX11_mayGo_38 : decode cX11_mayGo 38 = .ok (.getfield 184, 3) := by decide +kernel
theorem dX11_mayGo_41 : decode cX11_mayGo 41 = .ok (.invokevirtual 180, 3) := by decide +kernel
theorem dX11_mayGo_44 : decode cX11_mayGo 44 = .ok (.ifCond .eq 7, 3) := by decide +kernel
theorem dX11_mayGo_47 : decode cX11_mayGo 47 = .ok (.iconst 1, 1) := by decide +kernel
theorem dX11_mayGo_48 : decode cX11_mayGo 48 = .ok (.goto 4, 3) := by decide +kernel
theorem dX11_mayGo_51 : decode cX11_mayGo 51 = .ok (.iconst 0, 1) := by decide +kernel
theorem dX11_mayGo_52 : decode cX11_mayGo 52 = .ok (.ireturn, 1) := by decide +kernel
theorem dX11_most_0 : decode cX11_most 0 = .ok (.aload_n 0, 1) := by decide +kernel
theorem dX11_most_1 : decode cX11_most 1 = .ok (.getfield 21, 3) := by decide +kernel
theorem dX11_most_4 : decode cX11_most 4 = .ok (.getfield 77, 3) := by decide +kernel
theorem dX11_most_7 : decode cX11_most 7 = .ok (.iconst 0, 1) := by decide +kernel
theorem dX11_most_8 : decode cX11_most 8 = .ok (.invokevirtual 81, 3) := by decide +kernel
theorem dX11_most_11 : decode cX11_most 11 = .ok (.iconst 2, 1) := by decide +kernel
theorem dX11_most_12 : decode cX11_most 12 = .ok (.idiv, 1) := by decide +kernel
theorem dX11_most_13 : decode cX11_most 13 = .ok (.istore_n 1, 1) := by decide +kernel
theorem dX11_most_14 : decode cX11_most 14 = .ok (.sipush 300, 3) := by decide +kernel
theorem dX11_most_17 : decode cX11_most 17 = .ok (.istore_n 2, 1) := by decide +kernel
theorem dX11_most_18 : decode cX11_most 18 = .ok (.iload_n 2, 1) := by decide +kernel
theorem dX11_most_19 : decode cX11_most 19 = .ok (.ifCond .lt 37, 3) := by decide +kernel
theorem dX11_most_22 : decode cX11_most 22 = .ok (.aload_n 0, 1) := by decide +kernel
theorem dX11_most_23 : decode cX11_most 23 = .ok (.getfield 21, 3) := by decide +kernel
theorem dX11_most_26 : decode cX11_most 26 = .ok (.getfield 77, 3) := by decide +kernel
theorem dX11_most_29 : decode cX11_most 29 = .ok (.iload_n 1, 1) := by decide +kernel
theorem dX11_most_30 : decode cX11_most 30 = .ok (.iload_n 2, 1) := by decide +kernel
theorem dX11_most_31 : decode cX11_most 31 = .ok (.invokevirtual 101, 3) := by decide +kernel
theorem dX11_most_34 : decode cX11_most 34 = .ok (.aload_n 0, 1) := by decide +kernel
theorem dX11_most_35 : decode cX11_most 35 = .ok (.getfield 21, 3) := by decide +kernel
theorem dX11_most_38 : decode cX11_most 38 = .ok (.getfield 77, 3) := by decide +kernel
theorem dX11_most_41 : decode cX11_most 41 = .ok (.iconst 5, 1) := by decide +kernel
theorem dX11_most_42 : decode cX11_most 42 = .ok (.invokevirtual 81, 3) := by decide +kernel
theorem dX11_most_45 : decode cX11_most 45 = .ok (.if_icmp .gt 5, 3) := by decide +kernel
theorem dX11_most_48 : decode cX11_most 48 = .ok (.iload_n 2, 1) := by decide +kernel
theorem dX11_most_49 : decode cX11_most 49 = .ok (.ireturn, 1) := by decide +kernel
theorem dX11_most_50 : decode cX11_most 50 = .ok (.iinc 2 (-1), 3) := by decide +kernel
theorem dX11_most_53 : decode cX11_most 53 = .ok (.goto (-35), 3) := by decide +kernel
theorem dX11_most_56 : decode cX11_most 56 = .ok (.aload_n 0, 1) := by decide +kernel
theorem dX11_most_57 : decode cX11_most 57 = .ok (.iconst 2, 1) := by decide +kernel
theorem dX11_most_58 : decode cX11_most 58 = .ok (.invokevirtual 73, 3) := by decide +kernel
theorem dX11_most_61 : decode cX11_most 61 = .ok (.ireturn, 1) := by decide +kernel
theorem dX11_move_0 : decode cX11_move 0 = .ok (.iload_n 1, 1) := by decide +kernel
theorem dX11_move_1 : decode cX11_move 1 = .ok (.iconst 0, 1) := by decide +kernel
theorem dX11_move_2 : decode cX11_move 2 = .ok (.iconst 3, 1) := by decide +kernel
theorem dX11_move_3 : decode cX11_move 3 = .ok (.invokestatic 108, 3) := by decide +kernel
theorem dX11_move_6 : decode cX11_move 6 = .ok (.ifCond .eq 12, 3) := by decide +kernel
theorem dX11_move_9 : decode cX11_move 9 = .ok (.iload_n 3, 1) := by decide +kernel
theorem dX11_move_10 : decode cX11_move 10 = .ok (.iconst 0, 1) := by decide +kernel
theorem dX11_move_11 : decode cX11_move 11 = .ok (.iconst 3, 1) := by decide +kernel
theorem dX11_move_12 : decode cX11_move 12 = .ok (.invokestatic 108, 3) := by decide +kernel
theorem dX11_move_15 : decode cX11_move 15 = .ok (.ifCond .ne 9, 3) := by decide +kernel
theorem dX11_move_18 : decode cX11_move 18 = .ok (.aload_n 0, 1) := by decide +kernel
theorem dX11_move_19 : decode cX11_move 19 = .ok (.iconst 1, 1) := by decide +kernel
theorem dX11_move_20 : decode cX11_move 20 = .ok (.invokevirtual 73, 3) := by decide +kernel
theorem dX11_move_23 : decode cX11_move 23 = .ok (.ireturn, 1) := by decide +kernel
theorem dX11_move_24 : decode cX11_move 24 = .ok (.aload_n 0, 1) := by decide +kernel
theorem dX11_move_25 : decode cX11_move 25 = .ok (.getfield 52, 3) := by decide +kernel
theorem dX11_move_28 : decode cX11_move 28 = .ok (.iload_n 1, 1) := by decide +kernel
theorem dX11_move_29 : decode cX11_move 29 = .ok (.iaload, 1) := by decide +kernel
theorem dX11_move_30 : decode cX11_move 30 = .ok (.ifCond .eq 12, 3) := by decide +kernel
theorem dX11_move_33 : decode cX11_move 33 = .ok (.aload_n 0, 1) := by decide +kernel
theorem dX11_move_34 : decode cX11_move 34 = .ok (.getfield 52, 3) := by decide +kernel
theorem dX11_move_37 : decode cX11_move 37 = .ok (.iload_n 3, 1) := by decide +kernel
theorem dX11_move_38 : decode cX11_move 38 = .ok (.iaload, 1) := by decide +kernel
theorem dX11_move_39 : decode cX11_move 39 = .ok (.ifCond .ne 9, 3) := by decide +kernel
theorem dX11_move_42 : decode cX11_move 42 = .ok (.aload_n 0, 1) := by decide +kernel
theorem dX11_move_43 : decode cX11_move 43 = .ok (.iconst 2, 1) := by decide +kernel
theorem dX11_move_44 : decode cX11_move 44 = .ok (.invokevirtual 73, 3) := by decide +kernel
theorem dX11_move_47 : decode cX11_move 47 = .ok (.ireturn, 1) := by decide +kernel
theorem dX11_move_48 : decode cX11_move 48 = .ok (.aload_n 0, 1) := by decide +kernel
theorem dX11_move_49 : decode cX11_move 49 = .ok (.getfield 52, 3) := by decide +kernel
theorem dX11_move_52 : decode cX11_move 52 = .ok (.iload_n 1, 1) := by decide +kernel
theorem dX11_move_53 : decode cX11_move 53 = .ok (.iaload, 1) := by decide +kernel
theorem dX11_move_54 : decode cX11_move 54 = .ok (.aload_n 0, 1) := by decide +kernel
theorem dX11_move_55 : decode cX11_move 55 = .ok (.getfield 52, 3) := by decide +kernel
theorem dX11_move_58 : decode cX11_move 58 = .ok (.iload_n 3, 1) := by decide +kernel
theorem dX11_move_59 : decode cX11_move 59 = .ok (.iaload, 1) := by decide +kernel
theorem dX11_move_60 : decode cX11_move 60 = .ok (.if_icmp .eq 9, 3) := by decide +kernel
theorem dX11_move_63 : decode cX11_move 63 = .ok (.aload_n 0, 1) := by decide +kernel
theorem dX11_move_64 : decode cX11_move 64 = .ok (.iconst 5, 1) := by decide +kernel
theorem dX11_move_65 : decode cX11_move 65 = .ok (.invokevirtual 73, 3) := by decide +kernel
theorem dX11_move_68 : decode cX11_move 68 = .ok (.ireturn, 1) := by decide +kernel
theorem dX11_move_69 : decode cX11_move 69 = .ok (.aload_n 0, 1) := by decide +kernel
theorem dX11_move_70 : decode cX11_move 70 = .ok (.getfield 48, 3) := by decide +kernel
theorem dX11_move_73 : decode cX11_move 73 = .ok (.iload_n 1, 1) := by decide +kernel
theorem dX11_move_74 : decode cX11_move 74 = .ok (.aaload, 1) := by decide +kernel
theorem dX11_move_75 : decode cX11_move 75 = .ok (.iload_n 2, 1) := by decide +kernel
theorem dX11_move_76 : decode cX11_move 76 = .ok (.iload 5, 2) := by decide +kernel
theorem dX11_move_78 : decode cX11_move 78 = .ok (.invokevirtual 265, 3) := by decide +kernel
theorem dX11_move_81 : decode cX11_move 81 = .ok (.ifCond .eq 19, 3) := by decide +kernel
theorem dX11_move_84 : decode cX11_move 84 = .ok (.aload_n 0, 1) := by decide +kernel
theorem dX11_move_85 : decode cX11_move 85 = .ok (.getfield 48, 3) := by decide +kernel
theorem dX11_move_88 : decode cX11_move 88 = .ok (.iload_n 3, 1) := by decide +kernel
theorem dX11_move_89 : decode cX11_move 89 = .ok (.aaload, 1) := by decide +kernel
theorem dX11_move_90 : decode cX11_move 90 = .ok (.iload 4, 2) := by decide +kernel
theorem dX11_move_92 : decode cX11_move 92 = .ok (.iload 5, 2) := by decide +kernel
theorem dX11_move_94 : decode cX11_move 94 = .ok (.invokevirtual 265, 3) := by decide +kernel
theorem dX11_move_97 : decode cX11_move 97 = .ok (.ifCond .ne 9, 3) := by decide +kernel
theorem dX11_move_100 : decode cX11_move 100 = .ok (.aload_n 0, 1) := by decide +kernel
theorem dX11_move_101 : decode cX11_move 101 = .ok (.iconst 1, 1) := by decide +kernel
theorem dX11_move_102 : decode cX11_move 102 = .ok (.invokevirtual 73, 3) := by decide +kernel
theorem dX11_move_105 : decode cX11_move 105 = .ok (.ireturn, 1) := by decide +kernel
theorem dX11_move_106 : decode cX11_move 106 = .ok (.aload_n 0, 1) := by decide +kernel
theorem dX11_move_107 : decode cX11_move 107 = .ok (.getfield 48, 3) := by decide +kernel
theorem dX11_move_110 : decode cX11_move 110 = .ok (.iload_n 1, 1) := by decide +kernel
theorem dX11_move_111 : decode cX11_move 111 = .ok (.aaload, 1) := by decide +kernel
theorem dX11_move_112 : decode cX11_move 112 = .ok (.getfield 268, 3) := by decide +kernel
theorem dX11_move_115 : decode cX11_move 115 = .ok (.iload_n 2, 1) := by decide +kernel
theorem dX11_move_116 : decode cX11_move 116 = .ok (.aload_n 0, 1) := by decide +kernel
theorem dX11_move_117 : decode cX11_move 117 = .ok (.getfield 48, 3) := by decide +kernel
theorem dX11_move_120 : decode cX11_move 120 = .ok (.iload_n 3, 1) := by decide +kernel
theorem dX11_move_121 : decode cX11_move 121 = .ok (.aaload, 1) := by decide +kernel
theorem dX11_move_122 : decode cX11_move 122 = .ok (.getfield 268, 3) := by decide +kernel
theorem dX11_move_125 : decode cX11_move 125 = .ok (.iload 4, 2) := by decide +kernel
theorem dX11_move_127 : decode cX11_move 127 = .ok (.iload 5, 2) := by decide +kernel
theorem dX11_move_129 : decode cX11_move 129 = .ok (.invokestatic 271, 3) := by decide +kernel
theorem dX11_move_132 : decode cX11_move 132 = .ok (.iload 5, 2) := by decide +kernel
theorem dX11_move_134 : decode cX11_move 134 = .ok (.ireturn, 1) := by decide +kernel
theorem dX11_nextOf_0 : decode cX11_nextOf 0 = .ok (.iconst 0, 1) := by decide +kernel
theorem dX11_nextOf_1 : decode cX11_nextOf 1 = .ok (.istore_n 3, 1) := by decide +kernel
theorem dX11_nextOf_2 : decode cX11_nextOf 2 = .ok (.iload_n 3, 1) := by decide +kernel
theorem dX11_nextOf_3 : decode cX11_nextOf 3 = .ok (.aload_n 0, 1) := by decide +kernel
theorem dX11_nextOf_4 : decode cX11_nextOf 4 = .ok (.getfield 21, 3) := by decide +kernel
theorem dX11_nextOf_7 : decode cX11_nextOf 7 = .ok (.getfield 213, 3) := by decide +kernel
theorem dX11_nextOf_10 : decode cX11_nextOf 10 = .ok (.getfield 159, 3) := by decide +kernel
theorem dX11_nextOf_13 : decode cX11_nextOf 13 = .ok (.if_icmp .ge 30, 3) := by decide +kernel
theorem dX11_nextOf_16 : decode cX11_nextOf 16 = .ok (.aload_n 0, 1) := by decide +kernel
theorem dX11_nextOf_17 : decode cX11_nextOf 17 = .ok (.getfield 55, 3) := by decide +kernel
theorem dX11_nextOf_20 : decode cX11_nextOf 20 = .ok (.iload_n 3, 1) := by decide +kernel
theorem dX11_nextOf_21 : decode cX11_nextOf 21 = .ok (.iaload, 1) := by decide +kernel
theorem dX11_nextOf_22 : decode cX11_nextOf 22 = .ok (.iload_n 2, 1) := by decide +kernel
theorem dX11_nextOf_23 : decode cX11_nextOf 23 = .ok (.if_icmp .ne 14, 3) := by decide +kernel
theorem dX11_nextOf_26 : decode cX11_nextOf 26 = .ok (.aload_n 0, 1) := by decide +kernel
theorem dX11_nextOf_27 : decode cX11_nextOf 27 = .ok (.iload_n 1, 1) := by decide +kernel
theorem dX11_nextOf_28 : decode cX11_nextOf 28 = .ok (.iload_n 3, 1) := by decide +kernel
theorem dX11_nextOf_29 : decode cX11_nextOf 29 = .ok (.invokevirtual 326, 3) := by decide +kernel
theorem dX11_nextOf_32 : decode cX11_nextOf 32 = .ok (.ifCond .eq 5, 3) := by decide +kernel
theorem dX11_nextOf_35 : decode cX11_nextOf 35 = .ok (.iload_n 3, 1) := by decide +kernel
theorem dX11_nextOf_36 : decode cX11_nextOf 36 = .ok (.ireturn, 1) := by decide +kernel
theorem dX11_nextOf_37 : decode cX11_nextOf 37 = .ok (.iinc 3 1, 3) := by decide +kernel
theorem dX11_nextOf_40 : decode cX11_nextOf 40 = .ok (.goto (-38), 3) := by decide +kernel
theorem dX11_nextOf_43 : decode cX11_nextOf 43 = .ok (.iconst (-1), 1) := by decide +kernel
theorem dX11_nextOf_44 : decode cX11_nextOf 44 = .ok (.ireturn, 1) := by decide +kernel
theorem dX11_ofRide_0 : decode cX11_ofRide 0 = .ok (.iload_n 2, 1) := by decide +kernel
theorem dX11_ofRide_1 : decode cX11_ofRide 1 = .ok (.iconst 0, 1) := by decide +kernel
theorem dX11_ofRide_2 : decode cX11_ofRide 2 = .ok (.bipush 8, 2) := by decide +kernel
theorem dX11_ofRide_4 : decode cX11_ofRide 4 = .ok (.invokestatic 108, 3) := by decide +kernel
theorem dX11_ofRide_7 : decode cX11_ofRide 7 = .ok (.ifCond .eq 14, 3) := by decide +kernel
theorem dX11_ofRide_10 : decode cX11_ofRide 10 = .ok (.aload_n 0, 1) := by decide +kernel
theorem dX11_ofRide_11 : decode cX11_ofRide 11 = .ok (.getfield 21, 3) := by decide +kernel
theorem dX11_ofRide_14 : decode cX11_ofRide 14 = .ok (.iload_n 1, 1) := by decide +kernel
theorem dX11_ofRide_15 : decode cX11_ofRide 15 = .ok (.invokevirtual 127, 3) := by decide +kernel
theorem dX11_ofRide_18 : decode cX11_ofRide 18 = .ok (.ifnonnull 9, 3) := by decide +kernel
theorem dX11_ofRide_21 : decode cX11_ofRide 21 = .ok (.aload_n 0, 1) := by decide +kernel
theorem dX11_ofRide_22 : decode cX11_ofRide 22 = .ok (.iconst 1, 1) := by decide +kernel
theorem dX11_ofRide_23 : decode cX11_ofRide 23 = .ok (.invokevirtual 73, 3) := by decide +kernel
theorem dX11_ofRide_26 : decode cX11_ofRide 26 = .ok (.ireturn, 1) := by decide +kernel
theorem dX11_ofRide_27 : decode cX11_ofRide 27 = .ok (.aload_n 0, 1) := by decide +kernel
theorem dX11_ofRide_28 : decode cX11_ofRide 28 = .ok (.getfield 21, 3) := by decide +kernel
theorem dX11_ofRide_31 : decode cX11_ofRide 31 = .ok (.iload_n 1, 1) := by decide +kernel
theorem dX11_ofRide_32 : decode cX11_ofRide 32 = .ok (.iload_n 2, 1) := by decide +kernel
theorem dX11_ofRide_33 : decode cX11_ofRide 33 = .ok (.invokevirtual 131, 3) := by decide +kernel
theorem dX11_ofRide_36 : decode cX11_ofRide 36 = .ok (.ireturn, 1) := by decide +kernel
theorem dX11_order_0 : decode cX11_order 0 = .ok (.iload_n 1, 1) := by decide +kernel
theorem dX11_order_1 : decode cX11_order 1 = .ok (.iconst (-1), 1) := by decide +kernel
theorem dX11_order_2 : decode cX11_order 2 = .ok (.if_icmp .ge 9, 3) := by decide +kernel
theorem dX11_order_5 : decode cX11_order 5 = .ok (.aload_n 0, 1) := by decide +kernel
theorem dX11_order_6 : decode cX11_order 6 = .ok (.iconst 1, 1) := by decide +kernel
theorem dX11_order_7 : decode cX11_order 7 = .ok (.invokevirtual 73, 3) := by decide +kernel
theorem dX11_order_10 : decode cX11_order 10 = .ok (.ireturn, 1) := by decide +kernel
theorem dX11_order_11 : decode cX11_order 11 = .ok (.iload_n 1, 1) := by decide +kernel
theorem dX11_order_12 : decode cX11_order 12 = .ok (.aload_n 0, 1) := by decide +kernel
theorem dX11_order_13 : decode cX11_order 13 = .ok (.getfield 21, 3) := by decide +kernel
theorem dX11_order_16 : decode cX11_order 16 = .ok (.getfield 232, 3) := by decide +kernel
theorem dX11_order_19 : decode cX11_order 19 = .ok (.getfield 159, 3) := by decide +kernel
theorem dX11_order_22 : decode cX11_order 22 = .ok (.if_icmp .lt 9, 3) := by decide +kernel
theorem dX11_order_25 : decode cX11_order 25 = .ok (.aload_n 0, 1) := by decide +kernel
theorem dX11_order_26 : decode cX11_order 26 = .ok (.iconst 2, 1) := by decide +kernel
theorem dX11_order_27 : decode cX11_order 27 = .ok (.invokevirtual 73, 3) := by decide +kernel
theorem dX11_order_30 : decode cX11_order 30 = .ok (.ireturn, 1) := by decide +kernel
theorem dX11_order_31 : decode cX11_order 31 = .ok (.aload_n 0, 1) := by decide +kernel
theorem dX11_order_32 : decode cX11_order 32 = .ok (.ldc 238, 2) := by decide +kernel
theorem dX11_order_34 : decode cX11_order 34 = .ok (.putfield 64, 3) := by decide +kernel
theorem dX11_order_37 : decode cX11_order 37 = .ok (.aload_n 0, 1) := by decide +kernel
theorem dX11_order_38 : decode cX11_order 38 = .ok (.iconst 0, 1) := by decide +kernel
theorem dX11_order_39 : decode cX11_order 39 = .ok (.iconst 0, 1) := by decide +kernel
theorem dX11_order_40 : decode cX11_order 40 = .ok (.iconst 0, 1) := by decide +kernel
theorem dX11_order_41 : decode cX11_order 41 = .ok (.iconst 0, 1) := by decide +kernel
theorem dX11_order_42 : decode cX11_order 42 = .ok (.invokevirtual 239, 3) := by decide +kernel
theorem dX11_order_45 : decode cX11_order 45 = .ok (.iload_n 1, 1) := by decide +kernel
theorem dX11_order_46 : decode cX11_order 46 = .ok (.iconst (-1), 1) := by decide +kernel
theorem dX11_order_47 : decode cX11_order 47 = .ok (.if_icmp .ne 10, 3) := by decide +kernel
theorem dX11_order_50 : decode cX11_order 50 = .ok (.aload_n 0, 1) := by decide +kernel
theorem dX11_order_51 : decode cX11_order 51 = .ok (.getfield 64, 3) := by decide +kernel
theorem dX11_order_54 : decode cX11_order 54 = .ok (.goto 9, 3) := by decide +kernel
theorem dX11_order_57 : decode cX11_order 57 = .ok (.aload_n 0, 1) := by decide +kernel
theorem dX11_order_58 : decode cX11_order 58 = .ok (.getfield 61, 3) := by decide +kernel
theorem dX11_order_61 : decode cX11_order 61 = .ok (.iload_n 1, 1) := by decide +kernel
theorem dX11_order_62 : decode cX11_order 62 = .ok (.iaload, 1) := by decide +kernel
theorem dX11_order_63 : decode cX11_order 63 = .ok (.ireturn, 1) := by decide +kernel
theorem dX11_over_0 : decode cX11_over 0 = .ok (.iload_n 1, 1) := by decide +kernel
theorem dX11_over_1 : decode cX11_over 1 = .ok (.iconst 0, 1) := by decide +kernel
theorem dX11_over_2 : decode cX11_over 2 = .ok (.aload_n 0, 1) := by decide +kernel
theorem dX11_over_3 : decode cX11_over 3 = .ok (.getfield 21, 3) := by decide +kernel
theorem dX11_over_6 : decode cX11_over 6 = .ok (.getfield 213, 3) := by decide +kernel
theorem dX11_over_9 : decode cX11_over 9 = .ok (.getfield 159, 3) := by decide +kernel
theorem dX11_over_12 : decode cX11_over 12 = .ok (.iconst 1, 1) := by decide +kernel
theorem dX11_over_13 : decode cX11_over 13 = .ok (.isub, 1) := by decide +kernel
theorem dX11_over_14 : decode cX11_over 14 = .ok (.invokestatic 108, 3) := by decide +kernel
theorem dX11_over_17 : decode cX11_over 17 = .ok (.ifCond .eq 8, 3) := by decide +kernel
theorem dX11_over_20 : decode cX11_over 20 = .ok (.iload_n 2, 1) := by decide +kernel
theorem dX11_over_21 : decode cX11_over 21 = .ok (.iconst (-1), 1) := by decide +kernel
theorem dX11_over_22 : decode cX11_over 22 = .ok (.if_icmp .ge 9, 3) := by decide +kernel
theorem dX11_over_25 : decode cX11_over 25 = .ok (.aload_n 0, 1) := by decide +kernel
theorem dX11_over_26 : decode cX11_over 26 = .ok (.iconst 1, 1) := by decide +kernel
theorem dX11_over_27 : decode cX11_over 27 = .ok (.invokevirtual 73, 3) := by decide +kernel
theorem dX11_over_30 : decode cX11_over 30 = .ok (.ireturn, 1) := by decide +kernel
theorem dX11_over_31 : decode cX11_over 31 = .ok (.aload_n 0, 1) := by decide +kernel
theorem dX11_over_32 : decode cX11_over 32 = .ok (.iload_n 1, 1) := by decide +kernel
theorem dX11_over_33 : decode cX11_over 33 = .ok (.invokevirtual 226, 3) := by decide +kernel
theorem dX11_over_36 : decode cX11_over 36 = .ok (.aload_n 0, 1) := by decide +kernel
theorem dX11_over_37 : decode cX11_over 37 = .ok (.getfield 55, 3) := by decide +kernel
theorem dX11_over_40 : decode cX11_over 40 = .ok (.iconst 0, 1) := by decide +kernel
theorem dX11_over_41 : decode cX11_over 41 = .ok (.iaload, 1) := by decide +kernel
theorem dX11_over_42 : decode cX11_over 42 = .ok (.ifCond .eq 13, 3) := by decide +kernel
theorem dX11_over_45 : decode cX11_over 45 = .ok (.iload_n 2, 1) := by decide +kernel
theorem dX11_over_46 : decode cX11_over 46 = .ok (.aload_n 0, 1) := by decide +kernel
theorem dX11_over_47 : decode cX11_over 47 = .ok (.getfield 55, 3) := by decide +kernel
theorem dX11_over_50 : decode cX11_over 50 = .ok (.iconst 0, 1) := by decide +kernel
theorem dX11_over_51 : decode cX11_over 51 = .ok (.iaload, 1) := by decide +kernel
theorem dX11_over_52 : decode cX11_over 52 = .ok (.if_icmp .lt 9, 3) := by decide +kernel
theorem dX11_over_55 : decode cX11_over 55 = .ok (.aload_n 0, 1) := by decide +kernel
theorem dX11_over_56 : decode cX11_over 56 = .ok (.iconst 2, 1) := by decide +kernel
theorem dX11_over_57 : decode cX11_over 57 = .ok (.invokevirtual 73, 3) := by decide +kernel
theorem dX11_over_60 : decode cX11_over 60 = .ok (.ireturn, 1) := by decide +kernel
theorem dX11_over_61 : decode cX11_over 61 = .ok (.iload_n 2, 1) := by decide +kernel
theorem dX11_over_62 : decode cX11_over 62 = .ok (.iconst (-1), 1) := by decide +kernel
theorem dX11_over_63 : decode cX11_over 63 = .ok (.if_icmp .ne 12, 3) := by decide +kernel
theorem dX11_over_66 : decode cX11_over 66 = .ok (.aload_n 0, 1) := by decide +kernel
theorem dX11_over_67 : decode cX11_over 67 = .ok (.getfield 55, 3) := by decide +kernel
theorem dX11_over_70 : decode cX11_over 70 = .ok (.iconst 0, 1) := by decide +kernel
theorem dX11_over_71 : decode cX11_over 71 = .ok (.iaload, 1) := by decide +kernel
theorem dX11_over_72 : decode cX11_over 72 = .ok (.goto 8, 3) := by decide +kernel
theorem dX11_over_75 : decode cX11_over 75 = .ok (.aload_n 0, 1) := by decide +kernel
theorem dX11_over_76 : decode cX11_over 76 = .ok (.iload_n 2, 1) := by decide +kernel
theorem dX11_over_77 : decode cX11_over 77 = .ok (.invokevirtual 229, 3) := by decide +kernel
theorem dX11_over_80 : decode cX11_over 80 = .ok (.ireturn, 1) := by decide +kernel
theorem dX11_pulled_0 : decode cX11_pulled 0 = .ok (.aload_n 0, 1) := by decide +kernel
theorem dX11_pulled_1 : decode cX11_pulled 1 = .ok (.iload_n 1, 1) := by decide +kernel
theorem dX11_pulled_2 : decode cX11_pulled 2 = .ok (.iload_n 2, 1) := by decide +kernel
theorem dX11_pulled_3 : decode cX11_pulled 3 = .ok (.invokevirtual 91, 3) := by decide +kernel
theorem dX11_pulled_6 : decode cX11_pulled 6 = .ok (.ifCond .eq 18, 3) := by decide +kernel
theorem dX11_pulled_9 : decode cX11_pulled 9 = .ok (.aload_n 0, 1) := by decide +kernel
theorem dX11_pulled_10 : decode cX11_pulled 10 = .ok (.getfield 21, 3) := by decide +kernel
theorem dX11_pulled_13 : decode cX11_pulled 13 = .ok (.getfield 77, 3) := by decide +kernel
theorem dX11_pulled_16 : decode cX11_pulled 16 = .ok (.iload_n 1, 1) := by decide +kernel
theorem dX11_pulled_17 : decode cX11_pulled 17 = .ok (.iload_n 2, 1) := by decide +kernel
theorem dX11_pulled_18 : decode cX11_pulled 18 = .ok (.invokevirtual 101, 3) := by decide +kernel
theorem dX11_pulled_21 : decode cX11_pulled 21 = .ok (.goto 8, 3) := by decide +kernel
theorem dX11_pulled_24 : decode cX11_pulled 24 = .ok (.aload_n 0, 1) := by decide +kernel
theorem dX11_pulled_25 : decode cX11_pulled 25 = .ok (.iconst 1, 1) := by decide +kernel
theorem dX11_pulled_26 : decode cX11_pulled 26 = .ok (.invokevirtual 73, 3) := by decide +kernel
theorem dX11_pulled_29 : decode cX11_pulled 29 = .ok (.ireturn, 1) := by decide +kernel
theorem dX11_pulls_0 : decode cX11_pulls 0 = .ok (.aload_n 0, 1) := by decide +kernel
theorem dX11_pulls_1 : decode cX11_pulls 1 = .ok (.getfield 21, 3) := by decide +kernel
theorem dX11_pulls_4 : decode cX11_pulls 4 = .ok (.getfield 320, 3) := by decide +kernel
theorem dX11_pulls_7 : decode cX11_pulls 7 = .ok (.iload_n 2, 1) := by decide +kernel
theorem dX11_pulls_8 : decode cX11_pulls 8 = .ok (.invokevirtual 223, 3) := by decide +kernel
theorem dX11_pulls_11 : decode cX11_pulls 11 = .ok (.aload_n 0, 1) := by decide +kernel
theorem dX11_pulls_12 : decode cX11_pulls 12 = .ok (.getfield 21, 3) := by decide +kernel
theorem dX11_pulls_15 : decode cX11_pulls 15 = .ok (.getfield 77, 3) := by decide +kernel
theorem dX11_pulls_18 : decode cX11_pulls 18 = .ok (.iconst 0, 1) := by decide +kernel
theorem dX11_pulls_19 : decode cX11_pulls 19 = .ok (.invokevirtual 81, 3) := by decide +kernel
theorem dX11_pulls_22 : decode cX11_pulls 22 = .ok (.imul, 1) := by decide +kernel
theorem dX11_pulls_23 : decode cX11_pulls 23 = .ok (.bipush 10, 2) := by decide +kernel
theorem dX11_pulls_25 : decode cX11_pulls 25 = .ok (.idiv, 1) := by decide +kernel
theorem dX11_pulls_26 : decode cX11_pulls 26 = .ok (.aload_n 0, 1) := by decide +kernel
theorem dX11_pulls_27 : decode cX11_pulls 27 = .ok (.getfield 21, 3) := by decide +kernel
theorem dX11_pulls_30 : decode cX11_pulls 30 = .ok (.getfield 213, 3) := by decide +kernel
theorem dX11_pulls_33 : decode cX11_pulls 33 = .ok (.iload_n 1, 1) := by decide +kernel
theorem dX11_pulls_34 : decode cX11_pulls 34 = .ok (.invokevirtual 223, 3) := by decide +kernel
theorem dX11_pulls_37 : decode cX11_pulls 37 = .ok (.if_icmp .gt 7, 3) := by decide +kernel
theorem dX11_pulls_40 : decode cX11_pulls 40 = .ok (.iconst 1, 1) := by decide +kernel
theorem dX11_pulls_41 : decode cX11_pulls 41 = .ok (.goto 4, 3) := by decide +kernel
theorem dX11_pulls_44 : decode cX11_pulls 44 = .ok (.iconst 0, 1) := by decide +kernel
theorem dX11_pulls_45 : decode cX11_pulls 45 = .ok (.ireturn, 1) := by decide +kernel
theorem dX11_put_0 : decode cX11_put 0 = .ok (.iload_n 1, 1) := by decide +kernel
theorem dX11_put_1 : decode cX11_put 1 = .ok (.iconst 0, 1) := by decide +kernel
theorem dX11_put_2 : decode cX11_put 2 = .ok (.iconst 3, 1) := by decide +kernel
theorem dX11_put_3 : decode cX11_put 3 = .ok (.invokestatic 108, 3) := by decide +kernel
theorem dX11_put_6 : decode cX11_put 6 = .ok (.ifCond .ne 9, 3) := by decide +kernel
theorem dX11_put_9 : decode cX11_put 9 = .ok (.aload_n 0, 1) := by decide +kernel
theorem dX11_put_10 : decode cX11_put 10 = .ok (.iconst 1, 1) := by decide +kernel
theorem dX11_put_11 : decode cX11_put 11 = .ok (.invokevirtual 73, 3) := by decide +kernel
theorem dX11_put_14 : decode cX11_put 14 = .ok (.ireturn, 1) := by decide +kernel
theorem dX11_put_15 : decode cX11_put 15 = .ok (.aload_n 0, 1) := by decide +kernel
theorem dX11_put_16 : decode cX11_put 16 = .ok (.getfield 52, 3) := by decide +kernel
theorem dX11_put_19 : decode cX11_put 19 = .ok (.iload_n 1, 1) := by decide +kernel
theorem dX11_put_20 : decode cX11_put 20 = .ok (.iaload, 1) := by decide +kernel
theorem dX11_put_21 : decode cX11_put 21 = .ok (.ifCond .ne 9, 3) := by decide +kernel
theorem dX11_put_24 : decode cX11_put 24 = .ok (.aload_n 0, 1) := by decide +kernel
theorem dX11_put_25 : decode cX11_put 25 = .ok (.iconst 2, 1) := by decide +kernel
theorem dX11_put_26 : decode cX11_put 26 = .ok (.invokevirtual 73, 3) := by decide +kernel
theorem dX11_put_29 : decode cX11_put 29 = .ok (.ireturn, 1) := by decide +kernel
theorem dX11_put_30 : decode cX11_put 30 = .ok (.iload_n 2, 1) := by decide +kernel
theorem dX11_put_31 : decode cX11_put 31 = .ok (.iconst 0, 1) := by decide +kernel
theorem dX11_put_32 : decode cX11_put 32 = .ok (.aload_n 0, 1) := by decide +kernel
theorem dX11_put_33 : decode cX11_put 33 = .ok (.getfield 48, 3) := by decide +kernel
theorem dX11_put_36 : decode cX11_put 36 = .ok (.iload_n 1, 1) := by decide +kernel
theorem dX11_put_37 : decode cX11_put 37 = .ok (.aaload, 1) := by decide +kernel
theorem dX11_put_38 : decode cX11_put 38 = .ok (.getfield 159, 3) := by decide +kernel
theorem dX11_put_41 : decode cX11_put 41 = .ok (.iconst 1, 1) := by decide +kernel
theorem dX11_put_42 : decode cX11_put 42 = .ok (.isub, 1) := by decide +kernel
theorem dX11_put_43 : decode cX11_put 43 = .ok (.invokestatic 108, 3) := by decide +kernel
theorem dX11_put_46 : decode cX11_put 46 = .ok (.ifCond .ne 9, 3) := by decide +kernel
theorem dX11_put_49 : decode cX11_put 49 = .ok (.aload_n 0, 1) := by decide +kernel
theorem dX11_put_50 : decode cX11_put 50 = .ok (.iconst 1, 1) := by decide +kernel
theorem dX11_put_51 : decode cX11_put 51 = .ok (.invokevirtual 73, 3) := by decide +kernel
theorem dX11_put_54 : decode cX11_put 54 = .ok (.ireturn, 1) := by decide +kernel
theorem dX11_put_55 : decode cX11_put 55 = .ok (.aload_n 0, 1) := by decide +kernel
theorem dX11_put_56 : decode cX11_put 56 = .ok (.getfield 48, 3) := by decide +kernel
theorem dX11_put_59 : decode cX11_put 59 = .ok (.iload_n 1, 1) := by decide +kernel
theorem dX11_put_60 : decode cX11_put 60 = .ok (.aaload, 1) := by decide +kernel
theorem dX11_put_61 : decode cX11_put 61 = .ok (.iload_n 2, 1) := by decide +kernel
theorem dX11_put_62 : decode cX11_put 62 = .ok (.iload_n 3, 1) := by decide +kernel
theorem dX11_put_63 : decode cX11_put 63 = .ok (.aload_n 0, 1) := by decide +kernel
theorem dX11_put_64 : decode cX11_put 64 = .ok (.getfield 52, 3) := by decide +kernel
theorem dX11_put_67 : decode cX11_put 67 = .ok (.iload_n 1, 1) := by decide +kernel
theorem dX11_put_68 : decode cX11_put 68 = .ok (.iaload, 1) := by decide +kernel
theorem dX11_put_69 : decode cX11_put 69 = .ok (.invokestatic 261, 3) := by decide +kernel
theorem dX11_put_72 : decode cX11_put 72 = .ok (.invokevirtual 264, 3) := by decide +kernel
theorem dX11_put_75 : decode cX11_put 75 = .ok (.iconst 1, 1) := by decide +kernel
theorem dX11_put_76 : decode cX11_put 76 = .ok (.ireturn, 1) := by decide +kernel
theorem dX11_restore_0 : decode cX11_restore 0 = .ok (.aload_n 0, 1) := by decide +kernel
theorem dX11_restore_1 : decode cX11_restore 1 = .ok (.getfield 31, 3) := by decide +kernel
theorem dX11_restore_4 : decode cX11_restore 4 = .ok (.ifCond .ne 9, 3) := by decide +kernel
theorem dX11_restore_7 : decode cX11_restore 7 = .ok (.aload_n 0, 1) := by decide +kernel
theorem dX11_restore_8 : decode cX11_restore 8 = .ok (.iconst 2, 1) := by decide +kernel
theorem dX11_restore_9 : decode cX11_restore 9 = .ok (.invokevirtual 73, 3) := by decide +kernel
theorem dX11_restore_12 : decode cX11_restore 12 = .ok (.ireturn, 1) := by decide +kernel
theorem dX11_restore_13 : decode cX11_restore 13 = .ok (.aload_n 0, 1) := by decide +kernel
theorem dX11_restore_14 : decode cX11_restore 14 = .ok (.getfield 21, 3) := by decide +kernel
theorem dX11_restore_17 : decode cX11_restore 17 = .ok (.aload_n 0, 1) := by decide +kernel
theorem dX11_restore_18 : decode cX11_restore 18 = .ok (.getfield 28, 3) := by decide +kernel
theorem dX11_restore_21 : decode cX11_restore 21 = .ok (.invokevirtual 197, 3) := by decide +kernel
theorem dX11_restore_24 : decode cX11_restore 24 = .ok (.aload_n 0, 1) := by decide +kernel
theorem dX11_restore_25 : decode cX11_restore 25 = .ok (.getfield 21, 3) := by decide +kernel
theorem dX11_restore_28 : decode cX11_restore 28 = .ok (.getfield 184, 3) := by decide +kernel
theorem dX11_restore_31 : decode cX11_restore 31 = .ok (.ireturn, 1) := by decide +kernel
theorem dX11_ride_0 : decode cX11_ride 0 = .ok (.iload_n 1, 1) := by decide +kernel
theorem dX11_ride_1 : decode cX11_ride 1 = .ok (.iconst 0, 1) := by decide +kernel
theorem dX11_ride_2 : decode cX11_ride 2 = .ok (.bipush 6, 2) := by decide +kernel
theorem dX11_ride_4 : decode cX11_ride 4 = .ok (.invokestatic 108, 3) := by decide +kernel
theorem dX11_ride_7 : decode cX11_ride 7 = .ok (.ifCond .eq 24, 3) := by decide +kernel
theorem dX11_ride_10 : decode cX11_ride 10 = .ok (.iload_n 2, 1) := by decide +kernel
theorem dX11_ride_11 : decode cX11_ride 11 = .ok (.iconst 1, 1) := by decide +kernel
theorem dX11_ride_12 : decode cX11_ride 12 = .ok (.sipush 300, 3) := by decide +kernel
theorem dX11_ride_15 : decode cX11_ride 15 = .ok (.invokestatic 108, 3) := by decide +kernel
theorem dX11_ride_18 : decode cX11_ride 18 = .ok (.ifCond .eq 13, 3) := by decide +kernel
theorem dX11_ride_21 : decode cX11_ride 21 = .ok (.iload_n 3, 1) := by decide +kernel
theorem dX11_ride_22 : decode cX11_ride 22 = .ok (.iconst 0, 1) := by decide +kernel
theorem dX11_ride_23 : decode cX11_ride 23 = .ok (.bipush 99, 2) := by decide +kernel
theorem dX11_ride_25 : decode cX11_ride 25 = .ok (.invokestatic 108, 3) := by decide +kernel
theorem dX11_ride_28 : decode cX11_ride 28 = .ok (.ifCond .ne 9, 3) := by decide +kernel
theorem dX11_ride_31 : decode cX11_ride 31 = .ok (.aload_n 0, 1) := by decide +kernel
theorem dX11_ride_32 : decode cX11_ride 32 = .ok (.iconst 1, 1) := by decide +kernel
theorem dX11_ride_33 : decode cX11_ride 33 = .ok (.invokevirtual 73, 3) := by decide +kernel
theorem dX11_ride_36 : decode cX11_ride 36 = .ok (.ireturn, 1) := by decide +kernel
theorem dX11_ride_37 : decode cX11_ride 37 = .ok (.aload_n 0, 1) := by decide +kernel
theorem dX11_ride_38 : decode cX11_ride 38 = .ok (.iload_n 2, 1) := by decide +kernel
theorem dX11_ride_39 : decode cX11_ride 39 = .ok (.invokevirtual 112, 3) := by decide +kernel
theorem dX11_ride_42 : decode cX11_ride 42 = .ok (.ifCond .ne 9, 3) := by decide +kernel
theorem dX11_ride_45 : decode cX11_ride 45 = .ok (.aload_n 0, 1) := by decide +kernel
theorem dX11_ride_46 : decode cX11_ride 46 = .ok (.iconst 3, 1) := by decide +kernel
theorem dX11_ride_47 : decode cX11_ride 47 = .ok (.invokevirtual 73, 3) := by decide +kernel
theorem dX11_ride_50 : decode cX11_ride 50 = .ok (.ireturn, 1) := by decide +kernel
theorem dX11_ride_51 : decode cX11_ride 51 = .ok (.aload_n 0, 1) := by decide +kernel
theorem dX11_ride_52 : decode cX11_ride 52 = .ok (.getfield 21, 3) := by decide +kernel
theorem dX11_ride_55 : decode cX11_ride 55 = .ok (.getfield 116, 3) := by decide +kernel
theorem dX11_ride_58 : decode cX11_ride 58 = .ok (.bipush 8, 2) := by decide +kernel
theorem dX11_ride_60 : decode cX11_ride 60 = .ok (.if_icmp .lt 9, 3) := by decide +kernel
theorem dX11_ride_63 : decode cX11_ride 63 = .ok (.aload_n 0, 1) := by decide +kernel
theorem dX11_ride_64 : decode cX11_ride 64 = .ok (.iconst 4, 1) := by decide +kernel
theorem dX11_ride_65 : decode cX11_ride 65 = .ok (.invokevirtual 73, 3) := by decide +kernel
theorem dX11_ride_68 : decode cX11_ride 68 = .ok (.ireturn, 1) := by decide +kernel
theorem dX11_ride_69 : decode cX11_ride 69 = .ok (.aload_n 0, 1) := by decide +kernel
theorem dX11_ride_70 : decode cX11_ride 70 = .ok (.getfield 21, 3) := by decide +kernel
theorem dX11_ride_73 : decode cX11_ride 73 = .ok (.aload_n 0, 1) := by decide +kernel
theorem dX11_ride_74 : decode cX11_ride 74 = .ok (.iload_n 1, 1) := by decide +kernel
theorem dX11_ride_75 : decode cX11_ride 75 = .ok (.aload_n 0, 1) := by decide +kernel
theorem dX11_ride_76 : decode cX11_ride 76 = .ok (.getfield 21, 3) := by decide +kernel
theorem dX11_ride_79 : decode cX11_ride 79 = .ok (.getfield 116, 3) := by decide +kernel
theorem dX11_ride_82 : decode cX11_ride 82 = .ok (.iload_n 2, 1) := by decide +kernel
theorem dX11_ride_83 : decode cX11_ride 83 = .ok (.iload_n 3, 1) := by decide +kernel
theorem dX11_ride_84 : decode cX11_ride 84 = .ok (.invokevirtual 119, 3) := by decide +kernel
theorem dX11_ride_87 : decode cX11_ride 87 = .ok (.invokevirtual 123, 3) := by decide +kernel
theorem dX11_ride_90 : decode cX11_ride 90 = .ok (.ireturn, 1) := by decide +kernel
theorem dX11_seed_0 : decode cX11_seed 0 = .ok (.aload_n 0, 1) := by decide +kernel
theorem dX11_seed_1 : decode cX11_seed 1 = .ok (.getfield 21, 3) := by decide +kernel
theorem dX11_seed_4 : decode cX11_seed 4 = .ok (.getfield 243, 3) := by decide +kernel
theorem dX11_seed_7 : decode cX11_seed 7 = .ok (.istore_n 2, 1) := by decide +kernel
theorem dX11_seed_8 : decode cX11_seed 8 = .ok (.aload_n 0, 1) := by decide +kernel
theorem dX11_seed_9 : decode cX11_seed 9 = .ok (.getfield 21, 3) := by decide +kernel
theorem dX11_seed_12 : decode cX11_seed 12 = .ok (.iload_n 1, 1) := by decide +kernel
theorem dX11_seed_13 : decode cX11_seed 13 = .ok (.putfield 243, 3) := by decide +kernel
theorem dX11_seed_16 : decode cX11_seed 16 = .ok (.iload_n 2, 1) := by decide +kernel
theorem dX11_seed_17 : decode cX11_seed 17 = .ok (.ireturn, 1) := by decide +kernel
theorem dX11_sheet_0 : decode cX11_sheet 0 = .ok (.iload_n 1, 1) := by decide +kernel
theorem dX11_sheet_1 : decode cX11_sheet 1 = .ok (.iconst 0, 1) := by decide +kernel
theorem dX11_sheet_2 : decode cX11_sheet 2 = .ok (.iconst 3, 1) := by decide +kernel
theorem dX11_sheet_3 : decode cX11_sheet 3 = .ok (.invokestatic 108, 3) := by decide +kernel
theorem dX11_sheet_6 : decode cX11_sheet 6 = .ok (.ifCond .eq 25, 3) := by decide +kernel
theorem dX11_sheet_9 : decode cX11_sheet 9 = .ok (.iload_n 2, 1) := by decide +kernel
theorem dX11_sheet_10 : decode cX11_sheet 10 = .ok (.ifCond .eq 27, 3) := by decide +kernel
theorem dX11_sheet_13 : decode cX11_sheet 13 = .ok (.iload_n 2, 1) := by decide +kernel
theorem dX11_sheet_14 : decode cX11_sheet 14 = .ok (.bipush 8, 2) := by decide +kernel
theorem dX11_sheet_16 : decode cX11_sheet 16 = .ok (.if_icmp .eq 21, 3) := by decide +kernel
theorem dX11_sheet_19 : decode cX11_sheet 19 = .ok (.iload_n 2, 1) := by decide +kernel
theorem dX11_sheet_20 : decode cX11_sheet 20 = .ok (.bipush 16, 2) := by decide +kernel
theorem dX11_sheet_22 : decode cX11_sheet 22 = .ok (.if_icmp .eq 15, 3) := by decide +kernel
theorem dX11_sheet_25 : decode cX11_sheet 25 = .ok (.iload_n 2, 1) := by decide +kernel
theorem dX11_sheet_26 : decode cX11_sheet 26 = .ok (.bipush 32, 2) := by decide +kernel
theorem dX11_sheet_28 : decode cX11_sheet 28 = .ok (.if_icmp .eq 9, 3) := by decide +kernel
theorem dX11_sheet_31 : decode cX11_sheet 31 = .ok (.aload_n 0, 1) := by decide +kernel
theorem dX11_sheet_32 : decode cX11_sheet 32 = .ok (.iconst 1, 1) := by decide +kernel
theorem dX11_sheet_33 : decode cX11_sheet 33 = .ok (.invokevirtual 73, 3) := by decide +kernel
theorem dX11_sheet_36 : decode cX11_sheet 36 = .ok (.ireturn, 1) := by decide +kernel
theorem dX11_sheet_37 : decode cX11_sheet 37 = .ok (.iload_n 2, 1) := by decide +kernel
theorem dX11_sheet_38 : decode cX11_sheet 38 = .ok (.ifCond .eq 13, 3) := by decide +kernel
theorem dX11_sheet_41 : decode cX11_sheet 41 = .ok (.iload_n 3, 1) := by decide +kernel
theorem dX11_sheet_42 : decode cX11_sheet 42 = .ok (.ifCond .ge 9, 3) := by decide +kernel
theorem dX11_sheet_45 : decode cX11_sheet 45 = .ok (.aload_n 0, 1) := by decide +kernel
theorem dX11_sheet_46 : decode cX11_sheet 46 = .ok (.iconst 3, 1) := by decide +kernel
theorem dX11_sheet_47 : decode cX11_sheet 47 = .ok (.invokevirtual 73, 3) := by decide +kernel
theorem dX11_sheet_50 : decode cX11_sheet 50 = .ok (.ireturn, 1) := by decide +kernel
theorem dX11_sheet_51 : decode cX11_sheet 51 = .ok (.iload_n 2, 1) := by decide +kernel
theorem dX11_sheet_52 : decode cX11_sheet 52 = .ok (.ifCond .eq 15, 3) := by decide +kernel
theorem dX11_sheet_55 : decode cX11_sheet 55 = .ok (.iload_n 3, 1) := by decide +kernel
theorem dX11_sheet_56 : decode cX11_sheet 56 = .ok (.bipush 40, 2) := by decide +kernel
theorem dX11_sheet_58 : decode cX11_sheet 58 = .ok (.if_icmp .le 9, 3) := by decide +kernel
theorem dX11_sheet_61 : decode cX11_sheet 61 = .ok (.aload_n 0, 1) := by decide +kernel
theorem dX11_sheet_62 : decode cX11_sheet 62 = .ok (.iconst 1, 1) := by decide +kernel
theorem dX11_sheet_63 : decode cX11_sheet 63 = .ok (.invokevirtual 73, 3) := by decide +kernel
theorem dX11_sheet_66 : decode cX11_sheet 66 = .ok (.ireturn, 1) := by decide +kernel
theorem dX11_sheet_67 : decode cX11_sheet 67 = .ok (.aload_n 0, 1) := by decide +kernel
theorem dX11_sheet_68 : decode cX11_sheet 68 = .ok (.getfield 52, 3) := by decide +kernel
theorem dX11_sheet_71 : decode cX11_sheet 71 = .ok (.iload_n 1, 1) := by decide +kernel
theorem dX11_sheet_72 : decode cX11_sheet 72 = .ok (.iload_n 2, 1) := by decide +kernel
theorem dX11_sheet_73 : decode cX11_sheet 73 = .ok (.iastore, 1) := by decide +kernel
theorem dX11_sheet_74 : decode cX11_sheet 74 = .ok (.aload_n 0, 1) := by decide +kernel
theorem dX11_sheet_75 : decode cX11_sheet 75 = .ok (.getfield 48, 3) := by decide +kernel
theorem dX11_sheet_78 : decode cX11_sheet 78 = .ok (.iload_n 1, 1) := by decide +kernel
theorem dX11_sheet_79 : decode cX11_sheet 79 = .ok (.aaload, 1) := by decide +kernel
theorem dX11_sheet_80 : decode cX11_sheet 80 = .ok (.iload_n 2, 1) := by decide +kernel
theorem dX11_sheet_81 : decode cX11_sheet 81 = .ok (.ifCond .ne 7, 3) := by decide +kernel
theorem dX11_sheet_84 : decode cX11_sheet 84 = .ok (.iconst 0, 1) := by decide +kernel
theorem dX11_sheet_85 : decode cX11_sheet 85 = .ok (.goto 4, 3) := by decide +kernel
theorem dX11_sheet_88 : decode cX11_sheet 88 = .ok (.iload_n 3, 1) := by decide +kernel
theorem dX11_sheet_89 : decode cX11_sheet 89 = .ok (.invokevirtual 258, 3) := by decide +kernel
theorem dX11_sheet_92 : decode cX11_sheet 92 = .ok (.iconst 1, 1) := by decide +kernel
theorem dX11_sheet_93 : decode cX11_sheet 93 = .ok (.ireturn, 1) := by decide +kernel
theorem dX11_snug_0 : decode cX11_snug 0 = .ok (.aload_n 0, 1) := by decide +kernel
theorem dX11_snug_1 : decode cX11_snug 1 = .ok (.getfield 21, 3) := by decide +kernel
theorem dX11_snug_4 : decode cX11_snug 4 = .ok (.iload_n 1, 1) := by decide +kernel
theorem dX11_snug_5 : decode cX11_snug 5 = .ok (.invokevirtual 127, 3) := by decide +kernel
theorem dX11_snug_8 : decode cX11_snug 8 = .ok (.ifnull 24, 3) := by decide +kernel
theorem dX11_snug_11 : decode cX11_snug 11 = .ok (.iload_n 2, 1) := by decide +kernel
theorem dX11_snug_12 : decode cX11_snug 12 = .ok (.iconst 1, 1) := by decide +kernel
theorem dX11_snug_13 : decode cX11_snug 13 = .ok (.bipush 60, 2) := by decide +kernel
theorem dX11_snug_15 : decode cX11_snug 15 = .ok (.invokestatic 108, 3) := by decide +kernel
theorem dX11_snug_18 : decode cX11_snug 18 = .ok (.ifCond .eq 14, 3) := by decide +kernel
theorem dX11_snug_21 : decode cX11_snug 21 = .ok (.iload_n 3, 1) := by decide +kernel
theorem dX11_snug_22 : decode cX11_snug 22 = .ok (.iconst 1, 1) := by decide +kernel
theorem dX11_snug_23 : decode cX11_snug 23 = .ok (.sipush 300, 3) := by decide +kernel
theorem dX11_snug_26 : decode cX11_snug 26 = .ok (.invokestatic 108, 3) := by decide +kernel
theorem dX11_snug_29 : decode cX11_snug 29 = .ok (.ifCond .ne 9, 3) := by decide +kernel
theorem dX11_snug_32 : decode cX11_snug 32 = .ok (.aload_n 0, 1) := by decide +kernel
theorem dX11_snug_33 : decode cX11_snug 33 = .ok (.iconst 1, 1) := by decide +kernel
theorem dX11_snug_34 : decode cX11_snug 34 = .ok (.invokevirtual 73, 3) := by decide +kernel
theorem dX11_snug_37 : decode cX11_snug 37 = .ok (.ireturn, 1) := by decide +kernel
theorem dX11_snug_38 : decode cX11_snug 38 = .ok (.aload_n 0, 1) := by decide +kernel
theorem dX11_snug_39 : decode cX11_snug 39 = .ok (.iconst 2, 1) := by decide +kernel
theorem dX11_snug_40 : decode cX11_snug 40 = .ok (.bipush 100, 2) := by decide +kernel
theorem dX11_snug_42 : decode cX11_snug 42 = .ok (.sipush 9900, 3) := by decide +kernel
theorem dX11_snug_45 : decode cX11_snug 45 = .ok (.bipush 100, 2) := by decide +kernel
theorem dX11_snug_47 : decode cX11_snug 47 = .ok (.iload_n 1, 1) := by decide +kernel
theorem dX11_snug_48 : decode cX11_snug 48 = .ok (.iload_n 2, 1) := by decide +kernel
theorem dX11_snug_49 : decode cX11_snug 49 = .ok (.iload_n 3, 1) := by decide +kernel
theorem dX11_snug_50 : decode cX11_snug 50 = .ok (.invokevirtual 206, 3) := by decide +kernel
theorem dX11_snug_53 : decode cX11_snug 53 = .ok (.ireturn, 1) := by decide +kernel
theorem dX11_stands_0 : decode cX11_stands 0 = .ok (.aload_n 0, 1) := by decide +kernel
theorem dX11_stands_1 : decode cX11_stands 1 = .ok (.getfield 21, 3) := by decide +kernel
theorem dX11_stands_4 : decode cX11_stands 4 = .ok (.iload_n 1, 1) := by decide +kernel
theorem dX11_stands_5 : decode cX11_stands 5 = .ok (.invokevirtual 127, 3) := by decide +kernel
theorem dX11_stands_8 : decode cX11_stands 8 = .ok (.ifnonnull 9, 3) := by decide +kernel
theorem dX11_stands_11 : decode cX11_stands 11 = .ok (.aload_n 0, 1) := by decide +kernel
theorem dX11_stands_12 : decode cX11_stands 12 = .ok (.iconst 1, 1) := by decide +kernel
theorem dX11_stands_13 : decode cX11_stands 13 = .ok (.invokevirtual 73, 3) := by decide +kernel
theorem dX11_stands_16 : decode cX11_stands 16 = .ok (.ireturn, 1) := by decide +kernel
theorem dX11_stands_17 : decode cX11_stands 17 = .ok (.aload_n 0, 1) := by decide +kernel
theorem dX11_stands_18 : decode cX11_stands 18 = .ok (.getfield 25, 3) := by decide +kernel
theorem dX11_stands_21 : decode cX11_stands 21 = .ok (.aload_n 0, 1) := by decide +kernel
theorem dX11_stands_22 : decode cX11_stands 22 = .ok (.getfield 21, 3) := by decide +kernel
theorem dX11_stands_25 : decode cX11_stands 25 = .ok (.invokevirtual 197, 3) := by decide +kernel
theorem dX11_stands_28 : decode cX11_stands 28 = .ok (.iconst 1, 1) := by decide +kernel
theorem dX11_stands_29 : decode cX11_stands 29 = .ok (.istore_n 2, 1) := by decide +kernel
theorem dX11_stands_30 : decode cX11_stands 30 = .ok (.iload_n 2, 1) := by decide +kernel
theorem dX11_stands_31 : decode cX11_stands 31 = .ok (.sipush 200, 3) := by decide +kernel
theorem dX11_stands_34 : decode cX11_stands 34 = .ok (.if_icmp .gt 34, 3) := by decide +kernel
theorem dX11_stands_37 : decode cX11_stands 37 = .ok (.aload_n 0, 1) := by decide +kernel
theorem dX11_stands_38 : decode cX11_stands 38 = .ok (.getfield 25, 3) := by decide +kernel
theorem dX11_stands_41 : decode cX11_stands 41 = .ok (.getfield 152, 3) := by decide +kernel
theorem dX11_stands_44 : decode cX11_stands 44 = .ok (.iload_n 1, 1) := by decide +kernel
theorem dX11_stands_45 : decode cX11_stands 45 = .ok (.baload, 1) := by decide +kernel
theorem dX11_stands_46 : decode cX11_stands 46 = .ok (.ifCond .ne 22, 3) := by decide +kernel
theorem dX11_stands_49 : decode cX11_stands 49 = .ok (.aload_n 0, 1) := by decide +kernel
theorem dX11_stands_50 : decode cX11_stands 50 = .ok (.getfield 25, 3) := by decide +kernel
theorem dX11_stands_53 : decode cX11_stands 53 = .ok (.iload_n 1, 1) := by decide +kernel
theorem dX11_stands_54 : decode cX11_stands 54 = .ok (.invokevirtual 200, 3) := by decide +kernel
theorem dX11_stands_57 : decode cX11_stands 57 = .ok (.ifCond .ne 5, 3) := by decide +kernel
theorem dX11_stands_60 : decode cX11_stands 60 = .ok (.iload_n 2, 1) := by decide +kernel
theorem dX11_stands_61 : decode cX11_stands 61 = .ok (.ireturn, 1) := by decide +kernel
theorem dX11_stands_62 : decode cX11_stands 62 = .ok (.iinc 2 1, 3) := by decide +kernel
theorem dX11_stands_65 : decode cX11_stands 65 = .ok (.goto (-35), 3) := by decide +kernel
theorem dX11_stands_68 : decode cX11_stands 68 = .ok (.aload_n 0, 1) := by decide +kernel
theorem dX11_stands_69 : decode cX11_stands 69 = .ok (.iconst 2, 1) := by decide +kernel
theorem dX11_stands_70 : decode cX11_stands 70 = .ok (.invokevirtual 73, 3) := by decide +kernel
theorem dX11_stands_73 : decode cX11_stands 73 = .ok (.ireturn, 1) := by decide +kernel
theorem dX11_start_0 : decode cX11_start 0 = .ok (.aload_n 0, 1) := by decide +kernel
theorem dX11_start_1 : decode cX11_start 1 = .ok (.getfield 21, 3) := by decide +kernel
theorem dX11_start_4 : decode cX11_start 4 = .ok (.iload_n 1, 1) := by decide +kernel
theorem dX11_start_5 : decode cX11_start 5 = .ok (.invokevirtual 127, 3) := by decide +kernel
theorem dX11_start_8 : decode cX11_start 8 = .ok (.ifnull 34, 3) := by decide +kernel
theorem dX11_start_11 : decode cX11_start 11 = .ok (.iload_n 2, 1) := by decide +kernel
theorem dX11_start_12 : decode cX11_start 12 = .ok (.iconst 0, 1) := by decide +kernel
theorem dX11_start_13 : decode cX11_start 13 = .ok (.aload_n 0, 1) := by decide +kernel
theorem dX11_start_14 : decode cX11_start 14 = .ok (.getfield 21, 3) := by decide +kernel
theorem dX11_start_17 : decode cX11_start 17 = .ok (.getfield 77, 3) := by decide +kernel
theorem dX11_start_20 : decode cX11_start 20 = .ok (.invokevirtual 143, 3) := by decide +kernel
theorem dX11_start_23 : decode cX11_start 23 = .ok (.invokestatic 108, 3) := by decide +kernel
theorem dX11_start_26 : decode cX11_start 26 = .ok (.ifCond .eq 16, 3) := by decide +kernel
theorem dX11_start_29 : decode cX11_start 29 = .ok (.iload_n 3, 1) := by decide +kernel
theorem dX11_start_30 : decode cX11_start 30 = .ok (.sipush (-300), 3) := by decide +kernel
theorem dX11_start_33 : decode cX11_start 33 = .ok (.sipush 300, 3) := by decide +kernel
theorem dX11_start_36 : decode cX11_start 36 = .ok (.invokestatic 108, 3) := by decide +kernel
theorem dX11_start_39 : decode cX11_start 39 = .ok (.ifCond .ne 9, 3) := by decide +kernel
theorem dX11_start_42 : decode cX11_start 42 = .ok (.aload_n 0, 1) := by decide +kernel
theorem dX11_start_43 : decode cX11_start 43 = .ok (.iconst 1, 1) := by decide +kernel
theorem dX11_start_44 : decode cX11_start 44 = .ok (.invokevirtual 73, 3) := by decide +kernel
theorem dX11_start_47 : decode cX11_start 47 = .ok (.ireturn, 1) := by decide +kernel
theorem dX11_start_48 : decode cX11_start 48 = .ok (.aload_n 0, 1) := by decide +kernel
theorem dX11_start_49 : decode cX11_start 49 = .ok (.getfield 21, 3) := by decide +kernel
theorem dX11_start_52 : decode cX11_start 52 = .ok (.getfield 146, 3) := by decide +kernel
theorem dX11_start_55 : decode cX11_start 55 = .ok (.iload_n 1, 1) := by decide +kernel
theorem dX11_start_56 : decode cX11_start 56 = .ok (.iaload, 1) := by decide +kernel
theorem dX11_start_57 : decode cX11_start 57 = .ok (.istore 4, 2) := by decide +kernel
theorem dX11_start_59 : decode cX11_start 59 = .ok (.aload_n 0, 1) := by decide +kernel
theorem dX11_start_60 : decode cX11_start 60 = .ok (.getfield 21, 3) := by decide +kernel
theorem dX11_start_63 : decode cX11_start 63 = .ok (.getfield 146, 3) := by decide +kernel
theorem dX11_start_66 : decode cX11_start 66 = .ok (.iload_n 1, 1) := by decide +kernel
theorem dX11_start_67 : decode cX11_start 67 = .ok (.iload_n 2, 1) := by decide +kernel
theorem dX11_start_68 : decode cX11_start 68 = .ok (.iastore, 1) := by decide +kernel
theorem dX11_start_69 : decode cX11_start 69 = .ok (.aload_n 0, 1) := by decide +kernel
theorem dX11_start_70 : decode cX11_start 70 = .ok (.getfield 21, 3) := by decide +kernel
theorem dX11_start_73 : decode cX11_start 73 = .ok (.getfield 149, 3) := by decide +kernel
theorem dX11_start_76 : decode cX11_start 76 = .ok (.iload_n 1, 1) := by decide +kernel
theorem dX11_start_77 : decode cX11_start 77 = .ok (.iload_n 3, 1) := by decide +kernel
theorem dX11_start_78 : decode cX11_start 78 = .ok (.iastore, 1) := by decide +kernel
theorem dX11_start_79 : decode cX11_start 79 = .ok (.aload_n 0, 1) := by decide +kernel
theorem dX11_start_80 : decode cX11_start 80 = .ok (.getfield 21, 3) := by decide +kernel
theorem dX11_start_83 : decode cX11_start 83 = .ok (.getfield 152, 3) := by decide +kernel
theorem dX11_start_86 : decode cX11_start 86 = .ok (.iload_n 1, 1) := by decide +kernel
theorem dX11_start_87 : decode cX11_start 87 = .ok (.iconst 0, 1) := by decide +kernel
theorem dX11_start_88 : decode cX11_start 88 = .ok (.bastore, 1) := by decide +kernel
theorem dX11_start_89 : decode cX11_start 89 = .ok (.iload 4, 2) := by decide +kernel
theorem dX11_start_91 : decode cX11_start 91 = .ok (.ireturn, 1) := by decide +kernel
theorem dX11_steep_0 : decode cX11_steep 0 = .ok (.aload_n 0, 1) := by decide +kernel
theorem dX11_steep_1 : decode cX11_steep 1 = .ok (.iload_n 1, 1) := by decide +kernel
theorem dX11_steep_2 : decode cX11_steep 2 = .ok (.iload_n 2, 1) := by decide +kernel
theorem dX11_steep_3 : decode cX11_steep 3 = .ok (.invokevirtual 91, 3) := by decide +kernel
theorem dX11_steep_6 : decode cX11_steep 6 = .ok (.ifCond .eq 18, 3) := by decide +kernel
theorem dX11_steep_9 : decode cX11_steep 9 = .ok (.aload_n 0, 1) := by decide +kernel
theorem dX11_steep_10 : decode cX11_steep 10 = .ok (.getfield 21, 3) := by decide +kernel
theorem dX11_steep_13 : decode cX11_steep 13 = .ok (.getfield 77, 3) := by decide +kernel
theorem dX11_steep_16 : decode cX11_steep 16 = .ok (.iload_n 1, 1) := by decide +kernel
theorem dX11_steep_17 : decode cX11_steep 17 = .ok (.iload_n 2, 1) := by decide +kernel
theorem dX11_steep_18 : decode cX11_steep 18 = .ok (.invokevirtual 98, 3) := by decide +kernel
theorem dX11_steep_21 : decode cX11_steep 21 = .ok (.goto 8, 3) := by decide +kernel
theorem dX11_steep_24 : decode cX11_steep 24 = .ok (.aload_n 0, 1) := by decide +kernel
theorem dX11_steep_25 : decode cX11_steep 25 = .ok (.iconst 1, 1) := by decide +kernel
theorem dX11_steep_26 : decode cX11_steep 26 = .ok (.invokevirtual 73, 3) := by decide +kernel
theorem dX11_steep_29 : decode cX11_steep 29 = .ok (.ireturn, 1) := by decide +kernel
theorem dX11_strands_0 : decode cX11_strands 0 = .ok (.iload_n 1, 1) := by decide +kernel
theorem dX11_strands_1 : decode cX11_strands 1 = .ok (.iconst 0, 1) := by decide +kernel
theorem dX11_strands_2 : decode cX11_strands 2 = .ok (.sipush 200, 3) := by decide +kernel
theorem dX11_strands_5 : decode cX11_strands 5 = .ok (.invokestatic 108, 3) := by decide +kernel
theorem dX11_strands_8 : decode cX11_strands 8 = .ok (.ifCond .ne 9, 3) := by decide +kernel
theorem dX11_strands_11 : decode cX11_strands 11 = .ok (.aload_n 0, 1) := by decide +kernel
theorem dX11_strands_12 : decode cX11_strands 12 = .ok (.iconst 1, 1) := by decide +kernel
theorem dX11_strands_13 : decode cX11_strands 13 = .ok (.invokevirtual 73, 3) := by decide +kernel
theorem dX11_strands_16 : decode cX11_strands 16 = .ok (.ireturn, 1) := by decide +kernel
theorem dX11_strands_17 : decode cX11_strands 17 = .ok (.aload_n 0, 1) := by decide +kernel
theorem dX11_strands_18 : decode cX11_strands 18 = .ok (.iload_n 1, 1) := by decide +kernel
theorem dX11_strands_19 : decode cX11_strands 19 = .ok (.invokevirtual 194, 3) := by decide +kernel
theorem dX11_strands_22 : decode cX11_strands 22 = .ok (.aload_n 0, 1) := by decide +kernel
theorem dX11_strands_23 : decode cX11_strands 23 = .ok (.getfield 25, 3) := by decide +kernel
theorem dX11_strands_26 : decode cX11_strands 26 = .ok (.getfield 77, 3) := by decide +kernel
theorem dX11_strands_29 : decode cX11_strands 29 = .ok (.bipush 8, 2) := by decide +kernel
theorem dX11_strands_31 : decode cX11_strands 31 = .ok (.invokevirtual 81, 3) := by decide +kernel
theorem dX11_strands_34 : decode cX11_strands 34 = .ok (.ireturn, 1) := by decide +kernel
theorem dX11_tell_0 : decode cX11_tell 0 = .ok (.aload_n 0, 1) := by decide +kernel
theorem dX11_tell_1 : decode cX11_tell 1 = .ok (.getfield 21, 3) := by decide +kernel
theorem dX11_tell_4 : decode cX11_tell 4 = .ok (.getfield 277, 3) := by decide +kernel
theorem dX11_tell_7 : decode cX11_tell 7 = .ok (.invokevirtual 216, 3) := by decide +kernel
theorem dX11_tell_10 : decode cX11_tell 10 = .ok (.ifCond .eq 9, 3) := by decide +kernel
theorem dX11_tell_13 : decode cX11_tell 13 = .ok (.aload_n 0, 1) := by decide +kernel
theorem dX11_tell_14 : decode cX11_tell 14 = .ok (.iconst 4, 1) := by decide +kernel
theorem dX11_tell_15 : decode cX11_tell 15 = .ok (.invokevirtual 73, 3) := by decide +kernel
theorem dX11_tell_18 : decode cX11_tell 18 = .ok (.ireturn, 1) := by decide +kernel
theorem dX11_tell_19 : decode cX11_tell 19 = .ok (.aload_n 0, 1) := by decide +kernel
theorem dX11_tell_20 : decode cX11_tell 20 = .ok (.getfield 21, 3) := by decide +kernel
theorem dX11_tell_23 : decode cX11_tell 23 = .ok (.getfield 277, 3) := by decide +kernel
theorem dX11_tell_26 : decode cX11_tell 26 = .ok (.iload_n 1, 1) := by decide +kernel
theorem dX11_tell_27 : decode cX11_tell 27 = .ok (.invokevirtual 162, 3) := by decide +kernel
theorem dX11_tell_30 : decode cX11_tell 30 = .ok (.aload_n 0, 1) := by decide +kernel
theorem dX11_tell_31 : decode cX11_tell 31 = .ok (.getfield 21, 3) := by decide +kernel
theorem dX11_tell_34 : decode cX11_tell 34 = .ok (.getfield 277, 3) := by decide +kernel
theorem dX11_tell_37 : decode cX11_tell 37 = .ok (.getfield 159, 3) := by decide +kernel
theorem dX11_tell_40 : decode cX11_tell 40 = .ok (.ireturn, 1) := by decide +kernel
theorem dX11_text_0 : decode cX11_text 0 = .ok (.iload_n 1, 1) := by decide +kernel
theorem dX11_text_1 : decode cX11_text 1 = .ok (.iconst 0, 1) := by decide +kernel
theorem dX11_text_2 : decode cX11_text 2 = .ok (.iconst 1, 1) := by decide +kernel
theorem dX11_text_3 : decode cX11_text 3 = .ok (.invokestatic 108, 3) := by decide +kernel
theorem dX11_text_6 : decode cX11_text 6 = .ok (.ifCond .ne 9, 3) := by decide +kernel
theorem dX11_text_9 : decode cX11_text 9 = .ok (.aload_n 0, 1) := by decide +kernel
theorem dX11_text_10 : decode cX11_text 10 = .ok (.iconst 1, 1) := by decide +kernel
theorem dX11_text_11 : decode cX11_text 11 = .ok (.invokevirtual 73, 3) := by decide +kernel
theorem dX11_text_14 : decode cX11_text 14 = .ok (.ireturn, 1) := by decide +kernel
theorem dX11_text_15 : decode cX11_text 15 = .ok (.aload_n 0, 1) := by decide +kernel
theorem dX11_text_16 : decode cX11_text 16 = .ok (.getfield 10, 3) := by decide +kernel
theorem dX11_text_19 : decode cX11_text 19 = .ok (.aload_n 0, 1) := by decide +kernel
theorem dX11_text_20 : decode cX11_text 20 = .ok (.getfield 21, 3) := by decide +kernel
theorem dX11_text_23 : decode cX11_text 23 = .ok (.getfield 156, 3) := by decide +kernel
theorem dX11_text_26 : decode cX11_text 26 = .ok (.iload_n 1, 1) := by decide +kernel
theorem dX11_text_27 : decode cX11_text 27 = .ok (.invokevirtual 165, 3) := by decide +kernel
theorem dX11_text_30 : decode cX11_text 30 = .ok (.istore_n 2, 1) := by decide +kernel
theorem dX11_text_31 : decode cX11_text 31 = .ok (.iload_n 2, 1) := by decide +kernel
theorem dX11_text_32 : decode cX11_text 32 = .ok (.ifCond .ge 21, 3) := by decide +kernel
theorem dX11_text_35 : decode cX11_text 35 = .ok (.aload_n 0, 1) := by decide +kernel
theorem dX11_text_36 : decode cX11_text 36 = .ok (.getfield 21, 3) := by decide +kernel
theorem dX11_text_39 : decode cX11_text 39 = .ok (.iload_n 1, 1) := by decide +kernel
theorem dX11_text_40 : decode cX11_text 40 = .ok (.invokevirtual 169, 3) := by decide +kernel
theorem dX11_text_43 : decode cX11_text 43 = .ok (.aload_n 0, 1) := by decide +kernel
theorem dX11_text_44 : decode cX11_text 44 = .ok (.getfield 21, 3) := by decide +kernel
theorem dX11_text_47 : decode cX11_text 47 = .ok (.getfield 156, 3) := by decide +kernel
theorem dX11_text_50 : decode cX11_text 50 = .ok (.invokevirtual 173, 3) := by decide +kernel
theorem dX11_text_53 : decode cX11_text 53 = .ok (.aload_n 0, 1) := by decide +kernel
theorem dX11_text_54 : decode cX11_text 54 = .ok (.getfield 21, 3) := by decide +kernel
theorem dX11_text_57 : decode cX11_text 57 = .ok (.getfield 156, 3) := by decide +kernel
theorem dX11_text_60 : decode cX11_text 60 = .ok (.invokevirtual 177, 3) := by decide +kernel
theorem dX11_text_63 : decode cX11_text 63 = .ok (.iload_n 2, 1) := by decide +kernel
theorem dX11_text_64 : decode cX11_text 64 = .ok (.ifCond .ge 7, 3) := by decide +kernel
theorem dX11_text_67 : decode cX11_text 67 = .ok (.iconst 1, 1) := by decide +kernel
theorem dX11_text_68 : decode cX11_text 68 = .ok (.goto 7, 3) := by decide +kernel
theorem dX11_text_71 : decode cX11_text 71 = .ok (.bipush (-10), 2) := by decide +kernel
theorem dX11_text_73 : decode cX11_text 73 = .ok (.iload_n 2, 1) := by decide +kernel
theorem dX11_text_74 : decode cX11_text 74 = .ok (.isub, 1) := by decide +kernel
theorem dX11_text_75 : decode cX11_text 75 = .ok (.ireturn, 1) := by decide +kernel
theorem dX11_then_0 : decode cX11_then 0 = .ok (.iload_n 1, 1) := by decide +kernel
theorem dX11_then_1 : decode cX11_then 1 = .ok (.iconst 0, 1) := by decide +kernel
theorem dX11_then_2 : decode cX11_then 2 = .ok (.sipush 200, 3) := by decide +kernel
theorem dX11_then_5 : decode cX11_then 5 = .ok (.invokestatic 108, 3) := by decide +kernel
theorem dX11_then_8 : decode cX11_then 8 = .ok (.ifCond .eq 24, 3) := by decide +kernel
theorem dX11_then_11 : decode cX11_then 11 = .ok (.iload_n 3, 1) := by decide +kernel
theorem dX11_then_12 : decode cX11_then 12 = .ok (.iconst 0, 1) := by decide +kernel
theorem dX11_then_13 : decode cX11_then 13 = .ok (.bipush 8, 2) := by decide +kernel
theorem dX11_then_15 : decode cX11_then 15 = .ok (.invokestatic 108, 3) := by decide +kernel
theorem dX11_then_18 : decode cX11_then 18 = .ok (.ifCond .eq 14, 3) := by decide +kernel
theorem dX11_then_21 : decode cX11_then 21 = .ok (.aload_n 0, 1) := by decide +kernel
theorem dX11_then_22 : decode cX11_then 22 = .ok (.getfield 21, 3) := by decide +kernel
theorem dX11_then_25 : decode cX11_then 25 = .ok (.iload_n 2, 1) := by decide +kernel
theorem dX11_then_26 : decode cX11_then 26 = .ok (.invokevirtual 127, 3) := by decide +kernel
theorem dX11_then_29 : decode cX11_then 29 = .ok (.ifnonnull 9, 3) := by decide +kernel
theorem dX11_then_32 : decode cX11_then 32 = .ok (.aload_n 0, 1) := by decide +kernel
theorem dX11_then_33 : decode cX11_then 33 = .ok (.iconst 1, 1) := by decide +kernel
theorem dX11_then_34 : decode cX11_then 34 = .ok (.invokevirtual 73, 3) := by decide +kernel
theorem dX11_then_37 : decode cX11_then 37 = .ok (.ireturn, 1) := by decide +kernel
theorem dX11_then_38 : decode cX11_then 38 = .ok (.aload_n 0, 1) := by decide +kernel
theorem dX11_then_39 : decode cX11_then 39 = .ok (.iload_n 1, 1) := by decide +kernel
theorem dX11_then_40 : decode cX11_then 40 = .ok (.invokevirtual 194, 3) := by decide +kernel
theorem dX11_then_43 : decode cX11_then 43 = .ok (.aload_n 0, 1) := by decide +kernel
theorem dX11_then_44 : decode cX11_then 44 = .ok (.getfield 25, 3) := by decide +kernel
theorem dX11_then_47 : decode cX11_then 47 = .ok (.iload_n 2, 1) := by decide +kernel
theorem dX11_then_48 : decode cX11_then 48 = .ok (.iload_n 3, 1) := by decide +kernel
theorem dX11_then_49 : decode cX11_then 49 = .ok (.invokevirtual 131, 3) := by decide +kernel
theorem dX11_then_52 : decode cX11_then 52 = .ok (.ireturn, 1) := by decide +kernel
theorem dX11_ticks_0 : decode cX11_ticks 0 = .ok (.iload_n 1, 1) := by decide +kernel
theorem dX11_ticks_1 : decode cX11_ticks 1 = .ok (.iconst 1, 1) := by decide +kernel
theorem dX11_ticks_2 : decode cX11_ticks 2 = .ok (.sipush 200, 3) := by decide +kernel
theorem dX11_ticks_5 : decode cX11_ticks 5 = .ok (.invokestatic 108, 3) := by decide +kernel
theorem dX11_ticks_8 : decode cX11_ticks 8 = .ok (.ifCond .ne 9, 3) := by decide +kernel
theorem dX11_ticks_11 : decode cX11_ticks 11 = .ok (.aload_n 0, 1) := by decide +kernel
theorem dX11_ticks_12 : decode cX11_ticks 12 = .ok (.iconst 1, 1) := by decide +kernel
theorem dX11_ticks_13 : decode cX11_ticks 13 = .ok (.invokevirtual 73, 3) := by decide +kernel
theorem dX11_ticks_16 : decode cX11_ticks 16 = .ok (.ireturn, 1) := by decide +kernel
theorem dX11_ticks_17 : decode cX11_ticks 17 = .ok (.aload_n 0, 1) := by decide +kernel
theorem dX11_ticks_18 : decode cX11_ticks 18 = .ok (.getfield 21, 3) := by decide +kernel
theorem dX11_ticks_21 : decode cX11_ticks 21 = .ok (.getfield 184, 3) := by decide +kernel
theorem dX11_ticks_24 : decode cX11_ticks 24 = .ok (.iload_n 1, 1) := by decide +kernel
theorem dX11_ticks_25 : decode cX11_ticks 25 = .ok (.iadd, 1) := by decide +kernel
theorem dX11_ticks_26 : decode cX11_ticks 26 = .ok (.ldc 187, 2) := by decide +kernel
theorem dX11_ticks_28 : decode cX11_ticks 28 = .ok (.if_icmp .le 9, 3) := by decide +kernel
theorem dX11_ticks_31 : decode cX11_ticks 31 = .ok (.aload_n 0, 1) := by decide +kernel
theorem dX11_ticks_32 : decode cX11_ticks 32 = .ok (.iconst 3, 1) := by decide +kernel
theorem dX11_ticks_33 : decode cX11_ticks 33 = .ok (.invokevirtual 73, 3) := by decide +kernel
theorem dX11_ticks_36 : decode cX11_ticks 36 = .ok (.ireturn, 1) := by decide +kernel
theorem dX11_ticks_37 : decode cX11_ticks 37 = .ok (.aload_n 0, 1) := by decide +kernel
theorem dX11_ticks_38 : decode cX11_ticks 38 = .ok (.getfield 21, 3) := by decide +kernel
theorem dX11_ticks_41 : decode cX11_ticks 41 = .ok (.iload_n 1, 1) := by decide +kernel
theorem dX11_ticks_42 : decode cX11_ticks 42 = .ok (.invokevirtual 188, 3) := by decide +kernel
theorem dX11_ticks_45 : decode cX11_ticks 45 = .ok (.aload_n 0, 1) := by decide +kernel
theorem dX11_ticks_46 : decode cX11_ticks 46 = .ok (.getfield 21, 3) := by decide +kernel
theorem dX11_ticks_49 : decode cX11_ticks 49 = .ok (.getfield 184, 3) := by decide +kernel
theorem dX11_ticks_52 : decode cX11_ticks 52 = .ok (.ireturn, 1) := by decide +kernel
theorem dX11_tight_0 : decode cX11_tight 0 = .ok (.aload_n 0, 1) := by decide +kernel
theorem dX11_tight_1 : decode cX11_tight 1 = .ok (.getfield 21, 3) := by decide +kernel
theorem dX11_tight_4 : decode cX11_tight 4 = .ok (.getfield 77, 3) := by decide +kernel
theorem dX11_tight_7 : decode cX11_tight 7 = .ok (.invokevirtual 104, 3) := by decide +kernel
theorem dX11_tight_10 : decode cX11_tight 10 = .ok (.ireturn, 1) := by decide +kernel
theorem dX11_told_0 : decode cX11_told 0 = .ok (.iload_n 1, 1) := by decide +kernel
theorem dX11_told_1 : decode cX11_told 1 = .ok (.iconst 1, 1) := by decide +kernel
theorem dX11_told_2 : decode cX11_told 2 = .ok (.iconst 5, 1) := by decide +kernel
theorem dX11_told_3 : decode cX11_told 3 = .ok (.invokestatic 108, 3) := by decide +kernel
theorem dX11_told_6 : decode cX11_told 6 = .ok (.ifCond .eq 12, 3) := by decide +kernel
theorem dX11_told_9 : decode cX11_told 9 = .ok (.aload_n 0, 1) := by decide +kernel
theorem dX11_told_10 : decode cX11_told 10 = .ok (.getfield 35, 3) := by decide +kernel
theorem dX11_told_13 : decode cX11_told 13 = .ok (.iload_n 1, 1) := by decide +kernel
theorem dX11_told_14 : decode cX11_told 14 = .ok (.iaload, 1) := by decide +kernel
theorem dX11_told_15 : decode cX11_told 15 = .ok (.goto 8, 3) := by decide +kernel
theorem dX11_told_18 : decode cX11_told 18 = .ok (.aload_n 0, 1) := by decide +kernel
theorem dX11_told_19 : decode cX11_told 19 = .ok (.iconst 1, 1) := by decide +kernel
theorem dX11_told_20 : decode cX11_told 20 = .ok (.invokevirtual 73, 3) := by decide +kernel
theorem dX11_told_23 : decode cX11_told 23 = .ok (.ireturn, 1) := by decide +kernel
theorem dX11_trace_0 : decode cX11_trace 0 = .ok (.iload_n 1, 1) := by decide +kernel
theorem dX11_trace_1 : decode cX11_trace 1 = .ok (.iconst 0, 1) := by decide +kernel
theorem dX11_trace_2 : decode cX11_trace 2 = .ok (.aload_n 0, 1) := by decide +kernel
theorem dX11_trace_3 : decode cX11_trace 3 = .ok (.getfield 44, 3) := by decide +kernel
theorem dX11_trace_6 : decode cX11_trace 6 = .ok (.getfield 159, 3) := by decide +kernel
theorem dX11_trace_9 : decode cX11_trace 9 = .ok (.iconst 1, 1) := by decide +kernel
theorem dX11_trace_10 : decode cX11_trace 10 = .ok (.isub, 1) := by decide +kernel
theorem dX11_trace_11 : decode cX11_trace 11 = .ok (.invokestatic 108, 3) := by decide +kernel
theorem dX11_trace_14 : decode cX11_trace 14 = .ok (.ifCond .eq 14, 3) := by decide +kernel
theorem dX11_trace_17 : decode cX11_trace 17 = .ok (.aload_n 0, 1) := by decide +kernel
theorem dX11_trace_18 : decode cX11_trace 18 = .ok (.getfield 44, 3) := by decide +kernel
theorem dX11_trace_21 : decode cX11_trace 21 = .ok (.iload_n 1, 1) := by decide +kernel
theorem dX11_trace_22 : decode cX11_trace 22 = .ok (.invokevirtual 223, 3) := by decide +kernel
theorem dX11_trace_25 : decode cX11_trace 25 = .ok (.goto 8, 3) := by decide +kernel
theorem dX11_trace_28 : decode cX11_trace 28 = .ok (.aload_n 0, 1) := by decide +kernel
theorem dX11_trace_29 : decode cX11_trace 29 = .ok (.iconst 2, 1) := by decide +kernel
theorem dX11_trace_30 : decode cX11_trace 30 = .ok (.invokevirtual 73, 3) := by decide +kernel
theorem dX11_trace_33 : decode cX11_trace 33 = .ok (.ireturn, 1) := by decide +kernel
theorem dX11_tryOrders_0 : decode cX11_tryOrders 0 = .ok (.aload_n 0, 1) := by decide +kernel
theorem dX11_tryOrders_1 : decode cX11_tryOrders 1 = .ok (.getfield 21, 3) := by decide +kernel
theorem dX11_tryOrders_4 : decode cX11_tryOrders 4 = .ok (.getfield 232, 3) := by decide +kernel
theorem dX11_tryOrders_7 : decode cX11_tryOrders 7 = .ok (.getfield 159, 3) := by decide +kernel
theorem dX11_tryOrders_10 : decode cX11_tryOrders 10 = .ok (.istore 5, 2) := by decide +kernel
theorem dX11_tryOrders_12 : decode cX11_tryOrders 12 = .ok (.iload_n 1, 1) := by decide +kernel
theorem dX11_tryOrders_13 : decode cX11_tryOrders 13 = .ok (.iload 5, 2) := by decide +kernel
theorem dX11_tryOrders_15 : decode cX11_tryOrders 15 = .ok (.if_icmp .lt 34, 3) := by decide +kernel
theorem dX11_tryOrders_18 : decode cX11_tryOrders 18 = .ok (.iload 4, 2) := by decide +kernel
theorem dX11_tryOrders_20 : decode cX11_tryOrders 20 = .ok (.aload_n 0, 1) := by decide +kernel
theorem dX11_tryOrders_21 : decode cX11_tryOrders 21 = .ok (.getfield 64, 3) := by decide +kernel
theorem dX11_tryOrders_24 : decode cX11_tryOrders 24 = .ok (.if_icmp .ge 24, 3) := by decide +kernel
theorem dX11_tryOrders_27 : decode cX11_tryOrders 27 = .ok (.aload_n 0, 1) := by decide +kernel
theorem dX11_tryOrders_28 : decode cX11_tryOrders 28 = .ok (.iload 4, 2) := by decide +kernel
theorem dX11_tryOrders_30 : decode cX11_tryOrders 30 = .ok (.putfield 64, 3) := by decide +kernel
theorem dX11_tryOrders_33 : decode cX11_tryOrders 33 = .ok (.aload_n 0, 1) := by decide +kernel
theorem dX11_tryOrders_34 : decode cX11_tryOrders 34 = .ok (.getfield 58, 3) := by decide +kernel
theorem dX11_tryOrders_37 : decode cX11_tryOrders 37 = .ok (.iconst 0, 1) := by decide +kernel
theorem dX11_tryOrders_38 : decode cX11_tryOrders 38 = .ok (.aload_n 0, 1) := by decide +kernel
theorem dX11_tryOrders_39 : decode cX11_tryOrders 39 = .ok (.getfield 61, 3) := by decide +kernel
theorem dX11_tryOrders_42 : decode cX11_tryOrders 42 = .ok (.iconst 0, 1) := by decide +kernel
theorem dX11_tryOrders_43 : decode cX11_tryOrders 43 = .ok (.iload 5, 2) := by decide +kernel
theorem dX11_tryOrders_45 : decode cX11_tryOrders 45 = .ok (.invokestatic 271, 3) := by decide +kernel
theorem dX11_tryOrders_48 : decode cX11_tryOrders 48 = .ok (.return_, 1) := by decide +kernel
theorem dX11_tryOrders_49 : decode cX11_tryOrders 49 = .ok (.iconst 0, 1) := by decide +kernel
theorem dX11_tryOrders_50 : decode cX11_tryOrders 50 = .ok (.istore 6, 2) := by decide +kernel
theorem dX11_tryOrders_52 : decode cX11_tryOrders 52 = .ok (.iload 6, 2) := by decide +kernel
theorem dX11_tryOrders_54 : decode cX11_tryOrders 54 = .ok (.iload 5, 2) := by decide +kernel
theorem dX11_tryOrders_56 : decode cX11_tryOrders 56 = .ok (.if_icmp .ge 88, 3) := by decide +kernel
theorem dX11_tryOrders_59 : decode cX11_tryOrders 59 = .ok (.iload_n 2, 1) := by decide +kernel
theorem dX11_tryOrders_60 : decode cX11_tryOrders 60 = .ok (.iload 6, 2) := by decide +kernel
theorem dX11_tryOrders_62 : decode cX11_tryOrders 62 = .ok (.ishr, 1) := by decide +kernel
theorem dX11_tryOrders_63 : decode cX11_tryOrders 63 = .ok (.iconst 1, 1) := by decide +kernel
theorem dX11_tryOrders_64 : decode cX11_tryOrders 64 = .ok (.iand, 1) := by decide +kernel
theorem dX11_tryOrders_65 : decode cX11_tryOrders 65 = .ok (.ifCond .ne 73, 3) := by decide +kernel
theorem dX11_tryOrders_68 : decode cX11_tryOrders 68 = .ok (.aload_n 0, 1) := by decide +kernel
theorem dX11_tryOrders_69 : decode cX11_tryOrders 69 = .ok (.getfield 21, 3) := by decide +kernel
theorem dX11_tryOrders_72 : decode cX11_tryOrders 72 = .ok (.getfield 235, 3) := by decide +kernel
theorem dX11_tryOrders_75 : decode cX11_tryOrders 75 = .ok (.iload 6, 2) := by decide +kernel
theorem dX11_tryOrders_77 : decode cX11_tryOrders 77 = .ok (.invokevirtual 223, 3) := by decide +kernel
theorem dX11_tryOrders_80 : decode cX11_tryOrders 80 = .ok (.istore 7, 2) := by decide +kernel
theorem dX11_tryOrders_82 : decode cX11_tryOrders 82 = .ok (.iload 7, 2) := by decide +kernel
theorem dX11_tryOrders_84 : decode cX11_tryOrders 84 = .ok (.iload_n 3, 1) := by decide +kernel
theorem dX11_tryOrders_85 : decode cX11_tryOrders 85 = .ok (.if_icmp .ne 7, 3) := by decide +kernel
theorem dX11_tryOrders_88 : decode cX11_tryOrders 88 = .ok (.iconst 0, 1) := by decide +kernel
theorem dX11_tryOrders_89 : decode cX11_tryOrders 89 = .ok (.goto 4, 3) := by decide +kernel
theorem dX11_tryOrders_92 : decode cX11_tryOrders 92 = .ok (.iconst 5, 1) := by decide +kernel
theorem dX11_tryOrders_93 : decode cX11_tryOrders 93 = .ok (.istore 8, 2) := by decide +kernel
theorem dX11_tryOrders_95 : decode cX11_tryOrders 95 = .ok (.aload_n 0, 1) := by decide +kernel
theorem dX11_tryOrders_96 : decode cX11_tryOrders 96 = .ok (.getfield 58, 3) := by decide +kernel
theorem dX11_tryOrders_99 : decode cX11_tryOrders 99 = .ok (.iload_n 1, 1) := by decide +kernel
theorem dX11_tryOrders_100 : decode cX11_tryOrders 100 = .ok (.iload 6, 2) := by decide +kernel
theorem dX11_tryOrders_102 : decode cX11_tryOrders 102 = .ok (.iastore, 1) := by decide +kernel
theorem dX11_tryOrders_103 : decode cX11_tryOrders 103 = .ok (.aload_n 0, 1) := by decide +kernel
theorem dX11_tryOrders_104 : decode cX11_tryOrders 104 = .ok (.iload_n 1, 1) := by decide +kernel
theorem dX11_tryOrders_105 : decode cX11_tryOrders 105 = .ok (.iconst 1, 1) := by decide +kernel
theorem dX11_tryOrders_106 : decode cX11_tryOrders 106 = .ok (.iadd, 1) := by decide +kernel
theorem dX11_tryOrders_107 : decode cX11_tryOrders 107 = .ok (.iload_n 2, 1) := by decide +kernel
theorem dX11_tryOrders_108 : decode cX11_tryOrders 108 = .ok (.iconst 1, 1) := by decide +kernel
theorem dX11_tryOrders_109 : decode cX11_tryOrders 109 = .ok (.iload 6, 2) := by decide +kernel
theorem dX11_tryOrders_111 : decode cX11_tryOrders 111 = .ok (.ishl, 1) := by decide +kernel
theorem dX11_tryOrders_112 : decode cX11_tryOrders 112 = .ok (.ior, 1) := by decide +kernel
theorem dX11_tryOrders_113 : decode cX11_tryOrders 113 = .ok (.iconst 1, 1) := by decide +kernel
theorem dX11_tryOrders_114 : decode cX11_tryOrders 114 = .ok (.iload 7, 2) := by decide +kernel
theorem dX11_tryOrders_116 : decode cX11_tryOrders 116 = .ok (.isub, 1) := by decide +kernel
theorem dX11_tryOrders_117 : decode cX11_tryOrders 117 = .ok (.iload 4, 2) := by decide +kernel
theorem dX11_tryOrders_119 : decode cX11_tryOrders 119 = .ok (.iload 8, 2) := by decide +kernel
theorem dX11_tryOrders_121 : decode cX11_tryOrders 121 = .ok (.iadd, 1) := by decide +kernel
theorem dX11_tryOrders_122 : decode cX11_tryOrders 122 = .ok (.aload_n 0, 1) := by decide +kernel
theorem dX11_tryOrders_123 : decode cX11_tryOrders 123 = .ok (.getfield 21, 3) := by decide +kernel
theorem dX11_tryOrders_126 : decode cX11_tryOrders 126 = .ok (.getfield 232, 3) := by decide +kernel
theorem dX11_tryOrders_129 : decode cX11_tryOrders 129 = .ok (.iload 6, 2) := by decide +kernel
theorem dX11_tryOrders_131 : decode cX11_tryOrders 131 = .ok (.invokevirtual 223, 3) := by decide +kernel
theorem dX11_tryOrders_134 : decode cX11_tryOrders 134 = .ok (.iadd, 1) := by decide +kernel
theorem dX11_tryOrders_135 : decode cX11_tryOrders 135 = .ok (.invokevirtual 239, 3) := by decide +kernel
theorem dX11_tryOrders_138 : decode cX11_tryOrders 138 = .ok (.iinc 6 1, 3) := by decide +kernel
theorem dX11_tryOrders_141 : decode cX11_tryOrders 141 = .ok (.goto (-89), 3) := by decide +kernel
theorem dX11_tryOrders_144 : decode cX11_tryOrders 144 = .ok (.return_, 1) := by decide +kernel
theorem dX11_unload_0 : decode cX11_unload 0 = .ok (.aload_n 0, 1) := by decide +kernel
theorem dX11_unload_1 : decode cX11_unload 1 = .ok (.getfield 21, 3) := by decide +kernel
theorem dX11_unload_4 : decode cX11_unload 4 = .ok (.getfield 232, 3) := by decide +kernel
theorem dX11_unload_7 : decode cX11_unload 7 = .ok (.getfield 159, 3) := by decide +kernel
theorem dX11_unload_10 : decode cX11_unload 10 = .ok (.istore_n 1, 1) := by decide +kernel
theorem dX11_unload_11 : decode cX11_unload 11 = .ok (.aload_n 0, 1) := by decide +kernel
theorem dX11_unload_12 : decode cX11_unload 12 = .ok (.getfield 21, 3) := by decide +kernel
theorem dX11_unload_15 : decode cX11_unload 15 = .ok (.getfield 232, 3) := by decide +kernel
theorem dX11_unload_18 : decode cX11_unload 18 = .ok (.invokevirtual 177, 3) := by decide +kernel
theorem dX11_unload_21 : decode cX11_unload 21 = .ok (.aload_n 0, 1) := by decide +kernel
theorem dX11_unload_22 : decode cX11_unload 22 = .ok (.getfield 21, 3) := by decide +kernel
theorem dX11_unload_25 : decode cX11_unload 25 = .ok (.getfield 235, 3) := by decide +kernel
theorem dX11_unload_28 : decode cX11_unload 28 = .ok (.invokevirtual 177, 3) := by decide +kernel
theorem dX11_unload_31 : decode cX11_unload 31 = .ok (.iload_n 1, 1) := by decide +kernel
theorem dX11_unload_32 : decode cX11_unload 32 = .ok (.ireturn, 1) := by decide +kernel
theorem dX11_voice_0 : decode cX11_voice 0 = .ok (.aload_n 0, 1) := by decide +kernel
theorem dX11_voice_1 : decode cX11_voice 1 = .ok (.getfield 21, 3) := by decide +kernel
theorem dX11_voice_4 : decode cX11_voice 4 = .ok (.iload_n 1, 1) := by decide +kernel
theorem dX11_voice_5 : decode cX11_voice 5 = .ok (.invokevirtual 127, 3) := by decide +kernel
theorem dX11_voice_8 : decode cX11_voice 8 = .ok (.astore 4, 2) := by decide +kernel
theorem dX11_voice_10 : decode cX11_voice 10 = .ok (.aload 4, 2) := by decide +kernel
theorem dX11_voice_12 : decode cX11_voice 12 = .ok (.ifnull 12, 3) := by decide +kernel
theorem dX11_voice_15 : decode cX11_voice 15 = .ok (.iload_n 2, 1) := by decide +kernel
theorem dX11_voice_16 : decode cX11_voice 16 = .ok (.iconst 0, 1) := by decide +kernel
theorem dX11_voice_17 : decode cX11_voice 17 = .ok (.iconst 3, 1) := by decide +kernel
theorem dX11_voice_18 : decode cX11_voice 18 = .ok (.invokestatic 108, 3) := by decide +kernel
theorem dX11_voice_21 : decode cX11_voice 21 = .ok (.ifCond .ne 9, 3) := by decide +kernel
theorem dX11_voice_24 : decode cX11_voice 24 = .ok (.aload_n 0, 1) := by decide +kernel
theorem dX11_voice_25 : decode cX11_voice 25 = .ok (.iconst 1, 1) := by decide +kernel
theorem dX11_voice_26 : decode cX11_voice 26 = .ok (.invokevirtual 73, 3) := by decide +kernel
theorem dX11_voice_29 : decode cX11_voice 29 = .ok (.ireturn, 1) := by decide +kernel
theorem dX11_voice_30 : decode cX11_voice 30 = .ok (.aload_n 0, 1) := by decide +kernel
theorem dX11_voice_31 : decode cX11_voice 31 = .ok (.getfield 44, 3) := by decide +kernel
theorem dX11_voice_34 : decode cX11_voice 34 = .ok (.invokevirtual 177, 3) := by decide +kernel
theorem dX11_voice_37 : decode cX11_voice 37 = .ok (.iload_n 2, 1) := by decide +kernel
theorem dX11_voice_38 : decode cX11_voice 38 = .ok (.tableswitch 47 0 2 #[26, 33, 40], 26) := by decide +kernel
theorem dX11_voice_64 : decode cX11_voice 64 = .ok (.aload 4, 2) := by decide +kernel
theorem dX11_voice_66 : decode cX11_voice 66 = .ok (.iload_n 3, 1) := by decide +kernel
theorem dX11_voice_67 : decode cX11_voice 67 = .ok (.invokevirtual 246, 3) := by decide +kernel
theorem dX11_voice_70 : decode cX11_voice 70 = .ok (.ireturn, 1) := by decide +kernel
theorem dX11_voice_71 : decode cX11_voice 71 = .ok (.aload 4, 2) := by decide +kernel
theorem dX11_voice_73 : decode cX11_voice 73 = .ok (.iload_n 3, 1) := by decide +kernel
theorem dX11_voice_74 : decode cX11_voice 74 = .ok (.invokevirtual 249, 3) := by decide +kernel
theorem dX11_voice_77 : decode cX11_voice 77 = .ok (.ireturn, 1) := by decide +kernel
theorem dX11_voice_78 : decode cX11_voice 78 = .ok (.aload 4, 2) := by decide +kernel
theorem dX11_voice_80 : decode cX11_voice 80 = .ok (.iload_n 3, 1) := by decide +kernel
theorem dX11_voice_81 : decode cX11_voice 81 = .ok (.invokevirtual 252, 3) := by decide +kernel
theorem dX11_voice_84 : decode cX11_voice 84 = .ok (.ireturn, 1) := by decide +kernel
theorem dX11_voice_85 : decode cX11_voice 85 = .ok (.aload 4, 2) := by decide +kernel
theorem dX11_voice_87 : decode cX11_voice 87 = .ok (.iload_n 3, 1) := by decide +kernel
theorem dX11_voice_88 : decode cX11_voice 88 = .ok (.invokevirtual 255, 3) := by decide +kernel
theorem dX11_voice_91 : decode cX11_voice 91 = .ok (.ireturn, 1) := by decide +kernel
theorem dX11_wire_0 : decode cX11_wire 0 = .ok (.iload_n 1, 1) := by decide +kernel
theorem dX11_wire_1 : decode cX11_wire 1 = .ok (.iload_n 2, 1) := by decide +kernel
theorem dX11_wire_2 : decode cX11_wire 2 = .ok (.invokestatic 67, 3) := by decide +kernel
theorem dX11_wire_5 : decode cX11_wire 5 = .ok (.ifCond .ne 9, 3) := by decide +kernel
theorem dX11_wire_8 : decode cX11_wire 8 = .ok (.aload_n 0, 1) := by decide +kernel
theorem dX11_wire_9 : decode cX11_wire 9 = .ok (.iconst 1, 1) := by decide +kernel
theorem dX11_wire_10 : decode cX11_wire 10 = .ok (.invokevirtual 73, 3) := by decide +kernel
theorem dX11_wire_13 : decode cX11_wire 13 = .ok (.ireturn, 1) := by decide +kernel
theorem dX11_wire_14 : decode cX11_wire 14 = .ok (.aload_n 0, 1) := by decide +kernel
theorem dX11_wire_15 : decode cX11_wire 15 = .ok (.getfield 21, 3) := by decide +kernel
theorem dX11_wire_18 : decode cX11_wire 18 = .ok (.getfield 77, 3) := by decide +kernel
theorem dX11_wire_21 : decode cX11_wire 21 = .ok (.iload_n 1, 1) := by decide +kernel
theorem dX11_wire_22 : decode cX11_wire 22 = .ok (.invokevirtual 81, 3) := by decide +kernel
theorem dX11_wire_25 : decode cX11_wire 25 = .ok (.istore_n 3, 1) := by decide +kernel
theorem dX11_wire_26 : decode cX11_wire 26 = .ok (.aload_n 0, 1) := by decide +kernel
theorem dX11_wire_27 : decode cX11_wire 27 = .ok (.getfield 21, 3) := by decide +kernel
theorem dX11_wire_30 : decode cX11_wire 30 = .ok (.getfield 77, 3) := by decide +kernel
theorem dX11_wire_33 : decode cX11_wire 33 = .ok (.iload_n 1, 1) := by decide +kernel
theorem dX11_wire_34 : decode cX11_wire 34 = .ok (.iload_n 2, 1) := by decide +kernel
theorem dX11_wire_35 : decode cX11_wire 35 = .ok (.invokevirtual 84, 3) := by decide +kernel
theorem dX11_wire_38 : decode cX11_wire 38 = .ok (.aload_n 0, 1) := by decide +kernel
theorem dX11_wire_39 : decode cX11_wire 39 = .ok (.getfield 21, 3) := by decide +kernel
theorem dX11_wire_42 : decode cX11_wire 42 = .ok (.invokevirtual 88, 3) := by decide +kernel
theorem dX11_wire_45 : decode cX11_wire 45 = .ok (.iload_n 3, 1) := by decide +kernel
theorem dX11_wire_46 : decode cX11_wire 46 = .ok (.ireturn, 1) := by decide +kernel
theorem dX11_within_0 : decode cX11_within 0 = .ok (.iload_n 0, 1) := by decide +kernel
theorem dX11_within_1 : decode cX11_within 1 = .ok (.iload_n 1, 1) := by decide +kernel
theorem dX11_within_2 : decode cX11_within 2 = .ok (.if_icmp .lt 12, 3) := by decide +kernel
theorem dX11_within_5 : decode cX11_within 5 = .ok (.iload_n 0, 1) := by decide +kernel
theorem dX11_within_6 : decode cX11_within 6 = .ok (.iload_n 2, 1) := by decide +kernel
theorem dX11_within_7 : decode cX11_within 7 = .ok (.if_icmp .gt 7, 3) := by decide +kernel
theorem dX11_within_10 : decode cX11_within 10 = .ok (.iconst 1, 1) := by decide +kernel
theorem dX11_within_11 : decode cX11_within 11 = .ok (.goto 4, 3) := by decide +kernel
theorem dX11_within_14 : decode cX11_within 14 = .ok (.iconst 0, 1) := by decide +kernel
theorem dX11_within_15 : decode cX11_within 15 = .ok (.ireturn, 1) := by decide +kernel
theorem dX12_above_0 : decode cX12_above 0 = .ok (.iload_n 0, 1) := by decide +kernel
theorem dX12_above_1 : decode cX12_above 1 = .ok (.ifCond .ne 7, 3) := by decide +kernel
theorem dX12_above_4 : decode cX12_above 4 = .ok (.iconst (-1), 1) := by decide +kernel
theorem dX12_above_5 : decode cX12_above 5 = .ok (.goto 32, 3) := by decide +kernel
theorem dX12_above_8 : decode cX12_above 8 = .ok (.iload_n 0, 1) := by decide +kernel
theorem dX12_above_9 : decode cX12_above 9 = .ok (.iconst 3, 1) := by decide +kernel
theorem dX12_above_10 : decode cX12_above 10 = .ok (.if_icmp .ne 7, 3) := by decide +kernel
theorem dX12_above_13 : decode cX12_above 13 = .ok (.iconst 1, 1) := by decide +kernel
theorem dX12_above_14 : decode cX12_above 14 = .ok (.goto 23, 3) := by decide +kernel
theorem dX12_above_17 : decode cX12_above 17 = .ok (.iload_n 0, 1) := by decide +kernel
theorem dX12_above_18 : decode cX12_above 18 = .ok (.iconst 5, 1) := by decide +kernel
theorem dX12_above_19 : decode cX12_above 19 = .ok (.if_icmp .ne 7, 3) := by decide +kernel
theorem dX12_above_22 : decode cX12_above 22 = .ok (.iconst 3, 1) := by decide +kernel
theorem dX12_above_23 : decode cX12_above 23 = .ok (.goto 14, 3) := by decide +kernel
theorem dX12_above_26 : decode cX12_above 26 = .ok (.iload_n 0, 1) := by decide +kernel
theorem dX12_above_27 : decode cX12_above 27 = .ok (.bipush 6, 2) := by decide +kernel
theorem dX12_above_29 : decode cX12_above 29 = .ok (.if_icmp .ne 7, 3) := by decide +kernel
theorem dX12_above_32 : decode cX12_above 32 = .ok (.iconst 2, 1) := by decide +kernel
theorem dX12_above_33 : decode cX12_above 33 = .ok (.goto 4, 3) := by decide +kernel
theorem dX12_above_36 : decode cX12_above 36 = .ok (.iconst 0, 1) := by decide +kernel
theorem dX12_above_37 : decode cX12_above 37 = .ok (.ireturn, 1) := by decide +kernel
theorem dX12_as_0 : decode cX12_as 0 = .ok (.aload_n 0, 1) := by decide +kernel
theorem dX12_as_1 : decode cX12_as 1 = .ok (.iload_n 1, 1) := by decide +kernel
theorem dX12_as_2 : decode cX12_as 2 = .ok (.iconst 1, 1) := by decide +kernel
theorem dX12_as_3 : decode cX12_as 3 = .ok (.invokevirtual 148, 3) := by decide +kernel
theorem dX12_as_6 : decode cX12_as 6 = .ok (.ifCond .eq 13, 3) := by decide +kernel
theorem dX12_as_9 : decode cX12_as 9 = .ok (.iload_n 2, 1) := by decide +kernel
theorem dX12_as_10 : decode cX12_as 10 = .ok (.iconst 0, 1) := by decide +kernel
theorem dX12_as_11 : decode cX12_as 11 = .ok (.bipush 6, 2) := by decide +kernel
theorem dX12_as_13 : decode cX12_as 13 = .ok (.invokestatic 86, 3) := by decide +kernel
theorem dX12_as_16 : decode cX12_as 16 = .ok (.ifCond .ne 10, 3) := by decide +kernel
theorem dX12_as_19 : decode cX12_as 19 = .ok (.aload_n 0, 1) := by decide +kernel
theorem dX12_as_20 : decode cX12_as 20 = .ok (.ldc 90, 2) := by decide +kernel
theorem dX12_as_22 : decode cX12_as 22 = .ok (.invokevirtual 91, 3) := by decide +kernel
theorem dX12_as_25 : decode cX12_as 25 = .ok (.ireturn, 1) := by decide +kernel
theorem dX12_as_26 : decode cX12_as 26 = .ok (.aload_n 0, 1) := by decide +kernel
theorem dX12_as_27 : decode cX12_as 27 = .ok (.iload_n 1, 1) := by decide +kernel
theorem dX12_as_28 : decode cX12_as 28 = .ok (.iconst 0, 1) := by decide +kernel
theorem dX12_as_29 : decode cX12_as 29 = .ok (.invokevirtual 98, 3) := by decide +kernel
theorem dX12_as_32 : decode cX12_as 32 = .ok (.istore_n 3, 1) := by decide +kernel
theorem dX12_as_33 : decode cX12_as 33 = .ok (.iload_n 3, 1) := by decide +kernel
theorem dX12_as_34 : decode cX12_as 34 = .ok (.ifCond .lt 16, 3) := by decide +kernel
theorem dX12_as_37 : decode cX12_as 37 = .ok (.iload_n 3, 1) := by decide +kernel
theorem dX12_as_38 : decode cX12_as 38 = .ok (.iload_n 2, 1) := by decide +kernel
theorem dX12_as_39 : decode cX12_as 39 = .ok (.if_icmp .eq 11, 3) := by decide +kernel
theorem dX12_as_42 : decode cX12_as 42 = .ok (.iload_n 3, 1) := by decide +kernel
theorem dX12_as_43 : decode cX12_as 43 = .ok (.invokestatic 154, 3) := by decide +kernel
theorem dX12_as_46 : decode cX12_as 46 = .ok (.istore_n 3, 1) := by decide +kernel
theorem dX12_as_47 : decode cX12_as 47 = .ok (.goto (-14), 3) := by decide +kernel
theorem dX12_as_50 : decode cX12_as 50 = .ok (.iload_n 3, 1) := by decide +kernel
theorem dX12_as_51 : decode cX12_as 51 = .ok (.ifCond .ge 12, 3) := by decide +kernel
theorem dX12_as_54 : decode cX12_as 54 = .ok (.aload_n 0, 1) := by decide +kernel
theorem dX12_as_55 : decode cX12_as 55 = .ok (.ldc 157, 2) := by decide +kernel
theorem dX12_as_57 : decode cX12_as 57 = .ok (.invokevirtual 91, 3) := by decide +kernel
theorem dX12_as_60 : decode cX12_as 60 = .ok (.goto 9, 3) := by decide +kernel
theorem dX12_as_63 : decode cX12_as 63 = .ok (.aload_n 0, 1) := by decide +kernel
theorem dX12_as_64 : decode cX12_as 64 = .ok (.iload_n 1, 1) := by decide +kernel
theorem dX12_as_65 : decode cX12_as 65 = .ok (.iconst 1, 1) := by decide +kernel
theorem dX12_as_66 : decode cX12_as 66 = .ok (.invokevirtual 98, 3) := by decide +kernel
theorem dX12_as_69 : decode cX12_as 69 = .ok (.ireturn, 1) := by decide +kernel
theorem dX12_back_0 : decode cX12_back 0 = .ok (.aload_n 0, 1) := by decide +kernel
theorem dX12_back_1 : decode cX12_back 1 = .ok (.getfield 16, 3) := by decide +kernel
theorem dX12_back_4 : decode cX12_back 4 = .ok (.aload_n 0, 1) := by decide +kernel
theorem dX12_back_5 : decode cX12_back 5 = .ok (.getfield 9, 3) := by decide +kernel
theorem dX12_back_8 : decode cX12_back 8 = .ok (.invokestatic 82, 3) := by decide +kernel
theorem dX12_back_11 : decode cX12_back 11 = .ok (.iload_n 1, 1) := by decide +kernel
theorem dX12_back_12 : decode cX12_back 12 = .ok (.ireturn, 1) := by decide +kernel
theorem dX12_become_0 : decode cX12_become 0 = .ok (.aload_n 0, 1) := by decide +kernel
theorem dX12_become_1 : decode cX12_become 1 = .ok (.getfield 9, 3) := by decide +kernel
theorem dX12_become_4 : decode cX12_become 4 = .ok (.iload_n 1, 1) := by decide +kernel
theorem dX12_become_5 : decode cX12_become 5 = .ok (.iaload, 1) := by decide +kernel
theorem dX12_become_6 : decode cX12_become 6 = .ok (.istore_n 3, 1) := by decide +kernel
theorem dX12_become_7 : decode cX12_become 7 = .ok (.aload_n 0, 1) := by decide +kernel
theorem dX12_become_8 : decode cX12_become 8 = .ok (.getfield 9, 3) := by decide +kernel
theorem dX12_become_11 : decode cX12_become 11 = .ok (.iload_n 1, 1) := by decide +kernel
theorem dX12_become_12 : decode cX12_become 12 = .ok (.iload_n 2, 1) := by decide +kernel
theorem dX12_become_13 : decode cX12_become 13 = .ok (.iastore, 1) := by decide +kernel
theorem dX12_become_14 : decode cX12_become 14 = .ok (.iload_n 3, 1) := by decide +kernel
theorem dX12_become_15 : decode cX12_become 15 = .ok (.ireturn, 1) := by decide +kernel
theorem dX12_began_0 : decode cX12_began 0 = .ok (.aload_n 0, 1) := by decide +kernel
theorem dX12_began_1 : decode cX12_began 1 = .ok (.getfield 282, 3) := by decide +kernel
theorem dX12_began_4 : decode cX12_began 4 = .ok (.bipush 40, 2) := by decide +kernel
theorem dX12_began_6 : decode cX12_began 6 = .ok (.if_icmp .ge 23, 3) := by decide +kernel
theorem dX12_began_9 : decode cX12_began 9 = .ok (.aload_n 0, 1) := by decide +kernel
theorem dX12_began_10 : decode cX12_began 10 = .ok (.getfield 57, 3) := by decide +kernel
theorem dX12_began_13 : decode cX12_began 13 = .ok (.aload_n 0, 1) := by decide +kernel
theorem dX12_began_14 : decode cX12_began 14 = .ok (.getfield 282, 3) := by decide +kernel
theorem dX12_began_17 : decode cX12_began 17 = .ok (.iload_n 1, 1) := by decide +kernel
theorem dX12_began_18 : decode cX12_began 18 = .ok (.iastore, 1) := by decide +kernel
theorem dX12_began_19 : decode cX12_began 19 = .ok (.aload_n 0, 1) := by decide +kernel
theorem dX12_began_20 : decode cX12_began 20 = .ok (.dup, 1) := by decide +kernel
theorem dX12_began_21 : decode cX12_began 21 = .ok (.getfield 282, 3) := by decide +kernel
theorem dX12_began_24 : decode cX12_began 24 = .ok (.iconst 1, 1) := by decide +kernel
theorem dX12_began_25 : decode cX12_began 25 = .ok (.iadd, 1) := by decide +kernel
theorem dX12_began_26 : decode cX12_began 26 = .ok (.putfield 282, 3) := by decide +kernel
theorem dX12_began_29 : decode cX12_began 29 = .ok (.return_, 1) := by decide +kernel
theorem dX12_body_0 : decode cX12_body 0 = .ok (.iconst 4, 1) := by decide +kernel
theorem dX12_body_1 : decode cX12_body 1 = .ok (.iload_n 1, 1) := by decide +kernel
theorem dX12_body_2 : decode cX12_body 2 = .ok (.imul, 1) := by decide +kernel
theorem dX12_body_3 : decode cX12_body 3 = .ok (.iload_n 2, 1) := by decide +kernel
theorem dX12_body_4 : decode cX12_body 4 = .ok (.iadd, 1) := by decide +kernel
theorem dX12_body_5 : decode cX12_body 5 = .ok (.tableswitch 301 0 24 #[115, 128, 143, 161, 301, 185, 301, 301, 210, 301, 301, 301, 301, 301, 226, 301, 301, 301, 301, 241, 301, 266, 301, 301, 285], 115) := by decide +kernel
theorem dX12_body_120 : decode cX12_body 120 = .ok (.aload_n 0, 1) := by decide +kernel
theorem dX12_body_121 : decode cX12_body 121 = .ok (.bipush 10, 2) := by decide +kernel
theorem dX12_body_123 : decode cX12_body 123 = .ok (.invokevirtual 297, 3) := by decide +kernel
theorem dX12_body_126 : decode cX12_body 126 = .ok (.iload_n 3, 1) := by decide +kernel
theorem dX12_body_127 : decode cX12_body 127 = .ok (.aload_n 0, 1) := by decide +kernel
theorem dX12_body_128 : decode cX12_body 128 = .ok (.getfield 285, 3) := by decide +kernel
theorem dX12_body_131 : decode cX12_body 131 = .ok (.iadd, 1) := by decide +kernel
theorem dX12_body_132 : decode cX12_body 132 = .ok (.ireturn, 1) := by decide +kernel
theorem dX12_body_133 : decode cX12_body 133 = .ok (.aload_n 0, 1) := by decide +kernel
theorem dX12_body_134 : decode cX12_body 134 = .ok (.bipush 11, 2) := by decide +kernel
theorem dX12_body_136 : decode cX12_body 136 = .ok (.invokevirtual 297, 3) := by decide +kernel
theorem dX12_body_139 : decode cX12_body 139 = .ok (.aload_n 0, 1) := by decide +kernel
theorem dX12_body_140 : decode cX12_body 140 = .ok (.iconst 0, 1) := by decide +kernel
theorem dX12_body_141 : decode cX12_body 141 = .ok (.iload_n 3, 1) := by decide +kernel
theorem dX12_body_142 : decode cX12_body 142 = .ok (.invokevirtual 300, 3) := by decide +kernel
theorem dX12_body_145 : decode cX12_body 145 = .ok (.iconst 2, 1) := by decide +kernel
theorem dX12_body_146 : decode cX12_body 146 = .ok (.imul, 1) := by decide +kernel
theorem dX12_body_147 : decode cX12_body 147 = .ok (.ireturn, 1) := by decide +kernel
theorem dX12_body_148 : decode cX12_body 148 = .ok (.aload_n 0, 1) := by decide +kernel
theorem dX12_body_149 : decode cX12_body 149 = .ok (.bipush 12, 2) := by decide +kernel
theorem dX12_body_151 : decode cX12_body 151 = .ok (.invokevirtual 297, 3) := by decide +kernel
theorem dX12_body_154 : decode cX12_body 154 = .ok (.iload_n 3, 1) := by decide +kernel
theorem dX12_body_155 : decode cX12_body 155 = .ok (.aload_n 0, 1) := by decide +kernel
theorem dX12_body_156 : decode cX12_body 156 = .ok (.aload_n 0, 1) := by decide +kernel
theorem dX12_body_157 : decode cX12_body 157 = .ok (.getfield 285, 3) := by decide +kernel
theorem dX12_body_160 : decode cX12_body 160 = .ok (.iconst 2, 1) := by decide +kernel
theorem dX12_body_161 : decode cX12_body 161 = .ok (.invokevirtual 98, 3) := by decide +kernel
theorem dX12_body_164 : decode cX12_body 164 = .ok (.isub, 1) := by decide +kernel
theorem dX12_body_165 : decode cX12_body 165 = .ok (.ireturn, 1) := by decide +kernel
theorem dX12_body_166 : decode cX12_body 166 = .ok (.aload_n 0, 1) := by decide +kernel
theorem dX12_body_167 : decode cX12_body 167 = .ok (.bipush 13, 2) := by decide +kernel
theorem dX12_body_169 : decode cX12_body 169 = .ok (.invokevirtual 297, 3) := by decide +kernel
theorem dX12_body_172 : decode cX12_body 172 = .ok (.aload_n 0, 1) := by decide +kernel
theorem dX12_body_173 : decode cX12_body 173 = .ok (.iconst 1, 1) := by decide +kernel
theorem dX12_body_174 : decode cX12_body 174 = .ok (.iload_n 3, 1) := by decide +kernel
theorem dX12_body_175 : decode cX12_body 175 = .ok (.invokevirtual 300, 3) := by decide +kernel
theorem dX12_body_178 : decode cX12_body 178 = .ok (.istore 4, 2) := by decide +kernel
theorem dX12_body_180 : decode cX12_body 180 = .ok (.iload 4, 2) := by decide +kernel
theorem dX12_body_182 : decode cX12_body 182 = .ok (.aload_n 0, 1) := by decide +kernel
theorem dX12_body_183 : decode cX12_body 183 = .ok (.iconst 2, 1) := by decide +kernel
theorem dX12_body_184 : decode cX12_body 184 = .ok (.iload_n 3, 1) := by decide +kernel
theorem dX12_body_185 : decode cX12_body 185 = .ok (.invokevirtual 300, 3) := by decide +kernel
theorem dX12_body_188 : decode cX12_body 188 = .ok (.ixor, 1) := by decide +kernel
theorem dX12_body_189 : decode cX12_body 189 = .ok (.ireturn, 1) := by decide +kernel
theorem dX12_body_190 : decode cX12_body 190 = .ok (.aload_n 0, 1) := by decide +kernel
theorem dX12_body_191 : decode cX12_body 191 = .ok (.bipush 20, 2) := by decide +kernel
theorem dX12_body_193 : decode cX12_body 193 = .ok (.invokevirtual 297, 3) := by decide +kernel
theorem dX12_body_196 : decode cX12_body 196 = .ok (.aload_n 0, 1) := by decide +kernel
theorem dX12_body_197 : decode cX12_body 197 = .ok (.iconst 0, 1) := by decide +kernel
theorem dX12_body_198 : decode cX12_body 198 = .ok (.iconst 1, 1) := by decide +kernel
theorem dX12_body_199 : decode cX12_body 199 = .ok (.iload_n 3, 1) := by decide +kernel
theorem dX12_body_200 : decode cX12_body 200 = .ok (.invokevirtual 288, 3) := by decide +kernel
theorem dX12_body_203 : decode cX12_body 203 = .ok (.istore 4, 2) := by decide +kernel
theorem dX12_body_205 : decode cX12_body 205 = .ok (.iload 4, 2) := by decide +kernel
theorem dX12_body_207 : decode cX12_body 207 = .ok (.aload_n 0, 1) := by decide +kernel
theorem dX12_body_208 : decode cX12_body 208 = .ok (.iconst 2, 1) := by decide +kernel
theorem dX12_body_209 : decode cX12_body 209 = .ok (.iconst 1, 1) := by decide +kernel
theorem dX12_body_210 : decode cX12_body 210 = .ok (.invokevirtual 300, 3) := by decide +kernel
theorem dX12_body_213 : decode cX12_body 213 = .ok (.isub, 1) := by decide +kernel
theorem dX12_body_214 : decode cX12_body 214 = .ok (.ireturn, 1) := by decide +kernel
theorem dX12_body_215 : decode cX12_body 215 = .ok (.aload_n 0, 1) := by decide +kernel
theorem dX12_body_216 : decode cX12_body 216 = .ok (.bipush 30, 2) := by decide +kernel
theorem dX12_body_218 : decode cX12_body 218 = .ok (.invokevirtual 297, 3) := by decide +kernel
theorem dX12_body_221 : decode cX12_body 221 = .ok (.aload_n 0, 1) := by decide +kernel
theorem dX12_body_222 : decode cX12_body 222 = .ok (.iconst 0, 1) := by decide +kernel
theorem dX12_body_223 : decode cX12_body 223 = .ok (.iconst 0, 1) := by decide +kernel
theorem dX12_body_224 : decode cX12_body 224 = .ok (.iload_n 3, 1) := by decide +kernel
theorem dX12_body_225 : decode cX12_body 225 = .ok (.invokevirtual 288, 3) := by decide +kernel
theorem dX12_body_228 : decode cX12_body 228 = .ok (.iconst 3, 1) := by decide +kernel
theorem dX12_body_229 : decode cX12_body 229 = .ok (.imul, 1) := by decide +kernel
theorem dX12_body_230 : decode cX12_body 230 = .ok (.ireturn, 1) := by decide +kernel
theorem dX12_body_231 : decode cX12_body 231 = .ok (.aload_n 0, 1) := by decide +kernel
theorem dX12_body_232 : decode cX12_body 232 = .ok (.bipush 40, 2) := by decide +kernel
theorem dX12_body_234 : decode cX12_body 234 = .ok (.invokevirtual 297, 3) := by decide +kernel
theorem dX12_body_237 : decode cX12_body 237 = .ok (.aload_n 0, 1) := by decide +kernel
theorem dX12_body_238 : decode cX12_body 238 = .ok (.iconst 1, 1) := by decide +kernel
theorem dX12_body_239 : decode cX12_body 239 = .ok (.iconst 2, 1) := by decide +kernel
theorem dX12_body_240 : decode cX12_body 240 = .ok (.iload_n 3, 1) := by decide +kernel
theorem dX12_body_241 : decode cX12_body 241 = .ok (.invokevirtual 288, 3) := by decide +kernel
theorem dX12_body_244 : decode cX12_body 244 = .ok (.ineg, 1) := by decide +kernel
theorem dX12_body_245 : decode cX12_body 245 = .ok (.ireturn, 1) := by decide +kernel
theorem dX12_body_246 : decode cX12_body 246 = .ok (.aload_n 0, 1) := by decide +kernel
theorem dX12_body_247 : decode cX12_body 247 = .ok (.bipush 50, 2) := by decide +kernel
theorem dX12_body_249 : decode cX12_body 249 = .ok (.invokevirtual 297, 3) := by decide +kernel
theorem dX12_body_252 : decode cX12_body 252 = .ok (.aload_n 0, 1) := by decide +kernel
theorem dX12_body_253 : decode cX12_body 253 = .ok (.iconst 0, 1) := by decide +kernel
theorem dX12_body_254 : decode cX12_body 254 = .ok (.iconst 3, 1) := by decide +kernel
theorem dX12_body_255 : decode cX12_body 255 = .ok (.iload_n 3, 1) := by decide +kernel
theorem dX12_body_256 : decode cX12_body 256 = .ok (.invokevirtual 288, 3) := by decide +kernel
theorem dX12_body_259 : decode cX12_body 259 = .ok (.istore 4, 2) := by decide +kernel
theorem dX12_body_261 : decode cX12_body 261 = .ok (.iload 4, 2) := by decide +kernel
theorem dX12_body_263 : decode cX12_body 263 = .ok (.aload_n 0, 1) := by decide +kernel
theorem dX12_body_264 : decode cX12_body 264 = .ok (.iconst 0, 1) := by decide +kernel
theorem dX12_body_265 : decode cX12_body 265 = .ok (.iconst 2, 1) := by decide +kernel
theorem dX12_body_266 : decode cX12_body 266 = .ok (.invokevirtual 300, 3) := by decide +kernel
theorem dX12_body_269 : decode cX12_body 269 = .ok (.isub, 1) := by decide +kernel
theorem dX12_body_270 : decode cX12_body 270 = .ok (.ireturn, 1) := by decide +kernel
theorem dX12_body_271 : decode cX12_body 271 = .ok (.aload_n 0, 1) := by decide +kernel
theorem dX12_body_272 : decode cX12_body 272 = .ok (.bipush 60, 2) := by decide +kernel
theorem dX12_body_274 : decode cX12_body 274 = .ok (.invokevirtual 297, 3) := by decide +kernel
theorem dX12_body_277 : decode cX12_body 277 = .ok (.aload_n 0, 1) := by decide +kernel
theorem dX12_body_278 : decode cX12_body 278 = .ok (.iconst 3, 1) := by decide +kernel
theorem dX12_body_279 : decode cX12_body 279 = .ok (.iconst 1, 1) := by decide +kernel
theorem dX12_body_280 : decode cX12_body 280 = .ok (.iload_n 3, 1) := by decide +kernel
theorem dX12_body_281 : decode cX12_body 281 = .ok (.invokevirtual 288, 3) := by decide +kernel
theorem dX12_body_284 : decode cX12_body 284 = .ok (.aload_n 0, 1) := by decide +kernel
theorem dX12_body_285 : decode cX12_body 285 = .ok (.getfield 285, 3) := by decide +kernel
theorem dX12_body_288 : decode cX12_body 288 = .ok (.ixor, 1) := by decide +kernel
theorem dX12_body_289 : decode cX12_body 289 = .ok (.ireturn, 1) := by decide +kernel
theorem dX12_body_290 : decode cX12_body 290 = .ok (.aload_n 0, 1) := by decide +kernel
theorem dX12_body_291 : decode cX12_body 291 = .ok (.bipush 70, 2) := by decide +kernel
theorem dX12_body_293 : decode cX12_body 293 = .ok (.invokevirtual 297, 3) := by decide +kernel
theorem dX12_body_296 : decode cX12_body 296 = .ok (.aload_n 0, 1) := by decide +kernel
theorem dX12_body_297 : decode cX12_body 297 = .ok (.iconst 2, 1) := by decide +kernel
theorem dX12_body_298 : decode cX12_body 298 = .ok (.iconst 0, 1) := by decide +kernel
theorem dX12_body_299 : decode cX12_body 299 = .ok (.iload_n 3, 1) := by decide +kernel
theorem dX12_body_300 : decode cX12_body 300 = .ok (.iconst 1, 1) := by decide +kernel
theorem dX12_body_301 : decode cX12_body 301 = .ok (.iadd, 1) := by decide +kernel
theorem dX12_body_302 : decode cX12_body 302 = .ok (.invokevirtual 288, 3) := by decide +kernel
theorem dX12_body_305 : decode cX12_body 305 = .ok (.ireturn, 1) := by decide +kernel
theorem dX12_body_306 : decode cX12_body 306 = .ok (.aload_n 0, 1) := by decide +kernel
theorem dX12_body_307 : decode cX12_body 307 = .ok (.bipush 71, 2) := by decide +kernel
theorem dX12_body_309 : decode cX12_body 309 = .ok (.invokevirtual 297, 3) := by decide +kernel
theorem dX12_body_312 : decode cX12_body 312 = .ok (.aload_n 0, 1) := by decide +kernel
theorem dX12_body_313 : decode cX12_body 313 = .ok (.iconst 1, 1) := by decide +kernel
theorem dX12_body_314 : decode cX12_body 314 = .ok (.iload_n 3, 1) := by decide +kernel
theorem dX12_body_315 : decode cX12_body 315 = .ok (.invokevirtual 300, 3) := by decide +kernel
theorem dX12_body_318 : decode cX12_body 318 = .ok (.istore 4, 2) := by decide +kernel
theorem dX12_body_320 : decode cX12_body 320 = .ok (.iload 4, 2) := by decide +kernel
theorem dX12_body_322 : decode cX12_body 322 = .ok (.aload_n 0, 1) := by decide +kernel
theorem dX12_body_323 : decode cX12_body 323 = .ok (.iconst 2, 1) := by decide +kernel
theorem dX12_body_324 : decode cX12_body 324 = .ok (.iconst 3, 1) := by decide +kernel
theorem dX12_body_325 : decode cX12_body 325 = .ok (.iload_n 3, 1) := by decide +kernel
theorem dX12_body_326 : decode cX12_body 326 = .ok (.invokevirtual 288, 3) := by decide +kernel
theorem dX12_body_329 : decode cX12_body 329 = .ok (.isub, 1) := by decide +kernel
theorem dX12_body_330 : decode cX12_body 330 = .ok (.ireturn, 1) := by decide +kernel
theorem dX12_bodyFrom_0 : decode cX12_bodyFrom 0 = .ok (.iload_n 1, 1) := by decide +kernel
theorem dX12_bodyFrom_1 : decode cX12_bodyFrom 1 = .ok (.istore 4, 2) := by decide +kernel
theorem dX12_bodyFrom_3 : decode cX12_bodyFrom 3 = .ok (.iload 4, 2) := by decide +kernel
theorem dX12_bodyFrom_5 : decode cX12_bodyFrom 5 = .ok (.iload_n 2, 1) := by decide +kernel
theorem dX12_bodyFrom_6 : decode cX12_bodyFrom 6 = .ok (.invokestatic 291, 3) := by decide +kernel
theorem dX12_bodyFrom_9 : decode cX12_bodyFrom 9 = .ok (.ifCond .ne 13, 3) := by decide +kernel
theorem dX12_bodyFrom_12 : decode cX12_bodyFrom 12 = .ok (.iload 4, 2) := by decide +kernel
theorem dX12_bodyFrom_14 : decode cX12_bodyFrom 14 = .ok (.invokestatic 154, 3) := by decide +kernel
theorem dX12_bodyFrom_17 : decode cX12_bodyFrom 17 = .ok (.istore 4, 2) := by decide +kernel
theorem dX12_bodyFrom_19 : decode cX12_bodyFrom 19 = .ok (.goto (-16), 3) := by decide +kernel
theorem dX12_bodyFrom_22 : decode cX12_bodyFrom 22 = .ok (.aload_n 0, 1) := by decide +kernel
theorem dX12_bodyFrom_23 : decode cX12_bodyFrom 23 = .ok (.iload 4, 2) := by decide +kernel
theorem dX12_bodyFrom_25 : decode cX12_bodyFrom 25 = .ok (.iload_n 2, 1) := by decide +kernel
theorem dX12_bodyFrom_26 : decode cX12_bodyFrom 26 = .ok (.iload_n 3, 1) := by decide +kernel
theorem dX12_bodyFrom_27 : decode cX12_bodyFrom 27 = .ok (.invokevirtual 294, 3) := by decide +kernel
theorem dX12_bodyFrom_30 : decode cX12_bodyFrom 30 = .ok (.ireturn, 1) := by decide +kernel
theorem dX12_both_0 : decode cX12_both 0 = .ok (.aload_n 0, 1) := by decide +kernel
theorem dX12_both_1 : decode cX12_both 1 = .ok (.invokevirtual 184, 3) := by decide +kernel
theorem dX12_both_4 : decode cX12_both 4 = .ok (.aload_n 0, 1) := by decide +kernel
theorem dX12_both_5 : decode cX12_both 5 = .ok (.bipush 38, 2) := by decide +kernel
theorem dX12_both_7 : decode cX12_both 7 = .ok (.invokevirtual 177, 3) := by decide +kernel
theorem dX12_both_10 : decode cX12_both 10 = .ok (.ifCond .eq 17, 3) := by decide +kernel
theorem dX12_both_13 : decode cX12_both 13 = .ok (.aload_n 0, 1) := by decide +kernel
theorem dX12_both_14 : decode cX12_both 14 = .ok (.invokevirtual 184, 3) := by decide +kernel
theorem dX12_both_17 : decode cX12_both 17 = .ok (.aload_n 0, 1) := by decide +kernel
theorem dX12_both_18 : decode cX12_both 18 = .ok (.sipush 20001, 3) := by decide +kernel
theorem dX12_both_21 : decode cX12_both 21 = .ok (.invokevirtual 180, 3) := by decide +kernel
theorem dX12_both_24 : decode cX12_both 24 = .ok (.goto (-20), 3) := by decide +kernel
theorem dX12_both_27 : decode cX12_both 27 = .ok (.return_, 1) := by decide +kernel
theorem dX12_brakes_0 : decode cX12_brakes 0 = .ok (.aload_n 0, 1) := by decide +kernel
theorem dX12_brakes_1 : decode cX12_brakes 1 = .ok (.iload_n 1, 1) := by decide +kernel
theorem dX12_brakes_2 : decode cX12_brakes 2 = .ok (.iconst 4, 1) := by decide +kernel
theorem dX12_brakes_3 : decode cX12_brakes 3 = .ok (.invokevirtual 98, 3) := by decide +kernel
theorem dX12_brakes_6 : decode cX12_brakes 6 = .ok (.aload_n 0, 1) := by decide +kernel
theorem dX12_brakes_7 : decode cX12_brakes 7 = .ok (.iload_n 1, 1) := by decide +kernel
theorem dX12_brakes_8 : decode cX12_brakes 8 = .ok (.iconst 2, 1) := by decide +kernel
theorem dX12_brakes_9 : decode cX12_brakes 9 = .ok (.invokevirtual 98, 3) := by decide +kernel
theorem dX12_brakes_12 : decode cX12_brakes 12 = .ok (.isub, 1) := by decide +kernel
theorem dX12_brakes_13 : decode cX12_brakes 13 = .ok (.istore_n 2, 1) := by decide +kernel
theorem dX12_brakes_14 : decode cX12_brakes 14 = .ok (.iload_n 2, 1) := by decide +kernel
theorem dX12_brakes_15 : decode cX12_brakes 15 = .ok (.ifCond .le 9, 3) := by decide +kernel
theorem dX12_brakes_18 : decode cX12_brakes 18 = .ok (.iload_n 2, 1) := by decide +kernel
theorem dX12_brakes_19 : decode cX12_brakes 19 = .ok (.iconst 2, 1) := by decide +kernel
theorem dX12_brakes_20 : decode cX12_brakes 20 = .ok (.idiv, 1) := by decide +kernel
theorem dX12_brakes_21 : decode cX12_brakes 21 = .ok (.goto 4, 3) := by decide +kernel
theorem dX12_brakes_24 : decode cX12_brakes 24 = .ok (.iconst 0, 1) := by decide +kernel
theorem dX12_brakes_25 : decode cX12_brakes 25 = .ok (.ireturn, 1) := by decide +kernel
theorem dX12_bridge_0 : decode cX12_bridge 0 = .ok (.iload_n 1, 1) := by decide +kernel
theorem dX12_bridge_1 : decode cX12_bridge 1 = .ok (.iconst 1, 1) := by decide +kernel
theorem dX12_bridge_2 : decode cX12_bridge 2 = .ok (.sipush 9999, 3) := by decide +kernel
theorem dX12_bridge_5 : decode cX12_bridge 5 = .ok (.invokestatic 86, 3) := by decide +kernel
theorem dX12_bridge_8 : decode cX12_bridge 8 = .ok (.ifCond .eq 23, 3) := by decide +kernel
theorem dX12_bridge_11 : decode cX12_bridge 11 = .ok (.iload_n 2, 1) := by decide +kernel
theorem dX12_bridge_12 : decode cX12_bridge 12 = .ok (.iconst 1, 1) := by decide +kernel
theorem dX12_bridge_13 : decode cX12_bridge 13 = .ok (.bipush 99, 2) := by decide +kernel
theorem dX12_bridge_15 : decode cX12_bridge 15 = .ok (.invokestatic 86, 3) := by decide +kernel
theorem dX12_bridge_18 : decode cX12_bridge 18 = .ok (.ifCond .eq 13, 3) := by decide +kernel
theorem dX12_bridge_21 : decode cX12_bridge 21 = .ok (.iload_n 1, 1) := by decide +kernel
theorem dX12_bridge_22 : decode cX12_bridge 22 = .ok (.iload_n 2, 1) := by decide +kernel
theorem dX12_bridge_23 : decode cX12_bridge 23 = .ok (.iadd, 1) := by decide +kernel
theorem dX12_bridge_24 : decode cX12_bridge 24 = .ok (.iconst 1, 1) := by decide +kernel
theorem dX12_bridge_25 : decode cX12_bridge 25 = .ok (.isub, 1) := by decide +kernel
theorem dX12_bridge_26 : decode cX12_bridge 26 = .ok (.iload_n 2, 1) := by decide +kernel
theorem dX12_bridge_27 : decode cX12_bridge 27 = .ok (.idiv, 1) := by decide +kernel
theorem dX12_bridge_28 : decode cX12_bridge 28 = .ok (.goto 9, 3) := by decide +kernel
theorem dX12_bridge_31 : decode cX12_bridge 31 = .ok (.aload_n 0, 1) := by decide +kernel
theorem dX12_bridge_32 : decode cX12_bridge 32 = .ok (.ldc 90, 2) := by decide +kernel
theorem dX12_bridge_34 : decode cX12_bridge 34 = .ok (.invokevirtual 91, 3) := by decide +kernel
theorem dX12_bridge_37 : decode cX12_bridge 37 = .ok (.ireturn, 1) := by decide +kernel
theorem dX12_check_0 : decode cX12_check 0 = .ok (.aload_n 0, 1) := by decide +kernel
theorem dX12_check_1 : decode cX12_check 1 = .ok (.getfield 9, 3) := by decide +kernel
theorem dX12_check_4 : decode cX12_check 4 = .ok (.iconst 5, 1) := by decide +kernel
theorem dX12_check_5 : decode cX12_check 5 = .ok (.iaload, 1) := by decide +kernel
theorem dX12_check_6 : decode cX12_check 6 = .ok (.istore_n 2, 1) := by decide +kernel
theorem dX12_check_7 : decode cX12_check 7 = .ok (.aload_n 0, 1) := by decide +kernel
theorem dX12_check_8 : decode cX12_check 8 = .ok (.getfield 9, 3) := by decide +kernel
theorem dX12_check_11 : decode cX12_check 11 = .ok (.iconst 5, 1) := by decide +kernel
theorem dX12_check_12 : decode cX12_check 12 = .ok (.iconst 0, 1) := by decide +kernel
theorem dX12_check_13 : decode cX12_check 13 = .ok (.iastore, 1) := by decide +kernel
theorem dX12_check_14 : decode cX12_check 14 = .ok (.iload_n 1, 1) := by decide +kernel
theorem dX12_check_15 : decode cX12_check 15 = .ok (.invokestatic 247, 3) := by decide +kernel
theorem dX12_check_18 : decode cX12_check 18 = .ok (.ifCond .ne 10, 3) := by decide +kernel
theorem dX12_check_21 : decode cX12_check 21 = .ok (.aload_n 0, 1) := by decide +kernel
theorem dX12_check_22 : decode cX12_check 22 = .ok (.ldc 90, 2) := by decide +kernel
theorem dX12_check_24 : decode cX12_check 24 = .ok (.invokevirtual 91, 3) := by decide +kernel
theorem dX12_check_27 : decode cX12_check 27 = .ok (.ireturn, 1) := by decide +kernel
theorem dX12_check_28 : decode cX12_check 28 = .ok (.aload_n 0, 1) := by decide +kernel
theorem dX12_check_29 : decode cX12_check 29 = .ok (.getfield 9, 3) := by decide +kernel
theorem dX12_check_32 : decode cX12_check 32 = .ok (.aload_n 0, 1) := by decide +kernel
theorem dX12_check_33 : decode cX12_check 33 = .ok (.getfield 16, 3) := by decide +kernel
theorem dX12_check_36 : decode cX12_check 36 = .ok (.invokestatic 82, 3) := by decide +kernel
theorem dX12_check_39 : decode cX12_check 39 = .ok (.aload_n 0, 1) := by decide +kernel
theorem dX12_check_40 : decode cX12_check 40 = .ok (.iload_n 1, 1) := by decide +kernel
theorem dX12_check_41 : decode cX12_check 41 = .ok (.invokevirtual 240, 3) := by decide +kernel
theorem dX12_check_44 : decode cX12_check 44 = .ok (.iconst 0, 1) := by decide +kernel
theorem dX12_check_45 : decode cX12_check 45 = .ok (.istore_n 3, 1) := by decide +kernel
theorem dX12_check_46 : decode cX12_check 46 = .ok (.iload_n 3, 1) := by decide +kernel
theorem dX12_check_47 : decode cX12_check 47 = .ok (.iload_n 2, 1) := by decide +kernel
theorem dX12_check_48 : decode cX12_check 48 = .ok (.if_icmp .ge 38, 3) := by decide +kernel
theorem dX12_check_51 : decode cX12_check 51 = .ok (.iload_n 3, 1) := by decide +kernel
theorem dX12_check_52 : decode cX12_check 52 = .ok (.aload_n 0, 1) := by decide +kernel
theorem dX12_check_53 : decode cX12_check 53 = .ok (.getfield 9, 3) := by decide +kernel
theorem dX12_check_56 : decode cX12_check 56 = .ok (.iconst 1, 1) := by decide +kernel
theorem dX12_check_57 : decode cX12_check 57 = .ok (.iaload, 1) := by decide +kernel
theorem dX12_check_58 : decode cX12_check 58 = .ok (.if_icmp .ge 28, 3) := by decide +kernel
theorem dX12_check_61 : decode cX12_check 61 = .ok (.aload_n 0, 1) := by decide +kernel
theorem dX12_check_62 : decode cX12_check 62 = .ok (.getfield 9, 3) := by decide +kernel
theorem dX12_check_65 : decode cX12_check 65 = .ok (.sipush 148, 3) := by decide +kernel
theorem dX12_check_68 : decode cX12_check 68 = .ok (.iload_n 3, 1) := by decide +kernel
theorem dX12_check_69 : decode cX12_check 69 = .ok (.iadd, 1) := by decide +kernel
theorem dX12_check_70 : decode cX12_check 70 = .ok (.iaload, 1) := by decide +kernel
theorem dX12_check_71 : decode cX12_check 71 = .ok (.aload_n 0, 1) := by decide +kernel
theorem dX12_check_72 : decode cX12_check 72 = .ok (.iload_n 3, 1) := by decide +kernel
theorem dX12_check_73 : decode cX12_check 73 = .ok (.iconst 3, 1) := by decide +kernel
theorem dX12_check_74 : decode cX12_check 74 = .ok (.invokevirtual 98, 3) := by decide +kernel
theorem dX12_check_77 : decode cX12_check 77 = .ok (.if_icmp .ne 9, 3) := by decide +kernel
theorem dX12_check_80 : decode cX12_check 80 = .ok (.iinc 3 1, 3) := by decide +kernel
theorem dX12_check_83 : decode cX12_check 83 = .ok (.goto (-37), 3) := by decide +kernel
theorem dX12_check_86 : decode cX12_check 86 = .ok (.aload_n 0, 1) := by decide +kernel
theorem dX12_check_87 : decode cX12_check 87 = .ok (.iload_n 3, 1) := by decide +kernel
theorem dX12_check_88 : decode cX12_check 88 = .ok (.iload_n 2, 1) := by decide +kernel
theorem dX12_check_89 : decode cX12_check 89 = .ok (.if_icmp .ne 17, 3) := by decide +kernel
theorem dX12_check_92 : decode cX12_check 92 = .ok (.iload_n 3, 1) := by decide +kernel
theorem dX12_check_93 : decode cX12_check 93 = .ok (.aload_n 0, 1) := by decide +kernel
theorem dX12_check_94 : decode cX12_check 94 = .ok (.getfield 9, 3) := by decide +kernel
theorem dX12_check_97 : decode cX12_check 97 = .ok (.iconst 1, 1) := by decide +kernel
theorem dX12_check_98 : decode cX12_check 98 = .ok (.iaload, 1) := by decide +kernel
theorem dX12_check_99 : decode cX12_check 99 = .ok (.if_icmp .ne 7, 3) := by decide +kernel
theorem dX12_check_102 : decode cX12_check 102 = .ok (.iconst 0, 1) := by decide +kernel
theorem dX12_check_103 : decode cX12_check 103 = .ok (.goto 6, 3) := by decide +kernel
theorem dX12_check_106 : decode cX12_check 106 = .ok (.iconst 1, 1) := by decide +kernel
theorem dX12_check_107 : decode cX12_check 107 = .ok (.iload_n 3, 1) := by decide +kernel
theorem dX12_check_108 : decode cX12_check 108 = .ok (.iadd, 1) := by decide +kernel
theorem dX12_check_109 : decode cX12_check 109 = .ok (.invokevirtual 250, 3) := by decide +kernel
theorem dX12_check_112 : decode cX12_check 112 = .ok (.ireturn, 1) := by decide +kernel
theorem dX12_codes_0 : decode cX12_codes 0 = .ok (.aload_n 0, 1) := by decide +kernel
theorem dX12_codes_1 : decode cX12_codes 1 = .ok (.getfield 160, 3) := by decide +kernel
theorem dX12_codes_4 : decode cX12_codes 4 = .ok (.ifCond .ne 23, 3) := by decide +kernel
theorem dX12_codes_7 : decode cX12_codes 7 = .ok (.aload_n 0, 1) := by decide +kernel
theorem dX12_codes_8 : decode cX12_codes 8 = .ok (.getfield 39, 3) := by decide +kernel
theorem dX12_codes_11 : decode cX12_codes 11 = .ok (.aload_n 0, 1) := by decide +kernel
theorem dX12_codes_12 : decode cX12_codes 12 = .ok (.getfield 171, 3) := by decide +kernel
theorem dX12_codes_15 : decode cX12_codes 15 = .ok (.iload_n 1, 1) := by decide +kernel
theorem dX12_codes_16 : decode cX12_codes 16 = .ok (.iastore, 1) := by decide +kernel
theorem dX12_codes_17 : decode cX12_codes 17 = .ok (.aload_n 0, 1) := by decide +kernel
theorem dX12_codes_18 : decode cX12_codes 18 = .ok (.dup, 1) := by decide +kernel
theorem dX12_codes_19 : decode cX12_codes 19 = .ok (.getfield 171, 3) := by decide +kernel
theorem dX12_codes_22 : decode cX12_codes 22 = .ok (.iconst 1, 1) := by decide +kernel
theorem dX12_codes_23 : decode cX12_codes 23 = .ok (.iadd, 1) := by decide +kernel
theorem dX12_codes_24 : decode cX12_codes 24 = .ok (.putfield 171, 3) := by decide +kernel
theorem dX12_codes_27 : decode cX12_codes 27 = .ok (.return_, 1) := by decide +kernel
theorem dX12_comes_0 : decode cX12_comes 0 = .ok (.aload_n 0, 1) := by decide +kernel
theorem dX12_comes_1 : decode cX12_comes 1 = .ok (.iload_n 1, 1) := by decide +kernel
theorem dX12_comes_2 : decode cX12_comes 2 = .ok (.iconst 1, 1) := by decide +kernel
theorem dX12_comes_3 : decode cX12_comes 3 = .ok (.invokevirtual 148, 3) := by decide +kernel
theorem dX12_comes_6 : decode cX12_comes 6 = .ok (.ifCond .ne 10, 3) := by decide +kernel
theorem dX12_comes_9 : decode cX12_comes 9 = .ok (.aload_n 0, 1) := by decide +kernel
theorem dX12_comes_10 : decode cX12_comes 10 = .ok (.ldc 90, 2) := by decide +kernel
theorem dX12_comes_12 : decode cX12_comes 12 = .ok (.invokevirtual 91, 3) := by decide +kernel
theorem dX12_comes_15 : decode cX12_comes 15 = .ok (.ireturn, 1) := by decide +kernel
theorem dX12_comes_16 : decode cX12_comes 16 = .ok (.aload_n 0, 1) := by decide +kernel
theorem dX12_comes_17 : decode cX12_comes 17 = .ok (.iload_n 1, 1) := by decide +kernel
theorem dX12_comes_18 : decode cX12_comes 18 = .ok (.invokevirtual 228, 3) := by decide +kernel
theorem dX12_comes_21 : decode cX12_comes 21 = .ok (.ifCond .eq 10, 3) := by decide +kernel
theorem dX12_comes_24 : decode cX12_comes 24 = .ok (.aload_n 0, 1) := by decide +kernel
theorem dX12_comes_25 : decode cX12_comes 25 = .ok (.ldc 137, 2) := by decide +kernel
theorem dX12_comes_27 : decode cX12_comes 27 = .ok (.invokevirtual 91, 3) := by decide +kernel
theorem dX12_comes_30 : decode cX12_comes 30 = .ok (.ireturn, 1) := by decide +kernel
theorem dX12_comes_31 : decode cX12_comes 31 = .ok (.aload_n 0, 1) := by decide +kernel
theorem dX12_comes_32 : decode cX12_comes 32 = .ok (.getfield 9, 3) := by decide +kernel
theorem dX12_comes_35 : decode cX12_comes 35 = .ok (.aload_n 0, 1) := by decide +kernel
theorem dX12_comes_36 : decode cX12_comes 36 = .ok (.getfield 16, 3) := by decide +kernel
theorem dX12_comes_39 : decode cX12_comes 39 = .ok (.invokestatic 82, 3) := by decide +kernel
theorem dX12_comes_42 : decode cX12_comes 42 = .ok (.aload_n 0, 1) := by decide +kernel
theorem dX12_comes_43 : decode cX12_comes 43 = .ok (.aload_n 0, 1) := by decide +kernel
theorem dX12_comes_44 : decode cX12_comes 44 = .ok (.iload_n 1, 1) := by decide +kernel
theorem dX12_comes_45 : decode cX12_comes 45 = .ok (.sipush 200, 3) := by decide +kernel
theorem dX12_comes_48 : decode cX12_comes 48 = .ok (.invokevirtual 253, 3) := by decide +kernel
theorem dX12_comes_51 : decode cX12_comes 51 = .ok (.invokevirtual 250, 3) := by decide +kernel
theorem dX12_comes_54 : decode cX12_comes 54 = .ok (.istore_n 2, 1) := by decide +kernel
theorem dX12_comes_55 : decode cX12_comes 55 = .ok (.iload_n 2, 1) := by decide +kernel
theorem dX12_comes_56 : decode cX12_comes 56 = .ok (.ifCond .ge 12, 3) := by decide +kernel
theorem dX12_comes_59 : decode cX12_comes 59 = .ok (.aload_n 0, 1) := by decide +kernel
theorem dX12_comes_60 : decode cX12_comes 60 = .ok (.ldc 132, 2) := by decide +kernel
theorem dX12_comes_62 : decode cX12_comes 62 = .ok (.invokevirtual 91, 3) := by decide +kernel
theorem dX12_comes_65 : decode cX12_comes 65 = .ok (.goto 4, 3) := by decide +kernel
theorem dX12_comes_68 : decode cX12_comes 68 = .ok (.iload_n 2, 1) := by decide +kernel
theorem dX12_comes_69 : decode cX12_comes 69 = .ok (.ireturn, 1) := by decide +kernel
theorem dX12_comesBy_0 : decode cX12_comesBy 0 = .ok (.iconst 0, 1) := by decide +kernel
theorem dX12_comesBy_1 : decode cX12_comesBy 1 = .ok (.istore_n 3, 1) := by decide +kernel
theorem dX12_comesBy_2 : decode cX12_comesBy 2 = .ok (.iload_n 3, 1) := by decide +kernel
theorem dX12_comesBy_3 : decode cX12_comesBy 3 = .ok (.iload_n 2, 1) := by decide +kernel
theorem dX12_comesBy_4 : decode cX12_comesBy 4 = .ok (.if_icmp .ge 21, 3) := by decide +kernel
theorem dX12_comesBy_7 : decode cX12_comesBy 7 = .ok (.aload_n 0, 1) := by decide +kernel
theorem dX12_comesBy_8 : decode cX12_comesBy 8 = .ok (.iload_n 1, 1) := by decide +kernel
theorem dX12_comesBy_9 : decode cX12_comesBy 9 = .ok (.invokevirtual 228, 3) := by decide +kernel
theorem dX12_comesBy_12 : decode cX12_comesBy 12 = .ok (.ifCond .ne 13, 3) := by decide +kernel
theorem dX12_comesBy_15 : decode cX12_comesBy 15 = .ok (.aload_n 0, 1) := by decide +kernel
theorem dX12_comesBy_16 : decode cX12_comesBy 16 = .ok (.invokevirtual 234, 3) := by decide +kernel
theorem dX12_comesBy_19 : decode cX12_comesBy 19 = .ok (.iinc 3 1, 3) := by decide +kernel
theorem dX12_comesBy_22 : decode cX12_comesBy 22 = .ok (.goto (-20), 3) := by decide +kernel
theorem dX12_comesBy_25 : decode cX12_comesBy 25 = .ok (.aload_n 0, 1) := by decide +kernel
theorem dX12_comesBy_26 : decode cX12_comesBy 26 = .ok (.iload_n 1, 1) := by decide +kernel
theorem dX12_comesBy_27 : decode cX12_comesBy 27 = .ok (.invokevirtual 228, 3) := by decide +kernel
theorem dX12_comesBy_30 : decode cX12_comesBy 30 = .ok (.ifCond .eq 7, 3) := by decide +kernel
theorem dX12_comesBy_33 : decode cX12_comesBy 33 = .ok (.iload_n 3, 1) := by decide +kernel
theorem dX12_comesBy_34 : decode cX12_comesBy 34 = .ok (.goto 4, 3) := by decide +kernel
theorem dX12_comesBy_37 : decode cX12_comesBy 37 = .ok (.iconst (-1), 1) := by decide +kernel
theorem dX12_comesBy_38 : decode cX12_comesBy 38 = .ok (.ireturn, 1) := by decide +kernel
theorem dX12_compared_0 : decode cX12_compared 0 = .ok (.aload_n 0, 1) := by decide +kernel
theorem dX12_compared_1 : decode cX12_compared 1 = .ok (.invokevirtual 187, 3) := by decide +kernel
theorem dX12_compared_4 : decode cX12_compared 4 = .ok (.aload_n 0, 1) := by decide +kernel
theorem dX12_compared_5 : decode cX12_compared 5 = .ok (.bipush 60, 2) := by decide +kernel
theorem dX12_compared_7 : decode cX12_compared 7 = .ok (.invokevirtual 177, 3) := by decide +kernel
theorem dX12_compared_10 : decode cX12_compared 10 = .ok (.ifCond .eq 9, 3) := by decide +kernel
theorem dX12_compared_13 : decode cX12_compared 13 = .ok (.sipush 20002, 3) := by decide +kernel
theorem dX12_compared_16 : decode cX12_compared 16 = .ok (.goto 34, 3) := by decide +kernel
theorem dX12_compared_19 : decode cX12_compared 19 = .ok (.aload_n 0, 1) := by decide +kernel
theorem dX12_compared_20 : decode cX12_compared 20 = .ok (.bipush 61, 2) := by decide +kernel
theorem dX12_compared_22 : decode cX12_compared 22 = .ok (.invokevirtual 177, 3) := by decide +kernel
theorem dX12_compared_25 : decode cX12_compared 25 = .ok (.ifCond .eq 9, 3) := by decide +kernel
theorem dX12_compared_28 : decode cX12_compared 28 = .ok (.sipush 20003, 3) := by decide +kernel
theorem dX12_compared_31 : decode cX12_compared 31 = .ok (.goto 19, 3) := by decide +kernel
theorem dX12_compared_34 : decode cX12_compared 34 = .ok (.aload_n 0, 1) := by decide +kernel
theorem dX12_compared_35 : decode cX12_compared 35 = .ok (.bipush 62, 2) := by decide +kernel
theorem dX12_compared_37 : decode cX12_compared 37 = .ok (.invokevirtual 177, 3) := by decide +kernel
theorem dX12_compared_40 : decode cX12_compared 40 = .ok (.ifCond .eq 9, 3) := by decide +kernel
theorem dX12_compared_43 : decode cX12_compared 43 = .ok (.sipush 20004, 3) := by decide +kernel
theorem dX12_compared_46 : decode cX12_compared 46 = .ok (.goto 4, 3) := by decide +kernel
theorem dX12_compared_49 : decode cX12_compared 49 = .ok (.iconst 0, 1) := by decide +kernel
theorem dX12_compared_50 : decode cX12_compared 50 = .ok (.istore_n 1, 1) := by decide +kernel
theorem dX12_compared_51 : decode cX12_compared 51 = .ok (.iload_n 1, 1) := by decide +kernel
theorem dX12_compared_52 : decode cX12_compared 52 = .ok (.ifCond .le 12, 3) := by decide +kernel
theorem dX12_compared_55 : decode cX12_compared 55 = .ok (.aload_n 0, 1) := by decide +kernel
theorem dX12_compared_56 : decode cX12_compared 56 = .ok (.invokevirtual 187, 3) := by decide +kernel
theorem dX12_compared_59 : decode cX12_compared 59 = .ok (.aload_n 0, 1) := by decide +kernel
theorem dX12_compared_60 : decode cX12_compared 60 = .ok (.iload_n 1, 1) := by decide +kernel
theorem dX12_compared_61 : decode cX12_compared 61 = .ok (.invokevirtual 180, 3) := by decide +kernel
theorem dX12_compared_64 : decode cX12_compared 64 = .ok (.return_, 1) := by decide +kernel
theorem dX12_copy_0 : decode cX12_copy 0 = .ok (.iconst 0, 1) := by decide +kernel
theorem dX12_copy_1 : decode cX12_copy 1 = .ok (.istore_n 2, 1) := by decide +kernel
theorem dX12_copy_2 : decode cX12_copy 2 = .ok (.iload_n 2, 1) := by decide +kernel
theorem dX12_copy_3 : decode cX12_copy 3 = .ok (.sipush 272, 3) := by decide +kernel
theorem dX12_copy_6 : decode cX12_copy 6 = .ok (.if_icmp .ge 15, 3) := by decide +kernel
theorem dX12_copy_9 : decode cX12_copy 9 = .ok (.aload_n 1, 1) := by decide +kernel
theorem dX12_copy_10 : decode cX12_copy 10 = .ok (.iload_n 2, 1) := by decide +kernel
theorem dX12_copy_11 : decode cX12_copy 11 = .ok (.aload_n 0, 1) := by decide +kernel
theorem dX12_copy_12 : decode cX12_copy 12 = .ok (.iload_n 2, 1) := by decide +kernel
theorem dX12_copy_13 : decode cX12_copy 13 = .ok (.iaload, 1) := by decide +kernel
theorem dX12_copy_14 : decode cX12_copy 14 = .ok (.iastore, 1) := by decide +kernel
theorem dX12_copy_15 : decode cX12_copy 15 = .ok (.iinc 2 1, 3) := by decide +kernel
theorem dX12_copy_18 : decode cX12_copy 18 = .ok (.goto (-16), 3) := by decide +kernel
theorem dX12_copy_21 : decode cX12_copy 21 = .ok (.return_, 1) := by decide +kernel
theorem dX12_count_0 : decode cX12_count 0 = .ok (.iconst 0, 1) := by decide +kernel
theorem dX12_count_1 : decode cX12_count 1 = .ok (.istore_n 2, 1) := by decide +kernel
theorem dX12_count_2 : decode cX12_count 2 = .ok (.iload_n 1, 1) := by decide +kernel
theorem dX12_count_3 : decode cX12_count 3 = .ok (.tableswitch 114 0 8 #[49, 49, 56, 92, 92, 92, 92, 101, 106], 49) := by decide +kernel
theorem dX12_count_52 : decode cX12_count 52 = .ok (.aload_n 0, 1) := by decide +kernel
theorem dX12_count_53 : decode cX12_count 53 = .ok (.getfield 9, 3) := by decide +kernel
theorem dX12_count_56 : decode cX12_count 56 = .ok (.iload_n 1, 1) := by decide +kernel
theorem dX12_count_57 : decode cX12_count 57 = .ok (.iaload, 1) := by decide +kernel
theorem dX12_count_58 : decode cX12_count 58 = .ok (.ireturn, 1) := by decide +kernel
theorem dX12_count_59 : decode cX12_count 59 = .ok (.iconst 0, 1) := by decide +kernel
theorem dX12_count_60 : decode cX12_count 60 = .ok (.istore_n 3, 1) := by decide +kernel
theorem dX12_count_61 : decode cX12_count 61 = .ok (.iload_n 3, 1) := by decide +kernel
theorem dX12_count_62 : decode cX12_count 62 = .ok (.aload_n 0, 1) := by decide +kernel
theorem dX12_count_63 : decode cX12_count 63 = .ok (.getfield 9, 3) := by decide +kernel
theorem dX12_count_66 : decode cX12_count 66 = .ok (.iconst 1, 1) := by decide +kernel
theorem dX12_count_67 : decode cX12_count 67 = .ok (.iaload, 1) := by decide +kernel
theorem dX12_count_68 : decode cX12_count 68 = .ok (.if_icmp .ge 25, 3) := by decide +kernel
theorem dX12_count_71 : decode cX12_count 71 = .ok (.iload_n 2, 1) := by decide +kernel
theorem dX12_count_72 : decode cX12_count 72 = .ok (.aload_n 0, 1) := by decide +kernel
theorem dX12_count_73 : decode cX12_count 73 = .ok (.iload_n 3, 1) := by decide +kernel
theorem dX12_count_74 : decode cX12_count 74 = .ok (.invokevirtual 228, 3) := by decide +kernel
theorem dX12_count_77 : decode cX12_count 77 = .ok (.ifCond .eq 7, 3) := by decide +kernel
theorem dX12_count_80 : decode cX12_count 80 = .ok (.iconst 0, 1) := by decide +kernel
theorem dX12_count_81 : decode cX12_count 81 = .ok (.goto 4, 3) := by decide +kernel
theorem dX12_count_84 : decode cX12_count 84 = .ok (.iconst 1, 1) := by decide +kernel
theorem dX12_count_85 : decode cX12_count 85 = .ok (.iadd, 1) := by decide +kernel
theorem dX12_count_86 : decode cX12_count 86 = .ok (.istore_n 2, 1) := by decide +kernel
theorem dX12_count_87 : decode cX12_count 87 = .ok (.iinc 3 1, 3) := by decide +kernel
theorem dX12_count_90 : decode cX12_count 90 = .ok (.goto (-29), 3) := by decide +kernel
theorem dX12_count_93 : decode cX12_count 93 = .ok (.iload_n 2, 1) := by decide +kernel
theorem dX12_count_94 : decode cX12_count 94 = .ok (.ireturn, 1) := by decide +kernel
theorem dX12_count_95 : decode cX12_count 95 = .ok (.aload_n 0, 1) := by decide +kernel
theorem dX12_count_96 : decode cX12_count 96 = .ok (.getfield 9, 3) := by decide +kernel
theorem dX12_count_99 : decode cX12_count 99 = .ok (.iload_n 1, 1) := by decide +kernel
theorem dX12_count_100 : decode cX12_count 100 = .ok (.iconst 1, 1) := by decide +kernel
theorem dX12_count_101 : decode cX12_count 101 = .ok (.isub, 1) := by decide +kernel
theorem dX12_count_102 : decode cX12_count 102 = .ok (.iaload, 1) := by decide +kernel
theorem dX12_count_103 : decode cX12_count 103 = .ok (.ireturn, 1) := by decide +kernel
theorem dX12_count_104 : decode cX12_count 104 = .ok (.aload_n 0, 1) := by decide +kernel
theorem dX12_count_105 : decode cX12_count 105 = .ok (.getfield 282, 3) := by decide +kernel
theorem dX12_count_108 : decode cX12_count 108 = .ok (.ireturn, 1) := by decide +kernel
theorem dX12_count_109 : decode cX12_count 109 = .ok (.aload_n 0, 1) := by decide +kernel
theorem dX12_count_110 : decode cX12_count 110 = .ok (.getfield 9, 3) := by decide +kernel
theorem dX12_count_113 : decode cX12_count 113 = .ok (.bipush 6, 2) := by decide +kernel
theorem dX12_count_115 : decode cX12_count 115 = .ok (.iaload, 1) := by decide +kernel
theorem dX12_count_116 : decode cX12_count 116 = .ok (.ireturn, 1) := by decide +kernel
theorem dX12_count_117 : decode cX12_count 117 = .ok (.aload_n 0, 1) := by decide +kernel
theorem dX12_count_118 : decode cX12_count 118 = .ok (.ldc 90, 2) := by decide +kernel
theorem dX12_count_120 : decode cX12_count 120 = .ok (.invokevirtual 91, 3) := by decide +kernel
theorem dX12_count_123 : decode cX12_count 123 = .ok (.ireturn, 1) := by decide +kernel
theorem dX12_depth_0 : decode cX12_depth 0 = .ok (.aload_n 0, 1) := by decide +kernel
theorem dX12_depth_1 : decode cX12_depth 1 = .ok (.iload_n 1, 1) := by decide +kernel
theorem dX12_depth_2 : decode cX12_depth 2 = .ok (.iload_n 2, 1) := by decide +kernel
theorem dX12_depth_3 : decode cX12_depth 3 = .ok (.invokevirtual 118, 3) := by decide +kernel
theorem dX12_depth_6 : decode cX12_depth 6 = .ok (.ifCond .eq 12, 3) := by decide +kernel
theorem dX12_depth_9 : decode cX12_depth 9 = .ok (.aload_n 0, 1) := by decide +kernel
theorem dX12_depth_10 : decode cX12_depth 10 = .ok (.iload_n 1, 1) := by decide +kernel
theorem dX12_depth_11 : decode cX12_depth 11 = .ok (.iload_n 2, 1) := by decide +kernel
theorem dX12_depth_12 : decode cX12_depth 12 = .ok (.invokevirtual 113, 3) := by decide +kernel
theorem dX12_depth_15 : decode cX12_depth 15 = .ok (.goto 9, 3) := by decide +kernel
theorem dX12_depth_18 : decode cX12_depth 18 = .ok (.aload_n 0, 1) := by decide +kernel
theorem dX12_depth_19 : decode cX12_depth 19 = .ok (.ldc 90, 2) := by decide +kernel
theorem dX12_depth_21 : decode cX12_depth 21 = .ok (.invokevirtual 91, 3) := by decide +kernel
theorem dX12_depth_24 : decode cX12_depth 24 = .ok (.ireturn, 1) := by decide +kernel
theorem dX12_depthOf_0 : decode cX12_depthOf 0 = .ok (.iload_n 1, 1) := by decide +kernel
theorem dX12_depthOf_1 : decode cX12_depthOf 1 = .ok (.i2l, 1) := by decide +kernel
theorem dX12_depthOf_2 : decode cX12_depthOf 2 = .ok (.aload_n 0, 1) := by decide +kernel
theorem dX12_depthOf_3 : decode cX12_depthOf 3 = .ok (.getfield 9, 3) := by decide +kernel
theorem dX12_depthOf_6 : decode cX12_depthOf 6 = .ok (.bipush 7, 2) := by decide +kernel
theorem dX12_depthOf_8 : decode cX12_depthOf 8 = .ok (.iaload, 1) := by decide +kernel
theorem dX12_depthOf_9 : decode cX12_depthOf 9 = .ok (.iload_n 1, 1) := by decide +kernel
theorem dX12_depthOf_10 : decode cX12_depthOf 10 = .ok (.isub, 1) := by decide +kernel
theorem dX12_depthOf_11 : decode cX12_depthOf 11 = .ok (.i2l, 1) := by decide +kernel
theorem dX12_depthOf_12 : decode cX12_depthOf 12 = .ok (.lmul, 1) := by decide +kernel
theorem dX12_depthOf_13 : decode cX12_depthOf 13 = .ok (.lstore_n 3, 1) := by decide +kernel
theorem dX12_depthOf_14 : decode cX12_depthOf 14 = .ok (.ldc2_w 109, 3) := by decide +kernel
theorem dX12_depthOf_17 : decode cX12_depthOf 17 = .ok (.aload_n 0, 1) := by decide +kernel
theorem dX12_depthOf_18 : decode cX12_depthOf 18 = .ok (.getfield 9, 3) := by decide +kernel
theorem dX12_depthOf_21 : decode cX12_depthOf 21 = .ok (.bipush 8, 2) := by decide +kernel
theorem dX12_depthOf_23 : decode cX12_depthOf 23 = .ok (.iaload, 1) := by decide +kernel
theorem dX12_depthOf_24 : decode cX12_depthOf 24 = .ok (.i2l, 1) := by decide +kernel
theorem dX12_depthOf_25 : decode cX12_depthOf 25 = .ok (.lmul, 1) := by decide +kernel
theorem dX12_depthOf_26 : decode cX12_depthOf 26 = .ok (.iload_n 1, 1) := by decide +kernel
theorem dX12_depthOf_27 : decode cX12_depthOf 27 = .ok (.i2l, 1) := by decide +kernel
theorem dX12_depthOf_28 : decode cX12_depthOf 28 = .ok (.lmul, 1) := by decide +kernel
theorem dX12_depthOf_29 : decode cX12_depthOf 29 = .ok (.aload_n 0, 1) := by decide +kernel
theorem dX12_depthOf_30 : decode cX12_depthOf 30 = .ok (.getfield 9, 3) := by decide +kernel
theorem dX12_depthOf_33 : decode cX12_depthOf 33 = .ok (.bipush 7, 2) := by decide +kernel
theorem dX12_depthOf_35 : decode cX12_depthOf 35 = .ok (.iaload, 1) := by decide +kernel
theorem dX12_depthOf_36 : decode cX12_depthOf 36 = .ok (.i2l, 1) := by decide +kernel
theorem dX12_depthOf_37 : decode cX12_depthOf 37 = .ok (.ldiv, 1) := by decide +kernel
theorem dX12_depthOf_38 : decode cX12_depthOf 38 = .ok (.lstore 5, 2) := by decide +kernel
theorem dX12_depthOf_40 : decode cX12_depthOf 40 = .ok (.ldc2_w 111, 3) := by decide +kernel
theorem dX12_depthOf_43 : decode cX12_depthOf 43 = .ok (.aload_n 0, 1) := by decide +kernel
theorem dX12_depthOf_44 : decode cX12_depthOf 44 = .ok (.getfield 9, 3) := by decide +kernel
theorem dX12_depthOf_47 : decode cX12_depthOf 47 = .ok (.bipush 10, 2) := by decide +kernel
theorem dX12_depthOf_49 : decode cX12_depthOf 49 = .ok (.iaload, 1) := by decide +kernel
theorem dX12_depthOf_50 : decode cX12_depthOf 50 = .ok (.i2l, 1) := by decide +kernel
theorem dX12_depthOf_51 : decode cX12_depthOf 51 = .ok (.lmul, 1) := by decide +kernel
theorem dX12_depthOf_52 : decode cX12_depthOf 52 = .ok (.lload_n 3, 1) := by decide +kernel
theorem dX12_depthOf_53 : decode cX12_depthOf 53 = .ok (.lmul, 1) := by decide +kernel
theorem dX12_depthOf_54 : decode cX12_depthOf 54 = .ok (.aload_n 0, 1) := by decide +kernel
theorem dX12_depthOf_55 : decode cX12_depthOf 55 = .ok (.invokevirtual 105, 3) := by decide +kernel
theorem dX12_depthOf_58 : decode cX12_depthOf 58 = .ok (.i2l, 1) := by decide +kernel
theorem dX12_depthOf_59 : decode cX12_depthOf 59 = .ok (.ldiv, 1) := by decide +kernel
theorem dX12_depthOf_60 : decode cX12_depthOf 60 = .ok (.lstore 7, 2) := by decide +kernel
theorem dX12_depthOf_62 : decode cX12_depthOf 62 = .ok (.ldc2_w 109, 3) := by decide +kernel
theorem dX12_depthOf_65 : decode cX12_depthOf 65 = .ok (.iload_n 2, 1) := by decide +kernel
theorem dX12_depthOf_66 : decode cX12_depthOf 66 = .ok (.i2l, 1) := by decide +kernel
theorem dX12_depthOf_67 : decode cX12_depthOf 67 = .ok (.lmul, 1) := by decide +kernel
theorem dX12_depthOf_68 : decode cX12_depthOf 68 = .ok (.lload_n 3, 1) := by decide +kernel
theorem dX12_depthOf_69 : decode cX12_depthOf 69 = .ok (.lmul, 1) := by decide +kernel
theorem dX12_depthOf_70 : decode cX12_depthOf 70 = .ok (.aload_n 0, 1) := by decide +kernel
theorem dX12_depthOf_71 : decode cX12_depthOf 71 = .ok (.getfield 9, 3) := by decide +kernel
theorem dX12_depthOf_74 : decode cX12_depthOf 74 = .ok (.bipush 7, 2) := by decide +kernel
theorem dX12_depthOf_76 : decode cX12_depthOf 76 = .ok (.iaload, 1) := by decide +kernel
theorem dX12_depthOf_77 : decode cX12_depthOf 77 = .ok (.i2l, 1) := by decide +kernel
theorem dX12_depthOf_78 : decode cX12_depthOf 78 = .ok (.aload_n 0, 1) := by decide +kernel
theorem dX12_depthOf_79 : decode cX12_depthOf 79 = .ok (.invokevirtual 105, 3) := by decide +kernel
theorem dX12_depthOf_82 : decode cX12_depthOf 82 = .ok (.i2l, 1) := by decide +kernel
theorem dX12_depthOf_83 : decode cX12_depthOf 83 = .ok (.lmul, 1) := by decide +kernel
theorem dX12_depthOf_84 : decode cX12_depthOf 84 = .ok (.ldiv, 1) := by decide +kernel
theorem dX12_depthOf_85 : decode cX12_depthOf 85 = .ok (.lstore 9, 2) := by decide +kernel
theorem dX12_depthOf_87 : decode cX12_depthOf 87 = .ok (.lload 5, 2) := by decide +kernel
theorem dX12_depthOf_89 : decode cX12_depthOf 89 = .ok (.lload 7, 2) := by decide +kernel
theorem dX12_depthOf_91 : decode cX12_depthOf 91 = .ok (.ladd, 1) := by decide +kernel
theorem dX12_depthOf_92 : decode cX12_depthOf 92 = .ok (.lload 9, 2) := by decide +kernel
theorem dX12_depthOf_94 : decode cX12_depthOf 94 = .ok (.ladd, 1) := by decide +kernel
theorem dX12_depthOf_95 : decode cX12_depthOf 95 = .ok (.l2i, 1) := by decide +kernel
theorem dX12_depthOf_96 : decode cX12_depthOf 96 = .ok (.ireturn, 1) := by decide +kernel
theorem dX12_done_0 : decode cX12_done 0 = .ok (.iload_n 0, 1) := by decide +kernel
theorem dX12_done_1 : decode cX12_done 1 = .ok (.tableswitch 136 20000 20008 #[51, 65, 79, 90, 101, 112, 116, 120, 124], 51) := by decide +kernel
theorem dX12_done_52 : decode cX12_done 52 = .ok (.iload_n 1, 1) := by decide +kernel
theorem dX12_done_53 : decode cX12_done 53 = .ok (.ifCond .ne 7, 3) := by decide +kernel
theorem dX12_done_56 : decode cX12_done 56 = .ok (.iload_n 2, 1) := by decide +kernel
theorem dX12_done_57 : decode cX12_done 57 = .ok (.ifCond .eq 7, 3) := by decide +kernel
theorem dX12_done_60 : decode cX12_done 60 = .ok (.iconst 1, 1) := by decide +kernel
theorem dX12_done_61 : decode cX12_done 61 = .ok (.goto 4, 3) := by decide +kernel
theorem dX12_done_64 : decode cX12_done 64 = .ok (.iconst 0, 1) := by decide +kernel
theorem dX12_done_65 : decode cX12_done 65 = .ok (.ireturn, 1) := by decide +kernel
theorem dX12_done_66 : decode cX12_done 66 = .ok (.iload_n 1, 1) := by decide +kernel
theorem dX12_done_67 : decode cX12_done 67 = .ok (.ifCond .eq 11, 3) := by decide +kernel
theorem dX12_done_70 : decode cX12_done 70 = .ok (.iload_n 2, 1) := by decide +kernel
theorem dX12_done_71 : decode cX12_done 71 = .ok (.ifCond .eq 7, 3) := by decide +kernel
theorem dX12_done_74 : decode cX12_done 74 = .ok (.iconst 1, 1) := by decide +kernel
theorem dX12_done_75 : decode cX12_done 75 = .ok (.goto 4, 3) := by decide +kernel
theorem dX12_done_78 : decode cX12_done 78 = .ok (.iconst 0, 1) := by decide +kernel
theorem dX12_done_79 : decode cX12_done 79 = .ok (.ireturn, 1) := by decide +kernel
theorem dX12_done_80 : decode cX12_done 80 = .ok (.iload_n 1, 1) := by decide +kernel
theorem dX12_done_81 : decode cX12_done 81 = .ok (.iload_n 2, 1) := by decide +kernel
theorem dX12_done_82 : decode cX12_done 82 = .ok (.if_icmp .ge 7, 3) := by decide +kernel
theorem dX12_done_85 : decode cX12_done 85 = .ok (.iconst 1, 1) := by decide +kernel
theorem dX12_done_86 : decode cX12_done 86 = .ok (.goto 4, 3) := by decide +kernel
theorem dX12_done_89 : decode cX12_done 89 = .ok (.iconst 0, 1) := by decide +kernel
theorem dX12_done_90 : decode cX12_done 90 = .ok (.ireturn, 1) := by decide +kernel
theorem dX12_done_91 : decode cX12_done 91 = .ok (.iload_n 1, 1) := by decide +kernel
theorem dX12_done_92 : decode cX12_done 92 = .ok (.iload_n 2, 1) := by decide +kernel
theorem dX12_done_93 : decode cX12_done 93 = .ok (.if_icmp .ne 7, 3) := by decide +kernel
theorem dX12_done_96 : decode cX12_done 96 = .ok (.iconst 1, 1) := by decide +kernel
theorem dX12_done_97 : decode cX12_done 97 = .ok (.goto 4, 3) := by decide +kernel
theorem dX12_done_100 : decode cX12_done 100 = .ok (.iconst 0, 1) := by decide +kernel
theorem dX12_done_101 : decode cX12_done 101 = .ok (.ireturn, 1) := by decide +kernel
theorem dX12_done_102 : decode cX12_done 102 = .ok (.iload_n 1, 1) := by decide +kernel
theorem dX12_done_103 : decode cX12_done 103 = .ok (.iload_n 2, 1) := by decide +kernel
theorem dX12_done_104 : decode cX12_done 104 = .ok (.if_icmp .le 7, 3) := by decide +kernel
theorem dX12_done_107 : decode cX12_done 107 = .ok (.iconst 1, 1) := by decide +kernel
theorem dX12_done_108 : decode cX12_done 108 = .ok (.goto 4, 3) := by decide +kernel
theorem dX12_done_111 : decode cX12_done 111 = .ok (.iconst 0, 1) := by decide +kernel
theorem dX12_done_112 : decode cX12_done 112 = .ok (.ireturn, 1) := by decide +kernel
theorem dX12_done_113 : decode cX12_done 113 = .ok (.iload_n 1, 1) := by decide +kernel
theorem dX12_done_114 : decode cX12_done 114 = .ok (.iload_n 2, 1) := by decide +kernel
theorem dX12_done_115 : decode cX12_done 115 = .ok (.iadd, 1) := by decide +kernel
theorem dX12_done_116 : decode cX12_done 116 = .ok (.ireturn, 1) := by decide +kernel
theorem dX12_done_117 : decode cX12_done 117 = .ok (.iload_n 1, 1) := by decide +kernel
theorem dX12_done_118 : decode cX12_done 118 = .ok (.iload_n 2, 1) := by decide +kernel
theorem dX12_done_119 : decode cX12_done 119 = .ok (.isub, 1) := by decide +kernel
theorem dX12_done_120 : decode cX12_done 120 = .ok (.ireturn, 1) := by decide +kernel
theorem dX12_done_121 : decode cX12_done 121 = .ok (.iload_n 1, 1) := by decide +kernel
theorem dX12_done_122 : decode cX12_done 122 = .ok (.iload_n 2, 1) := by decide +kernel
theorem dX12_done_123 : decode cX12_done 123 = .ok (.imul, 1) := by decide +kernel
theorem dX12_done_124 : decode cX12_done 124 = .ok (.ireturn, 1) := by decide +kernel
theorem dX12_done_125 : decode cX12_done 125 = .ok (.iload_n 2, 1) := by decide +kernel
theorem dX12_done_126 : decode cX12_done 126 = .ok (.ifCond .ne 7, 3) := by decide +kernel
theorem dX12_done_129 : decode cX12_done 129 = .ok (.iconst 0, 1) := by decide +kernel
theorem dX12_done_130 : decode cX12_done 130 = .ok (.goto 6, 3) := by decide +kernel
theorem dX12_done_133 : decode cX12_done 133 = .ok (.iload_n 1, 1) := by decide +kernel
theorem dX12_done_134 : decode cX12_done 134 = .ok (.iload_n 2, 1) := by decide +kernel
theorem dX12_done_135 : decode cX12_done 135 = .ok (.idiv, 1) := by decide +kernel
theorem dX12_done_136 : decode cX12_done 136 = .ok (.ireturn, 1) := by decide +kernel
theorem dX12_done_137 : decode cX12_done 137 = .ok (.iload_n 2, 1) := by decide +kernel
theorem dX12_done_138 : decode cX12_done 138 = .ok (.ifCond .ne 7, 3) := by decide +kernel
theorem dX12_done_141 : decode cX12_done 141 = .ok (.iconst 0, 1) := by decide +kernel
theorem dX12_done_142 : decode cX12_done 142 = .ok (.goto 6, 3) := by decide +kernel
theorem dX12_done_145 : decode cX12_done 145 = .ok (.iload_n 1, 1) := by decide +kernel
theorem dX12_done_146 : decode cX12_done 146 = .ok (.iload_n 2, 1) := by decide +kernel
theorem dX12_done_147 : decode cX12_done 147 = .ok (.irem, 1) := by decide +kernel
theorem dX12_done_148 : decode cX12_done 148 = .ok (.ireturn, 1) := by decide +kernel
theorem dX12_drawn_0 : decode cX12_drawn 0 = .ok (.aload_n 0, 1) := by decide +kernel
theorem dX12_drawn_1 : decode cX12_drawn 1 = .ok (.getfield 9, 3) := by decide +kernel
theorem dX12_drawn_4 : decode cX12_drawn 4 = .ok (.bipush 6, 2) := by decide +kernel
theorem dX12_drawn_6 : decode cX12_drawn 6 = .ok (.aload_n 0, 1) := by decide +kernel
theorem dX12_drawn_7 : decode cX12_drawn 7 = .ok (.getfield 9, 3) := by decide +kernel
theorem dX12_drawn_10 : decode cX12_drawn 10 = .ok (.bipush 6, 2) := by decide +kernel
theorem dX12_drawn_12 : decode cX12_drawn 12 = .ok (.iaload, 1) := by decide +kernel
theorem dX12_drawn_13 : decode cX12_drawn 13 = .ok (.ldc 243, 2) := by decide +kernel
theorem dX12_drawn_15 : decode cX12_drawn 15 = .ok (.imul, 1) := by decide +kernel
theorem dX12_drawn_16 : decode cX12_drawn 16 = .ok (.sipush 12345, 3) := by decide +kernel
theorem dX12_drawn_19 : decode cX12_drawn 19 = .ok (.iadd, 1) := by decide +kernel
theorem dX12_drawn_20 : decode cX12_drawn 20 = .ok (.iastore, 1) := by decide +kernel
theorem dX12_drawn_21 : decode cX12_drawn 21 = .ok (.aload_n 0, 1) := by decide +kernel
theorem dX12_drawn_22 : decode cX12_drawn 22 = .ok (.getfield 9, 3) := by decide +kernel
theorem dX12_drawn_25 : decode cX12_drawn 25 = .ok (.bipush 6, 2) := by decide +kernel
theorem dX12_drawn_27 : decode cX12_drawn 27 = .ok (.iaload, 1) := by decide +kernel
theorem dX12_drawn_28 : decode cX12_drawn 28 = .ok (.bipush 8, 2) := by decide +kernel
theorem dX12_drawn_30 : decode cX12_drawn 30 = .ok (.iushr, 1) := by decide +kernel
theorem dX12_drawn_31 : decode cX12_drawn 31 = .ok (.iload_n 1, 1) := by decide +kernel
theorem dX12_drawn_32 : decode cX12_drawn 32 = .ok (.irem, 1) := by decide +kernel
theorem dX12_drawn_33 : decode cX12_drawn 33 = .ok (.ireturn, 1) := by decide +kernel
theorem dX12_either_0 : decode cX12_either 0 = .ok (.aload_n 0, 1) := by decide +kernel
theorem dX12_either_1 : decode cX12_either 1 = .ok (.invokevirtual 174, 3) := by decide +kernel
theorem dX12_either_4 : decode cX12_either 4 = .ok (.aload_n 0, 1) := by decide +kernel
theorem dX12_either_5 : decode cX12_either 5 = .ok (.bipush 124, 2) := by decide +kernel
theorem dX12_either_7 : decode cX12_either 7 = .ok (.invokevirtual 177, 3) := by decide +kernel
theorem dX12_either_10 : decode cX12_either 10 = .ok (.ifCond .eq 17, 3) := by decide +kernel
theorem dX12_either_13 : decode cX12_either 13 = .ok (.aload_n 0, 1) := by decide +kernel
theorem dX12_either_14 : decode cX12_either 14 = .ok (.invokevirtual 174, 3) := by decide +kernel
theorem dX12_either_17 : decode cX12_either 17 = .ok (.aload_n 0, 1) := by decide +kernel
theorem dX12_either_18 : decode cX12_either 18 = .ok (.sipush 20000, 3) := by decide +kernel
theorem dX12_either_21 : decode cX12_either 21 = .ok (.invokevirtual 180, 3) := by decide +kernel
theorem dX12_either_24 : decode cX12_either 24 = .ok (.goto (-20), 3) := by decide +kernel
theorem dX12_either_27 : decode cX12_either 27 = .ok (.return_, 1) := by decide +kernel
theorem dX12_feed_0 : decode cX12_feed 0 = .ok (.iload_n 3, 1) := by decide +kernel
theorem dX12_feed_1 : decode cX12_feed 1 = .ok (.iconst 1, 1) := by decide +kernel
theorem dX12_feed_2 : decode cX12_feed 2 = .ok (.bipush 8, 2) := by decide +kernel
theorem dX12_feed_4 : decode cX12_feed 4 = .ok (.invokestatic 86, 3) := by decide +kernel
theorem dX12_feed_7 : decode cX12_feed 7 = .ok (.ifCond .ne 10, 3) := by decide +kernel
theorem dX12_feed_10 : decode cX12_feed 10 = .ok (.aload_n 0, 1) := by decide +kernel
theorem dX12_feed_11 : decode cX12_feed 11 = .ok (.ldc 90, 2) := by decide +kernel
theorem dX12_feed_13 : decode cX12_feed 13 = .ok (.invokevirtual 91, 3) := by decide +kernel
theorem dX12_feed_16 : decode cX12_feed 16 = .ok (.ireturn, 1) := by decide +kernel
theorem dX12_feed_17 : decode cX12_feed 17 = .ok (.aload_n 0, 1) := by decide +kernel
theorem dX12_feed_18 : decode cX12_feed 18 = .ok (.getfield 9, 3) := by decide +kernel
theorem dX12_feed_21 : decode cX12_feed 21 = .ok (.iconst 4, 1) := by decide +kernel
theorem dX12_feed_22 : decode cX12_feed 22 = .ok (.iaload, 1) := by decide +kernel
theorem dX12_feed_23 : decode cX12_feed 23 = .ok (.iload_n 3, 1) := by decide +kernel
theorem dX12_feed_24 : decode cX12_feed 24 = .ok (.iadd, 1) := by decide +kernel
theorem dX12_feed_25 : decode cX12_feed 25 = .ok (.bipush 50, 2) := by decide +kernel
theorem dX12_feed_27 : decode cX12_feed 27 = .ok (.if_icmp .le 10, 3) := by decide +kernel
theorem dX12_feed_30 : decode cX12_feed 30 = .ok (.aload_n 0, 1) := by decide +kernel
theorem dX12_feed_31 : decode cX12_feed 31 = .ok (.ldc 138, 2) := by decide +kernel
theorem dX12_feed_33 : decode cX12_feed 33 = .ok (.invokevirtual 91, 3) := by decide +kernel
theorem dX12_feed_36 : decode cX12_feed 36 = .ok (.ireturn, 1) := by decide +kernel
theorem dX12_feed_37 : decode cX12_feed 37 = .ok (.iconst 0, 1) := by decide +kernel
theorem dX12_feed_38 : decode cX12_feed 38 = .ok (.istore 4, 2) := by decide +kernel
theorem dX12_feed_40 : decode cX12_feed 40 = .ok (.iload 4, 2) := by decide +kernel
theorem dX12_feed_42 : decode cX12_feed 42 = .ok (.iload_n 3, 1) := by decide +kernel
theorem dX12_feed_43 : decode cX12_feed 43 = .ok (.if_icmp .ge 45, 3) := by decide +kernel
theorem dX12_feed_46 : decode cX12_feed 46 = .ok (.aload_n 0, 1) := by decide +kernel
theorem dX12_feed_47 : decode cX12_feed 47 = .ok (.getfield 9, 3) := by decide +kernel
theorem dX12_feed_50 : decode cX12_feed 50 = .ok (.bipush 98, 2) := by decide +kernel
theorem dX12_feed_52 : decode cX12_feed 52 = .ok (.aload_n 0, 1) := by decide +kernel
theorem dX12_feed_53 : decode cX12_feed 53 = .ok (.getfield 9, 3) := by decide +kernel
theorem dX12_feed_56 : decode cX12_feed 56 = .ok (.iconst 4, 1) := by decide +kernel
theorem dX12_feed_57 : decode cX12_feed 57 = .ok (.iaload, 1) := by decide +kernel
theorem dX12_feed_58 : decode cX12_feed 58 = .ok (.iadd, 1) := by decide +kernel
theorem dX12_feed_59 : decode cX12_feed 59 = .ok (.lload_n 1, 1) := by decide +kernel
theorem dX12_feed_60 : decode cX12_feed 60 = .ok (.bipush 8, 2) := by decide +kernel
theorem dX12_feed_62 : decode cX12_feed 62 = .ok (.iload 4, 2) := by decide +kernel
theorem dX12_feed_64 : decode cX12_feed 64 = .ok (.imul, 1) := by decide +kernel
theorem dX12_feed_65 : decode cX12_feed 65 = .ok (.lshr, 1) := by decide +kernel
theorem dX12_feed_66 : decode cX12_feed 66 = .ok (.ldc2_w 158, 3) := by decide +kernel
theorem dX12_feed_69 : decode cX12_feed 69 = .ok (.land, 1) := by decide +kernel
theorem dX12_feed_70 : decode cX12_feed 70 = .ok (.l2i, 1) := by decide +kernel
theorem dX12_feed_71 : decode cX12_feed 71 = .ok (.iastore, 1) := by decide +kernel
theorem dX12_feed_72 : decode cX12_feed 72 = .ok (.aload_n 0, 1) := by decide +kernel
theorem dX12_feed_73 : decode cX12_feed 73 = .ok (.getfield 9, 3) := by decide +kernel
theorem dX12_feed_76 : decode cX12_feed 76 = .ok (.iconst 4, 1) := by decide +kernel
theorem dX12_feed_77 : decode cX12_feed 77 = .ok (.dup2, 1) := by decide +kernel
theorem dX12_feed_78 : decode cX12_feed 78 = .ok (.iaload, 1) := by decide +kernel
theorem dX12_feed_79 : decode cX12_feed 79 = .ok (.iconst 1, 1) := by decide +kernel
theorem dX12_feed_80 : decode cX12_feed 80 = .ok (.iadd, 1) := by decide +kernel
theorem dX12_feed_81 : decode cX12_feed 81 = .ok (.iastore, 1) := by decide +kernel
theorem dX12_feed_82 : decode cX12_feed 82 = .ok (.iinc 4 1, 3) := by decide +kernel
theorem dX12_feed_85 : decode cX12_feed 85 = .ok (.goto (-45), 3) := by decide +kernel
theorem dX12_feed_88 : decode cX12_feed 88 = .ok (.aload_n 0, 1) := by decide +kernel
theorem dX12_feed_89 : decode cX12_feed 89 = .ok (.getfield 9, 3) := by decide +kernel
theorem dX12_feed_92 : decode cX12_feed 92 = .ok (.iconst 4, 1) := by decide +kernel
theorem dX12_feed_93 : decode cX12_feed 93 = .ok (.iaload, 1) := by decide +kernel
theorem dX12_feed_94 : decode cX12_feed 94 = .ok (.ireturn, 1) := by decide +kernel
theorem dX12_findMany_0 : decode cX12_findMany 0 = .ok (.iconst 0, 1) := by decide +kernel
theorem dX12_findMany_1 : decode cX12_findMany 1 = .ok (.istore_n 2, 1) := by decide +kernel
theorem dX12_findMany_2 : decode cX12_findMany 2 = .ok (.iload_n 2, 1) := by decide +kernel
theorem dX12_findMany_3 : decode cX12_findMany 3 = .ok (.bipush 8, 2) := by decide +kernel
theorem dX12_findMany_5 : decode cX12_findMany 5 = .ok (.if_icmp .ge 26, 3) := by decide +kernel
theorem dX12_findMany_8 : decode cX12_findMany 8 = .ok (.aload_n 0, 1) := by decide +kernel
theorem dX12_findMany_9 : decode cX12_findMany 9 = .ok (.getfield 48, 3) := by decide +kernel
theorem dX12_findMany_12 : decode cX12_findMany 12 = .ok (.iload_n 2, 1) := by decide +kernel
theorem dX12_findMany_13 : decode cX12_findMany 13 = .ok (.iload_n 2, 1) := by decide +kernel
theorem dX12_findMany_14 : decode cX12_findMany 14 = .ok (.iload_n 1, 1) := by decide +kernel
theorem dX12_findMany_15 : decode cX12_findMany 15 = .ok (.if_icmp .ne 7, 3) := by decide +kernel
theorem dX12_findMany_18 : decode cX12_findMany 18 = .ok (.iconst 1, 1) := by decide +kernel
theorem dX12_findMany_19 : decode cX12_findMany 19 = .ok (.goto 5, 3) := by decide +kernel
theorem dX12_findMany_22 : decode cX12_findMany 22 = .ok (.bipush 99, 2) := by decide +kernel
theorem dX12_findMany_24 : decode cX12_findMany 24 = .ok (.iastore, 1) := by decide +kernel
theorem dX12_findMany_25 : decode cX12_findMany 25 = .ok (.iinc 2 1, 3) := by decide +kernel
theorem dX12_findMany_28 : decode cX12_findMany 28 = .ok (.goto (-26), 3) := by decide +kernel
theorem dX12_findMany_31 : decode cX12_findMany 31 = .ok (.iconst 0, 1) := by decide +kernel
theorem dX12_findMany_32 : decode cX12_findMany 32 = .ok (.istore_n 2, 1) := by decide +kernel
theorem dX12_findMany_33 : decode cX12_findMany 33 = .ok (.iload_n 2, 1) := by decide +kernel
theorem dX12_findMany_34 : decode cX12_findMany 34 = .ok (.bipush 8, 2) := by decide +kernel
theorem dX12_findMany_36 : decode cX12_findMany 36 = .ok (.if_icmp .ge 96, 3) := by decide +kernel
theorem dX12_findMany_39 : decode cX12_findMany 39 = .ok (.iconst 0, 1) := by decide +kernel
theorem dX12_findMany_40 : decode cX12_findMany 40 = .ok (.istore_n 3, 1) := by decide +kernel
theorem dX12_findMany_41 : decode cX12_findMany 41 = .ok (.iload_n 3, 1) := by decide +kernel
theorem dX12_findMany_42 : decode cX12_findMany 42 = .ok (.aload_n 0, 1) := by decide +kernel
theorem dX12_findMany_43 : decode cX12_findMany 43 = .ok (.getfield 9, 3) := by decide +kernel
theorem dX12_findMany_46 : decode cX12_findMany 46 = .ok (.iconst 2, 1) := by decide +kernel
theorem dX12_findMany_47 : decode cX12_findMany 47 = .ok (.iaload, 1) := by decide +kernel
theorem dX12_findMany_48 : decode cX12_findMany 48 = .ok (.if_icmp .ge 78, 3) := by decide +kernel
theorem dX12_findMany_51 : decode cX12_findMany 51 = .ok (.iconst 0, 1) := by decide +kernel
theorem dX12_findMany_52 : decode cX12_findMany 52 = .ok (.istore 4, 2) := by decide +kernel
theorem dX12_findMany_54 : decode cX12_findMany 54 = .ok (.iload 4, 2) := by decide +kernel
theorem dX12_findMany_56 : decode cX12_findMany 56 = .ok (.aload_n 0, 1) := by decide +kernel
theorem dX12_findMany_57 : decode cX12_findMany 57 = .ok (.getfield 9, 3) := by decide +kernel
theorem dX12_findMany_60 : decode cX12_findMany 60 = .ok (.iconst 2, 1) := by decide +kernel
theorem dX12_findMany_61 : decode cX12_findMany 61 = .ok (.iaload, 1) := by decide +kernel
theorem dX12_findMany_62 : decode cX12_findMany 62 = .ok (.if_icmp .ge 58, 3) := by decide +kernel
theorem dX12_findMany_65 : decode cX12_findMany 65 = .ok (.aload_n 0, 1) := by decide +kernel
theorem dX12_findMany_66 : decode cX12_findMany 66 = .ok (.getfield 48, 3) := by decide +kernel
theorem dX12_findMany_69 : decode cX12_findMany 69 = .ok (.iload_n 3, 1) := by decide +kernel
theorem dX12_findMany_70 : decode cX12_findMany 70 = .ok (.iload_n 3, 1) := by decide +kernel
theorem dX12_findMany_71 : decode cX12_findMany 71 = .ok (.iload 4, 2) := by decide +kernel
theorem dX12_findMany_73 : decode cX12_findMany 73 = .ok (.if_icmp .eq 34, 3) := by decide +kernel
theorem dX12_findMany_76 : decode cX12_findMany 76 = .ok (.aload_n 0, 1) := by decide +kernel
theorem dX12_findMany_77 : decode cX12_findMany 77 = .ok (.iload_n 3, 1) := by decide +kernel
theorem dX12_findMany_78 : decode cX12_findMany 78 = .ok (.iload 4, 2) := by decide +kernel
theorem dX12_findMany_80 : decode cX12_findMany 80 = .ok (.invokevirtual 269, 3) := by decide +kernel
theorem dX12_findMany_83 : decode cX12_findMany 83 = .ok (.ifCond .eq 24, 3) := by decide +kernel
theorem dX12_findMany_86 : decode cX12_findMany 86 = .ok (.aload_n 0, 1) := by decide +kernel
theorem dX12_findMany_87 : decode cX12_findMany 87 = .ok (.getfield 48, 3) := by decide +kernel
theorem dX12_findMany_90 : decode cX12_findMany 90 = .ok (.iload_n 3, 1) := by decide +kernel
theorem dX12_findMany_91 : decode cX12_findMany 91 = .ok (.iaload, 1) := by decide +kernel
theorem dX12_findMany_92 : decode cX12_findMany 92 = .ok (.aload_n 0, 1) := by decide +kernel
theorem dX12_findMany_93 : decode cX12_findMany 93 = .ok (.getfield 48, 3) := by decide +kernel
theorem dX12_findMany_96 : decode cX12_findMany 96 = .ok (.iload 4, 2) := by decide +kernel
theorem dX12_findMany_98 : decode cX12_findMany 98 = .ok (.iaload, 1) := by decide +kernel
theorem dX12_findMany_99 : decode cX12_findMany 99 = .ok (.iconst 1, 1) := by decide +kernel
theorem dX12_findMany_100 : decode cX12_findMany 100 = .ok (.iadd, 1) := by decide +kernel
theorem dX12_findMany_101 : decode cX12_findMany 101 = .ok (.invokestatic 73, 3) := by decide +kernel
theorem dX12_findMany_104 : decode cX12_findMany 104 = .ok (.goto 9, 3) := by decide +kernel
theorem dX12_findMany_107 : decode cX12_findMany 107 = .ok (.aload_n 0, 1) := by decide +kernel
theorem dX12_findMany_108 : decode cX12_findMany 108 = .ok (.getfield 48, 3) := by decide +kernel
theorem dX12_findMany_111 : decode cX12_findMany 111 = .ok (.iload_n 3, 1) := by decide +kernel
theorem dX12_findMany_112 : decode cX12_findMany 112 = .ok (.iaload, 1) := by decide +kernel
theorem dX12_findMany_113 : decode cX12_findMany 113 = .ok (.iastore, 1) := by decide +kernel
theorem dX12_findMany_114 : decode cX12_findMany 114 = .ok (.iinc 4 1, 3) := by decide +kernel
theorem dX12_findMany_117 : decode cX12_findMany 117 = .ok (.goto (-63), 3) := by decide +kernel
theorem dX12_findMany_120 : decode cX12_findMany 120 = .ok (.iinc 3 1, 3) := by decide +kernel
theorem dX12_findMany_123 : decode cX12_findMany 123 = .ok (.goto (-82), 3) := by decide +kernel
theorem dX12_findMany_126 : decode cX12_findMany 126 = .ok (.iinc 2 1, 3) := by decide +kernel
theorem dX12_findMany_129 : decode cX12_findMany 129 = .ok (.goto (-96), 3) := by decide +kernel
theorem dX12_findMany_132 : decode cX12_findMany 132 = .ok (.return_, 1) := by decide +kernel
theorem dX12_finding_0 : decode cX12_finding 0 = .ok (.aload_n 0, 1) := by decide +kernel
theorem dX12_finding_1 : decode cX12_finding 1 = .ok (.getfield 19, 3) := by decide +kernel
theorem dX12_finding_4 : decode cX12_finding 4 = .ok (.ldc 72, 2) := by decide +kernel
theorem dX12_finding_6 : decode cX12_finding 6 = .ok (.iload_n 1, 1) := by decide +kernel
theorem dX12_finding_7 : decode cX12_finding 7 = .ok (.isub, 1) := by decide +kernel
theorem dX12_finding_8 : decode cX12_finding 8 = .ok (.dup2, 1) := by decide +kernel
theorem dX12_finding_9 : decode cX12_finding 9 = .ok (.iaload, 1) := by decide +kernel
theorem dX12_finding_10 : decode cX12_finding 10 = .ok (.iconst 1, 1) := by decide +kernel
theorem dX12_finding_11 : decode cX12_finding 11 = .ok (.iadd, 1) := by decide +kernel
theorem dX12_finding_12 : decode cX12_finding 12 = .ok (.iastore, 1) := by decide +kernel
theorem dX12_finding_13 : decode cX12_finding 13 = .ok (.iload_n 1, 1) := by decide +kernel
theorem dX12_finding_14 : decode cX12_finding 14 = .ok (.ireturn, 1) := by decide +kernel
theorem dX12_gainOf_0 : decode cX12_gainOf 0 = .ok (.aload_n 0, 1) := by decide +kernel
theorem dX12_gainOf_1 : decode cX12_gainOf 1 = .ok (.aload_n 0, 1) := by decide +kernel
theorem dX12_gainOf_2 : decode cX12_gainOf 2 = .ok (.iload_n 1, 1) := by decide +kernel
theorem dX12_gainOf_3 : decode cX12_gainOf 3 = .ok (.iconst 3, 1) := by decide +kernel
theorem dX12_gainOf_4 : decode cX12_gainOf 4 = .ok (.invokevirtual 98, 3) := by decide +kernel
theorem dX12_gainOf_7 : decode cX12_gainOf 7 = .ok (.bipush 10, 2) := by decide +kernel
theorem dX12_gainOf_9 : decode cX12_gainOf 9 = .ok (.idiv, 1) := by decide +kernel
theorem dX12_gainOf_10 : decode cX12_gainOf 10 = .ok (.aload_n 0, 1) := by decide +kernel
theorem dX12_gainOf_11 : decode cX12_gainOf 11 = .ok (.iload_n 1, 1) := by decide +kernel
theorem dX12_gainOf_12 : decode cX12_gainOf 12 = .ok (.iconst 1, 1) := by decide +kernel
theorem dX12_gainOf_13 : decode cX12_gainOf 13 = .ok (.invokevirtual 98, 3) := by decide +kernel
theorem dX12_gainOf_16 : decode cX12_gainOf 16 = .ok (.invokevirtual 122, 3) := by decide +kernel
theorem dX12_gainOf_19 : decode cX12_gainOf 19 = .ok (.bipush 50, 2) := by decide +kernel
theorem dX12_gainOf_21 : decode cX12_gainOf 21 = .ok (.idiv, 1) := by decide +kernel
theorem dX12_gainOf_22 : decode cX12_gainOf 22 = .ok (.istore_n 2, 1) := by decide +kernel
theorem dX12_gainOf_23 : decode cX12_gainOf 23 = .ok (.aload_n 0, 1) := by decide +kernel
theorem dX12_gainOf_24 : decode cX12_gainOf 24 = .ok (.getfield 9, 3) := by decide +kernel
theorem dX12_gainOf_27 : decode cX12_gainOf 27 = .ok (.bipush 11, 2) := by decide +kernel
theorem dX12_gainOf_29 : decode cX12_gainOf 29 = .ok (.iaload, 1) := by decide +kernel
theorem dX12_gainOf_30 : decode cX12_gainOf 30 = .ok (.ifCond .le 7, 3) := by decide +kernel
theorem dX12_gainOf_33 : decode cX12_gainOf 33 = .ok (.iconst 1, 1) := by decide +kernel
theorem dX12_gainOf_34 : decode cX12_gainOf 34 = .ok (.goto 4, 3) := by decide +kernel
theorem dX12_gainOf_37 : decode cX12_gainOf 37 = .ok (.iconst 0, 1) := by decide +kernel
theorem dX12_gainOf_38 : decode cX12_gainOf 38 = .ok (.istore_n 3, 1) := by decide +kernel
theorem dX12_gainOf_39 : decode cX12_gainOf 39 = .ok (.aload_n 0, 1) := by decide +kernel
theorem dX12_gainOf_40 : decode cX12_gainOf 40 = .ok (.iload_n 1, 1) := by decide +kernel
theorem dX12_gainOf_41 : decode cX12_gainOf 41 = .ok (.iconst 0, 1) := by decide +kernel
theorem dX12_gainOf_42 : decode cX12_gainOf 42 = .ok (.invokevirtual 98, 3) := by decide +kernel
theorem dX12_gainOf_45 : decode cX12_gainOf 45 = .ok (.tableswitch 105 1 6 #[39, 43, 62, 52, 72, 43], 39) := by decide +kernel
theorem dX12_gainOf_84 : decode cX12_gainOf 84 = .ok (.iload_n 2, 1) := by decide +kernel
theorem dX12_gainOf_85 : decode cX12_gainOf 85 = .ok (.iload_n 3, 1) := by decide +kernel
theorem dX12_gainOf_86 : decode cX12_gainOf 86 = .ok (.iadd, 1) := by decide +kernel
theorem dX12_gainOf_87 : decode cX12_gainOf 87 = .ok (.ireturn, 1) := by decide +kernel
theorem dX12_gainOf_88 : decode cX12_gainOf 88 = .ok (.iload_n 2, 1) := by decide +kernel
theorem dX12_gainOf_89 : decode cX12_gainOf 89 = .ok (.aload_n 0, 1) := by decide +kernel
theorem dX12_gainOf_90 : decode cX12_gainOf 90 = .ok (.iload_n 1, 1) := by decide +kernel
theorem dX12_gainOf_91 : decode cX12_gainOf 91 = .ok (.iconst 2, 1) := by decide +kernel
theorem dX12_gainOf_92 : decode cX12_gainOf 92 = .ok (.invokevirtual 98, 3) := by decide +kernel
theorem dX12_gainOf_95 : decode cX12_gainOf 95 = .ok (.iadd, 1) := by decide +kernel
theorem dX12_gainOf_96 : decode cX12_gainOf 96 = .ok (.ireturn, 1) := by decide +kernel
theorem dX12_gainOf_97 : decode cX12_gainOf 97 = .ok (.iload_n 2, 1) := by decide +kernel
theorem dX12_gainOf_98 : decode cX12_gainOf 98 = .ok (.aload_n 0, 1) := by decide +kernel
theorem dX12_gainOf_99 : decode cX12_gainOf 99 = .ok (.getfield 9, 3) := by decide +kernel
theorem dX12_gainOf_102 : decode cX12_gainOf 102 = .ok (.bipush 14, 2) := by decide +kernel
theorem dX12_gainOf_104 : decode cX12_gainOf 104 = .ok (.iaload, 1) := by decide +kernel
theorem dX12_gainOf_105 : decode cX12_gainOf 105 = .ok (.iadd, 1) := by decide +kernel
theorem dX12_gainOf_106 : decode cX12_gainOf 106 = .ok (.ireturn, 1) := by decide +kernel
theorem dX12_gainOf_107 : decode cX12_gainOf 107 = .ok (.iload_n 2, 1) := by decide +kernel
theorem dX12_gainOf_108 : decode cX12_gainOf 108 = .ok (.iload_n 3, 1) := by decide +kernel
theorem dX12_gainOf_109 : decode cX12_gainOf 109 = .ok (.iadd, 1) := by decide +kernel
theorem dX12_gainOf_110 : decode cX12_gainOf 110 = .ok (.aload_n 0, 1) := by decide +kernel
theorem dX12_gainOf_111 : decode cX12_gainOf 111 = .ok (.iload_n 1, 1) := by decide +kernel
theorem dX12_gainOf_112 : decode cX12_gainOf 112 = .ok (.invokevirtual 139, 3) := by decide +kernel
theorem dX12_gainOf_115 : decode cX12_gainOf 115 = .ok (.isub, 1) := by decide +kernel
theorem dX12_gainOf_116 : decode cX12_gainOf 116 = .ok (.ireturn, 1) := by decide +kernel
theorem dX12_gainOf_117 : decode cX12_gainOf 117 = .ok (.iload_n 2, 1) := by decide +kernel
theorem dX12_gainOf_118 : decode cX12_gainOf 118 = .ok (.iload_n 3, 1) := by decide +kernel
theorem dX12_gainOf_119 : decode cX12_gainOf 119 = .ok (.iadd, 1) := by decide +kernel
theorem dX12_gainOf_120 : decode cX12_gainOf 120 = .ok (.aload_n 0, 1) := by decide +kernel
theorem dX12_gainOf_121 : decode cX12_gainOf 121 = .ok (.iload_n 1, 1) := by decide +kernel
theorem dX12_gainOf_122 : decode cX12_gainOf 122 = .ok (.iconst 3, 1) := by decide +kernel
theorem dX12_gainOf_123 : decode cX12_gainOf 123 = .ok (.invokevirtual 98, 3) := by decide +kernel
theorem dX12_gainOf_126 : decode cX12_gainOf 126 = .ok (.bipush 8, 2) := by decide +kernel
theorem dX12_gainOf_128 : decode cX12_gainOf 128 = .ok (.aload_n 0, 1) := by decide +kernel
theorem dX12_gainOf_129 : decode cX12_gainOf 129 = .ok (.getfield 9, 3) := by decide +kernel
theorem dX12_gainOf_132 : decode cX12_gainOf 132 = .ok (.bipush 7, 2) := by decide +kernel
theorem dX12_gainOf_134 : decode cX12_gainOf 134 = .ok (.iaload, 1) := by decide +kernel
theorem dX12_gainOf_135 : decode cX12_gainOf 135 = .ok (.imul, 1) := by decide +kernel
theorem dX12_gainOf_136 : decode cX12_gainOf 136 = .ok (.if_icmp .ge 7, 3) := by decide +kernel
theorem dX12_gainOf_139 : decode cX12_gainOf 139 = .ok (.iconst 0, 1) := by decide +kernel
theorem dX12_gainOf_140 : decode cX12_gainOf 140 = .ok (.goto 8, 3) := by decide +kernel
theorem dX12_gainOf_143 : decode cX12_gainOf 143 = .ok (.aload_n 0, 1) := by decide +kernel
theorem dX12_gainOf_144 : decode cX12_gainOf 144 = .ok (.iload_n 1, 1) := by decide +kernel
theorem dX12_gainOf_145 : decode cX12_gainOf 145 = .ok (.invokevirtual 139, 3) := by decide +kernel
theorem dX12_gainOf_148 : decode cX12_gainOf 148 = .ok (.isub, 1) := by decide +kernel
theorem dX12_gainOf_149 : decode cX12_gainOf 149 = .ok (.ireturn, 1) := by decide +kernel
theorem dX12_gainOf_150 : decode cX12_gainOf 150 = .ok (.iload_n 2, 1) := by decide +kernel
theorem dX12_gainOf_151 : decode cX12_gainOf 151 = .ok (.ireturn, 1) := by decide +kernel
theorem dX12_given_0 : decode cX12_given 0 = .ok (.aload_n 0, 1) := by decide +kernel
theorem dX12_given_1 : decode cX12_given 1 = .ok (.getfield 42, 3) := by decide +kernel
theorem dX12_given_4 : decode cX12_given 4 = .ok (.iconst 0, 1) := by decide +kernel
theorem dX12_given_5 : decode cX12_given 5 = .ok (.iload_n 2, 1) := by decide +kernel
theorem dX12_given_6 : decode cX12_given 6 = .ok (.iastore, 1) := by decide +kernel
theorem dX12_given_7 : decode cX12_given 7 = .ok (.aload_n 0, 1) := by decide +kernel
theorem dX12_given_8 : decode cX12_given 8 = .ok (.getfield 42, 3) := by decide +kernel
theorem dX12_given_11 : decode cX12_given 11 = .ok (.iconst 1, 1) := by decide +kernel
theorem dX12_given_12 : decode cX12_given 12 = .ok (.iload_n 3, 1) := by decide +kernel
theorem dX12_given_13 : decode cX12_given 13 = .ok (.iastore, 1) := by decide +kernel
theorem dX12_given_14 : decode cX12_given 14 = .ok (.aload_n 0, 1) := by decide +kernel
theorem dX12_given_15 : decode cX12_given 15 = .ok (.getfield 42, 3) := by decide +kernel
theorem dX12_given_18 : decode cX12_given 18 = .ok (.iconst 2, 1) := by decide +kernel
theorem dX12_given_19 : decode cX12_given 19 = .ok (.iload 4, 2) := by decide +kernel
theorem dX12_given_21 : decode cX12_given 21 = .ok (.iastore, 1) := by decide +kernel
theorem dX12_given_22 : decode cX12_given 22 = .ok (.aload_n 0, 1) := by decide +kernel
theorem dX12_given_23 : decode cX12_given 23 = .ok (.getfield 42, 3) := by decide +kernel
theorem dX12_given_26 : decode cX12_given 26 = .ok (.iconst 3, 1) := by decide +kernel
theorem dX12_given_27 : decode cX12_given 27 = .ok (.iload 5, 2) := by decide +kernel
theorem dX12_given_29 : decode cX12_given 29 = .ok (.iastore, 1) := by decide +kernel
theorem dX12_given_30 : decode cX12_given 30 = .ok (.sipush 168, 3) := by decide +kernel
theorem dX12_given_33 : decode cX12_given 33 = .ok (.bipush 52, 2) := by decide +kernel
theorem dX12_given_35 : decode cX12_given 35 = .ok (.iload_n 1, 1) := by decide +kernel
theorem dX12_given_36 : decode cX12_given 36 = .ok (.imul, 1) := by decide +kernel
theorem dX12_given_37 : decode cX12_given 37 = .ok (.iadd, 1) := by decide +kernel
theorem dX12_given_38 : decode cX12_given 38 = .ok (.iconst 1, 1) := by decide +kernel
theorem dX12_given_39 : decode cX12_given 39 = .ok (.iadd, 1) := by decide +kernel
theorem dX12_given_40 : decode cX12_given 40 = .ok (.istore 6, 2) := by decide +kernel
theorem dX12_given_42 : decode cX12_given 42 = .ok (.aload_n 0, 1) := by decide +kernel
theorem dX12_given_43 : decode cX12_given 43 = .ok (.getfield 9, 3) := by decide +kernel
theorem dX12_given_46 : decode cX12_given 46 = .ok (.iload 6, 2) := by decide +kernel
theorem dX12_given_48 : decode cX12_given 48 = .ok (.iconst 1, 1) := by decide +kernel
theorem dX12_given_49 : decode cX12_given 49 = .ok (.isub, 1) := by decide +kernel
theorem dX12_given_50 : decode cX12_given 50 = .ok (.iaload, 1) := by decide +kernel
theorem dX12_given_51 : decode cX12_given 51 = .ok (.ifCond .le 14, 3) := by decide +kernel
theorem dX12_given_54 : decode cX12_given 54 = .ok (.aload_n 0, 1) := by decide +kernel
theorem dX12_given_55 : decode cX12_given 55 = .ok (.iload 6, 2) := by decide +kernel
theorem dX12_given_57 : decode cX12_given 57 = .ok (.invokevirtual 219, 3) := by decide +kernel
theorem dX12_given_60 : decode cX12_given 60 = .ok (.istore 7, 2) := by decide +kernel
theorem dX12_given_62 : decode cX12_given 62 = .ok (.goto 41, 3) := by decide +kernel
theorem dX12_given_65 : decode cX12_given 65 = .ok (.iload_n 1, 1) := by decide +kernel
theorem dX12_given_66 : decode cX12_given 66 = .ok (.ifCond .ne 22, 3) := by decide +kernel
theorem dX12_given_69 : decode cX12_given 69 = .ok (.iload_n 2, 1) := by decide +kernel
theorem dX12_given_70 : decode cX12_given 70 = .ok (.bipush 100, 2) := by decide +kernel
theorem dX12_given_72 : decode cX12_given 72 = .ok (.idiv, 1) := by decide +kernel
theorem dX12_given_73 : decode cX12_given 73 = .ok (.iload_n 3, 1) := by decide +kernel
theorem dX12_given_74 : decode cX12_given 74 = .ok (.bipush 100, 2) := by decide +kernel
theorem dX12_given_76 : decode cX12_given 76 = .ok (.if_icmp .le 7, 3) := by decide +kernel
theorem dX12_given_79 : decode cX12_given 79 = .ok (.iconst 1, 1) := by decide +kernel
theorem dX12_given_80 : decode cX12_given 80 = .ok (.goto 4, 3) := by decide +kernel
theorem dX12_given_83 : decode cX12_given 83 = .ok (.iconst 0, 1) := by decide +kernel
theorem dX12_given_84 : decode cX12_given 84 = .ok (.iadd, 1) := by decide +kernel
theorem dX12_given_85 : decode cX12_given 85 = .ok (.goto 16, 3) := by decide +kernel
theorem dX12_given_88 : decode cX12_given 88 = .ok (.iload 4, 2) := by decide +kernel
theorem dX12_given_90 : decode cX12_given 90 = .ok (.iconst 5, 1) := by decide +kernel
theorem dX12_given_91 : decode cX12_given 91 = .ok (.imul, 1) := by decide +kernel
theorem dX12_given_92 : decode cX12_given 92 = .ok (.iload_n 2, 1) := by decide +kernel
theorem dX12_given_93 : decode cX12_given 93 = .ok (.if_icmp .le 7, 3) := by decide +kernel
theorem dX12_given_96 : decode cX12_given 96 = .ok (.iconst 1, 1) := by decide +kernel
theorem dX12_given_97 : decode cX12_given 97 = .ok (.goto 4, 3) := by decide +kernel
theorem dX12_given_100 : decode cX12_given 100 = .ok (.iconst 0, 1) := by decide +kernel
theorem dX12_given_101 : decode cX12_given 101 = .ok (.istore 7, 2) := by decide +kernel
theorem dX12_given_103 : decode cX12_given 103 = .ok (.iload_n 1, 1) := by decide +kernel
theorem dX12_given_104 : decode cX12_given 104 = .ok (.ifCond .ne 14, 3) := by decide +kernel
theorem dX12_given_107 : decode cX12_given 107 = .ok (.iload 7, 2) := by decide +kernel
theorem dX12_given_109 : decode cX12_given 109 = .ok (.iconst 0, 1) := by decide +kernel
theorem dX12_given_110 : decode cX12_given 110 = .ok (.bipush 99, 2) := by decide +kernel
theorem dX12_given_112 : decode cX12_given 112 = .ok (.invokestatic 222, 3) := by decide +kernel
theorem dX12_given_115 : decode cX12_given 115 = .ok (.goto 5, 3) := by decide +kernel
theorem dX12_given_118 : decode cX12_given 118 = .ok (.iload 7, 2) := by decide +kernel
theorem dX12_given_120 : decode cX12_given 120 = .ok (.ireturn, 1) := by decide +kernel
theorem dX12_goes_0 : decode cX12_goes 0 = .ok (.aload_n 0, 1) := by decide +kernel
theorem dX12_goes_1 : decode cX12_goes 1 = .ok (.iload_n 1, 1) := by decide +kernel
theorem dX12_goes_2 : decode cX12_goes 2 = .ok (.iconst 4, 1) := by decide +kernel
theorem dX12_goes_3 : decode cX12_goes 3 = .ok (.invokevirtual 98, 3) := by decide +kernel
theorem dX12_goes_6 : decode cX12_goes 6 = .ok (.aload_n 0, 1) := by decide +kernel
theorem dX12_goes_7 : decode cX12_goes 7 = .ok (.iload_n 1, 1) := by decide +kernel
theorem dX12_goes_8 : decode cX12_goes 8 = .ok (.invokevirtual 142, 3) := by decide +kernel
theorem dX12_goes_11 : decode cX12_goes 11 = .ok (.iadd, 1) := by decide +kernel
theorem dX12_goes_12 : decode cX12_goes 12 = .ok (.aload_n 0, 1) := by decide +kernel
theorem dX12_goes_13 : decode cX12_goes 13 = .ok (.iload_n 1, 1) := by decide +kernel
theorem dX12_goes_14 : decode cX12_goes 14 = .ok (.invokevirtual 145, 3) := by decide +kernel
theorem dX12_goes_17 : decode cX12_goes 17 = .ok (.invokestatic 225, 3) := by decide +kernel
theorem dX12_goes_20 : decode cX12_goes 20 = .ok (.sipush (-300), 3) := by decide +kernel
theorem dX12_goes_23 : decode cX12_goes 23 = .ok (.sipush 300, 3) := by decide +kernel
theorem dX12_goes_26 : decode cX12_goes 26 = .ok (.invokestatic 222, 3) := by decide +kernel
theorem dX12_goes_29 : decode cX12_goes 29 = .ok (.istore_n 2, 1) := by decide +kernel
theorem dX12_goes_30 : decode cX12_goes 30 = .ok (.aload_n 0, 1) := by decide +kernel
theorem dX12_goes_31 : decode cX12_goes 31 = .ok (.iload_n 1, 1) := by decide +kernel
theorem dX12_goes_32 : decode cX12_goes 32 = .ok (.iconst 3, 1) := by decide +kernel
theorem dX12_goes_33 : decode cX12_goes 33 = .ok (.invokevirtual 98, 3) := by decide +kernel
theorem dX12_goes_36 : decode cX12_goes 36 = .ok (.iload_n 2, 1) := by decide +kernel
theorem dX12_goes_37 : decode cX12_goes 37 = .ok (.iadd, 1) := by decide +kernel
theorem dX12_goes_38 : decode cX12_goes 38 = .ok (.istore_n 3, 1) := by decide +kernel
theorem dX12_goes_39 : decode cX12_goes 39 = .ok (.iload_n 3, 1) := by decide +kernel
theorem dX12_goes_40 : decode cX12_goes 40 = .ok (.bipush 10, 2) := by decide +kernel
theorem dX12_goes_42 : decode cX12_goes 42 = .ok (.aload_n 0, 1) := by decide +kernel
theorem dX12_goes_43 : decode cX12_goes 43 = .ok (.getfield 9, 3) := by decide +kernel
theorem dX12_goes_46 : decode cX12_goes 46 = .ok (.bipush 7, 2) := by decide +kernel
theorem dX12_goes_48 : decode cX12_goes 48 = .ok (.iaload, 1) := by decide +kernel
theorem dX12_goes_49 : decode cX12_goes 49 = .ok (.imul, 1) := by decide +kernel
theorem dX12_goes_50 : decode cX12_goes 50 = .ok (.if_icmp .lt 73, 3) := by decide +kernel
theorem dX12_goes_53 : decode cX12_goes 53 = .ok (.bipush 10, 2) := by decide +kernel
theorem dX12_goes_55 : decode cX12_goes 55 = .ok (.aload_n 0, 1) := by decide +kernel
theorem dX12_goes_56 : decode cX12_goes 56 = .ok (.getfield 9, 3) := by decide +kernel
theorem dX12_goes_59 : decode cX12_goes 59 = .ok (.bipush 7, 2) := by decide +kernel
theorem dX12_goes_61 : decode cX12_goes 61 = .ok (.iaload, 1) := by decide +kernel
theorem dX12_goes_62 : decode cX12_goes 62 = .ok (.imul, 1) := by decide +kernel
theorem dX12_goes_63 : decode cX12_goes 63 = .ok (.istore_n 3, 1) := by decide +kernel
theorem dX12_goes_64 : decode cX12_goes 64 = .ok (.aload_n 0, 1) := by decide +kernel
theorem dX12_goes_65 : decode cX12_goes 65 = .ok (.getfield 9, 3) := by decide +kernel
theorem dX12_goes_68 : decode cX12_goes 68 = .ok (.bipush 15, 2) := by decide +kernel
theorem dX12_goes_70 : decode cX12_goes 70 = .ok (.iconst 0, 1) := by decide +kernel
theorem dX12_goes_71 : decode cX12_goes 71 = .ok (.aload_n 0, 1) := by decide +kernel
theorem dX12_goes_72 : decode cX12_goes 72 = .ok (.getfield 9, 3) := by decide +kernel
theorem dX12_goes_75 : decode cX12_goes 75 = .ok (.bipush 15, 2) := by decide +kernel
theorem dX12_goes_77 : decode cX12_goes 77 = .ok (.iaload, 1) := by decide +kernel
theorem dX12_goes_78 : decode cX12_goes 78 = .ok (.aload_n 0, 1) := by decide +kernel
theorem dX12_goes_79 : decode cX12_goes 79 = .ok (.iconst 0, 1) := by decide +kernel
theorem dX12_goes_80 : decode cX12_goes 80 = .ok (.aload_n 0, 1) := by decide +kernel
theorem dX12_goes_81 : decode cX12_goes 81 = .ok (.iload_n 1, 1) := by decide +kernel
theorem dX12_goes_82 : decode cX12_goes 82 = .ok (.iconst 1, 1) := by decide +kernel
theorem dX12_goes_83 : decode cX12_goes 83 = .ok (.invokevirtual 98, 3) := by decide +kernel
theorem dX12_goes_86 : decode cX12_goes 86 = .ok (.iload_n 2, 1) := by decide +kernel
theorem dX12_goes_87 : decode cX12_goes 87 = .ok (.aload_n 0, 1) := by decide +kernel
theorem dX12_goes_88 : decode cX12_goes 88 = .ok (.getfield 9, 3) := by decide +kernel
theorem dX12_goes_91 : decode cX12_goes 91 = .ok (.bipush 15, 2) := by decide +kernel
theorem dX12_goes_93 : decode cX12_goes 93 = .ok (.iaload, 1) := by decide +kernel
theorem dX12_goes_94 : decode cX12_goes 94 = .ok (.iconst 0, 1) := by decide +kernel
theorem dX12_goes_95 : decode cX12_goes 95 = .ok (.invokevirtual 133, 3) := by decide +kernel
theorem dX12_goes_98 : decode cX12_goes 98 = .ok (.isub, 1) := by decide +kernel
theorem dX12_goes_99 : decode cX12_goes 99 = .ok (.invokestatic 79, 3) := by decide +kernel
theorem dX12_goes_102 : decode cX12_goes 102 = .ok (.iastore, 1) := by decide +kernel
theorem dX12_goes_103 : decode cX12_goes 103 = .ok (.aload_n 0, 1) := by decide +kernel
theorem dX12_goes_104 : decode cX12_goes 104 = .ok (.iload_n 1, 1) := by decide +kernel
theorem dX12_goes_105 : decode cX12_goes 105 = .ok (.iconst 5, 1) := by decide +kernel
theorem dX12_goes_106 : decode cX12_goes 106 = .ok (.iconst 1, 1) := by decide +kernel
theorem dX12_goes_107 : decode cX12_goes 107 = .ok (.invokevirtual 101, 3) := by decide +kernel
theorem dX12_goes_110 : decode cX12_goes 110 = .ok (.aload_n 0, 1) := by decide +kernel
theorem dX12_goes_111 : decode cX12_goes 111 = .ok (.iload_n 1, 1) := by decide +kernel
theorem dX12_goes_112 : decode cX12_goes 112 = .ok (.bipush 6, 2) := by decide +kernel
theorem dX12_goes_114 : decode cX12_goes 114 = .ok (.iload_n 2, 1) := by decide +kernel
theorem dX12_goes_115 : decode cX12_goes 115 = .ok (.invokevirtual 101, 3) := by decide +kernel
theorem dX12_goes_118 : decode cX12_goes 118 = .ok (.iconst 0, 1) := by decide +kernel
theorem dX12_goes_119 : decode cX12_goes 119 = .ok (.istore_n 2, 1) := by decide +kernel
theorem dX12_goes_120 : decode cX12_goes 120 = .ok (.goto 11, 3) := by decide +kernel
theorem dX12_goes_123 : decode cX12_goes 123 = .ok (.iload_n 3, 1) := by decide +kernel
theorem dX12_goes_124 : decode cX12_goes 124 = .ok (.ifCond .ge 7, 3) := by decide +kernel
theorem dX12_goes_127 : decode cX12_goes 127 = .ok (.iconst 0, 1) := by decide +kernel
theorem dX12_goes_128 : decode cX12_goes 128 = .ok (.istore_n 3, 1) := by decide +kernel
theorem dX12_goes_129 : decode cX12_goes 129 = .ok (.iconst 0, 1) := by decide +kernel
theorem dX12_goes_130 : decode cX12_goes 130 = .ok (.istore_n 2, 1) := by decide +kernel
theorem dX12_goes_131 : decode cX12_goes 131 = .ok (.aload_n 0, 1) := by decide +kernel
theorem dX12_goes_132 : decode cX12_goes 132 = .ok (.iload_n 1, 1) := by decide +kernel
theorem dX12_goes_133 : decode cX12_goes 133 = .ok (.iconst 3, 1) := by decide +kernel
theorem dX12_goes_134 : decode cX12_goes 134 = .ok (.iload_n 3, 1) := by decide +kernel
theorem dX12_goes_135 : decode cX12_goes 135 = .ok (.invokevirtual 101, 3) := by decide +kernel
theorem dX12_goes_138 : decode cX12_goes 138 = .ok (.aload_n 0, 1) := by decide +kernel
theorem dX12_goes_139 : decode cX12_goes 139 = .ok (.iload_n 1, 1) := by decide +kernel
theorem dX12_goes_140 : decode cX12_goes 140 = .ok (.iconst 4, 1) := by decide +kernel
theorem dX12_goes_141 : decode cX12_goes 141 = .ok (.iload_n 2, 1) := by decide +kernel
theorem dX12_goes_142 : decode cX12_goes 142 = .ok (.invokevirtual 101, 3) := by decide +kernel
theorem dX12_goes_145 : decode cX12_goes 145 = .ok (.return_, 1) := by decide +kernel
theorem dX12_gusts_0 : decode cX12_gusts 0 = .ok (.aload_n 0, 1) := by decide +kernel
theorem dX12_gusts_1 : decode cX12_gusts 1 = .ok (.iload_n 1, 1) := by decide +kernel
theorem dX12_gusts_2 : decode cX12_gusts 2 = .ok (.invokevirtual 237, 3) := by decide +kernel
theorem dX12_gusts_5 : decode cX12_gusts 5 = .ok (.istore_n 2, 1) := by decide +kernel
theorem dX12_gusts_6 : decode cX12_gusts 6 = .ok (.iload_n 2, 1) := by decide +kernel
theorem dX12_gusts_7 : decode cX12_gusts 7 = .ok (.ifCond .eq 9, 3) := by decide +kernel
theorem dX12_gusts_10 : decode cX12_gusts 10 = .ok (.aload_n 0, 1) := by decide +kernel
theorem dX12_gusts_11 : decode cX12_gusts 11 = .ok (.iload_n 2, 1) := by decide +kernel
theorem dX12_gusts_12 : decode cX12_gusts 12 = .ok (.invokevirtual 91, 3) := by decide +kernel
theorem dX12_gusts_15 : decode cX12_gusts 15 = .ok (.ireturn, 1) := by decide +kernel
theorem dX12_gusts_16 : decode cX12_gusts 16 = .ok (.iconst 0, 1) := by decide +kernel
theorem dX12_gusts_17 : decode cX12_gusts 17 = .ok (.istore_n 3, 1) := by decide +kernel
theorem dX12_gusts_18 : decode cX12_gusts 18 = .ok (.iload_n 3, 1) := by decide +kernel
theorem dX12_gusts_19 : decode cX12_gusts 19 = .ok (.iload_n 1, 1) := by decide +kernel
theorem dX12_gusts_20 : decode cX12_gusts 20 = .ok (.if_icmp .ge 29, 3) := by decide +kernel
theorem dX12_gusts_23 : decode cX12_gusts 23 = .ok (.aload_n 0, 1) := by decide +kernel
theorem dX12_gusts_24 : decode cX12_gusts 24 = .ok (.getfield 9, 3) := by decide +kernel
theorem dX12_gusts_27 : decode cX12_gusts 27 = .ok (.bipush 14, 2) := by decide +kernel
theorem dX12_gusts_29 : decode cX12_gusts 29 = .ok (.aload_n 0, 1) := by decide +kernel
theorem dX12_gusts_30 : decode cX12_gusts 30 = .ok (.bipush 41, 2) := by decide +kernel
theorem dX12_gusts_32 : decode cX12_gusts 32 = .ok (.invokevirtual 244, 3) := by decide +kernel
theorem dX12_gusts_35 : decode cX12_gusts 35 = .ok (.bipush 20, 2) := by decide +kernel
theorem dX12_gusts_37 : decode cX12_gusts 37 = .ok (.isub, 1) := by decide +kernel
theorem dX12_gusts_38 : decode cX12_gusts 38 = .ok (.iastore, 1) := by decide +kernel
theorem dX12_gusts_39 : decode cX12_gusts 39 = .ok (.aload_n 0, 1) := by decide +kernel
theorem dX12_gusts_40 : decode cX12_gusts 40 = .ok (.invokevirtual 234, 3) := by decide +kernel
theorem dX12_gusts_43 : decode cX12_gusts 43 = .ok (.iinc 3 1, 3) := by decide +kernel
theorem dX12_gusts_46 : decode cX12_gusts 46 = .ok (.goto (-28), 3) := by decide +kernel
theorem dX12_gusts_49 : decode cX12_gusts 49 = .ok (.aload_n 0, 1) := by decide +kernel
theorem dX12_gusts_50 : decode cX12_gusts 50 = .ok (.getfield 9, 3) := by decide +kernel
theorem dX12_gusts_53 : decode cX12_gusts 53 = .ok (.bipush 14, 2) := by decide +kernel
theorem dX12_gusts_55 : decode cX12_gusts 55 = .ok (.iaload, 1) := by decide +kernel
theorem dX12_gusts_56 : decode cX12_gusts 56 = .ok (.ireturn, 1) := by decide +kernel
theorem dX12_hasOwn_0 : decode cX12_hasOwn 0 = .ok (.iload_n 0, 1) := by decide +kernel
theorem dX12_hasOwn_1 : decode cX12_hasOwn 1 = .ok (.tableswitch 84 0 5 #[39, 41, 52, 62, 73, 41], 39) := by decide +kernel
theorem dX12_hasOwn_40 : decode cX12_hasOwn 40 = .ok (.iconst 1, 1) := by decide +kernel
theorem dX12_hasOwn_41 : decode cX12_hasOwn 41 = .ok (.ireturn, 1) := by decide +kernel
theorem dX12_hasOwn_42 : decode cX12_hasOwn 42 = .ok (.iload_n 1, 1) := by decide +kernel
theorem dX12_hasOwn_43 : decode cX12_hasOwn 43 = .ok (.iconst 1, 1) := by decide +kernel
theorem dX12_hasOwn_44 : decode cX12_hasOwn 44 = .ok (.if_icmp .ne 7, 3) := by decide +kernel
theorem dX12_hasOwn_47 : decode cX12_hasOwn 47 = .ok (.iconst 1, 1) := by decide +kernel
theorem dX12_hasOwn_48 : decode cX12_hasOwn 48 = .ok (.goto 4, 3) := by decide +kernel
theorem dX12_hasOwn_51 : decode cX12_hasOwn 51 = .ok (.iconst 0, 1) := by decide +kernel
theorem dX12_hasOwn_52 : decode cX12_hasOwn 52 = .ok (.ireturn, 1) := by decide +kernel
theorem dX12_hasOwn_53 : decode cX12_hasOwn 53 = .ok (.iload_n 1, 1) := by decide +kernel
theorem dX12_hasOwn_54 : decode cX12_hasOwn 54 = .ok (.ifCond .ne 7, 3) := by decide +kernel
theorem dX12_hasOwn_57 : decode cX12_hasOwn 57 = .ok (.iconst 1, 1) := by decide +kernel
theorem dX12_hasOwn_58 : decode cX12_hasOwn 58 = .ok (.goto 4, 3) := by decide +kernel
theorem dX12_hasOwn_61 : decode cX12_hasOwn 61 = .ok (.iconst 0, 1) := by decide +kernel
theorem dX12_hasOwn_62 : decode cX12_hasOwn 62 = .ok (.ireturn, 1) := by decide +kernel
theorem dX12_hasOwn_63 : decode cX12_hasOwn 63 = .ok (.iload_n 1, 1) := by decide +kernel
theorem dX12_hasOwn_64 : decode cX12_hasOwn 64 = .ok (.iconst 2, 1) := by decide +kernel
theorem dX12_hasOwn_65 : decode cX12_hasOwn 65 = .ok (.if_icmp .ne 7, 3) := by decide +kernel
theorem dX12_hasOwn_68 : decode cX12_hasOwn 68 = .ok (.iconst 1, 1) := by decide +kernel
theorem dX12_hasOwn_69 : decode cX12_hasOwn 69 = .ok (.goto 4, 3) := by decide +kernel
theorem dX12_hasOwn_72 : decode cX12_hasOwn 72 = .ok (.iconst 0, 1) := by decide +kernel
theorem dX12_hasOwn_73 : decode cX12_hasOwn 73 = .ok (.ireturn, 1) := by decide +kernel
theorem dX12_hasOwn_74 : decode cX12_hasOwn 74 = .ok (.iload_n 1, 1) := by decide +kernel
theorem dX12_hasOwn_75 : decode cX12_hasOwn 75 = .ok (.iconst 3, 1) := by decide +kernel
theorem dX12_hasOwn_76 : decode cX12_hasOwn 76 = .ok (.if_icmp .ne 7, 3) := by decide +kernel
theorem dX12_hasOwn_79 : decode cX12_hasOwn 79 = .ok (.iconst 1, 1) := by decide +kernel
theorem dX12_hasOwn_80 : decode cX12_hasOwn 80 = .ok (.goto 4, 3) := by decide +kernel
theorem dX12_hasOwn_83 : decode cX12_hasOwn 83 = .ok (.iconst 0, 1) := by decide +kernel
theorem dX12_hasOwn_84 : decode cX12_hasOwn 84 = .ok (.ireturn, 1) := by decide +kernel
theorem dX12_hasOwn_85 : decode cX12_hasOwn 85 = .ok (.iload_n 1, 1) := by decide +kernel
theorem dX12_hasOwn_86 : decode cX12_hasOwn 86 = .ok (.ifCond .eq 8, 3) := by decide +kernel
theorem dX12_hasOwn_89 : decode cX12_hasOwn 89 = .ok (.iload_n 1, 1) := by decide +kernel
theorem dX12_hasOwn_90 : decode cX12_hasOwn 90 = .ok (.iconst 3, 1) := by decide +kernel
theorem dX12_hasOwn_91 : decode cX12_hasOwn 91 = .ok (.if_icmp .ne 7, 3) := by decide +kernel
theorem dX12_hasOwn_94 : decode cX12_hasOwn 94 = .ok (.iconst 1, 1) := by decide +kernel
theorem dX12_hasOwn_95 : decode cX12_hasOwn 95 = .ok (.goto 4, 3) := by decide +kernel
theorem dX12_hasOwn_98 : decode cX12_hasOwn 98 = .ok (.iconst 0, 1) := by decide +kernel
theorem dX12_hasOwn_99 : decode cX12_hasOwn 99 = .ok (.ireturn, 1) := by decide +kernel
theorem dX12_held_0 : decode cX12_held 0 = .ok (.iload_n 1, 1) := by decide +kernel
theorem dX12_held_1 : decode cX12_held 1 = .ok (.iload_n 2, 1) := by decide +kernel
theorem dX12_held_2 : decode cX12_held 2 = .ok (.iload_n 0, 1) := by decide +kernel
theorem dX12_held_3 : decode cX12_held 3 = .ok (.invokestatic 73, 3) := by decide +kernel
theorem dX12_held_6 : decode cX12_held 6 = .ok (.invokestatic 79, 3) := by decide +kernel
theorem dX12_held_9 : decode cX12_held 9 = .ok (.ireturn, 1) := by decide +kernel
theorem dX12_here_0 : decode cX12_here 0 = .ok (.aload_n 0, 1) := by decide +kernel
theorem dX12_here_1 : decode cX12_here 1 = .ok (.getfield 160, 3) := by decide +kernel
theorem dX12_here_4 : decode cX12_here 4 = .ok (.ifCond .ne 31, 3) := by decide +kernel
theorem dX12_here_7 : decode cX12_here 7 = .ok (.aload_n 0, 1) := by decide +kernel
theorem dX12_here_8 : decode cX12_here 8 = .ok (.getfield 164, 3) := by decide +kernel
theorem dX12_here_11 : decode cX12_here 11 = .ok (.aload_n 0, 1) := by decide +kernel
theorem dX12_here_12 : decode cX12_here 12 = .ok (.getfield 9, 3) := by decide +kernel
theorem dX12_here_15 : decode cX12_here 15 = .ok (.iconst 4, 1) := by decide +kernel
theorem dX12_here_16 : decode cX12_here 16 = .ok (.iaload, 1) := by decide +kernel
theorem dX12_here_17 : decode cX12_here 17 = .ok (.if_icmp .ge 18, 3) := by decide +kernel
theorem dX12_here_20 : decode cX12_here 20 = .ok (.aload_n 0, 1) := by decide +kernel
theorem dX12_here_21 : decode cX12_here 21 = .ok (.getfield 9, 3) := by decide +kernel
theorem dX12_here_24 : decode cX12_here 24 = .ok (.bipush 98, 2) := by decide +kernel
theorem dX12_here_26 : decode cX12_here 26 = .ok (.aload_n 0, 1) := by decide +kernel
theorem dX12_here_27 : decode cX12_here 27 = .ok (.getfield 164, 3) := by decide +kernel
theorem dX12_here_30 : decode cX12_here 30 = .ok (.iadd, 1) := by decide +kernel
theorem dX12_here_31 : decode cX12_here 31 = .ok (.iaload, 1) := by decide +kernel
theorem dX12_here_32 : decode cX12_here 32 = .ok (.goto 4, 3) := by decide +kernel
theorem dX12_here_35 : decode cX12_here 35 = .ok (.iconst (-1), 1) := by decide +kernel
theorem dX12_here_36 : decode cX12_here 36 = .ok (.ireturn, 1) := by decide +kernel
theorem dX12_holds_0 : decode cX12_holds 0 = .ok (.iconst 1, 1) := by decide +kernel
theorem dX12_holds_1 : decode cX12_holds 1 = .ok (.istore_n 2, 1) := by decide +kernel
theorem dX12_holds_2 : decode cX12_holds 2 = .ok (.iconst 0, 1) := by decide +kernel
theorem dX12_holds_3 : decode cX12_holds 3 = .ok (.istore_n 3, 1) := by decide +kernel
theorem dX12_holds_4 : decode cX12_holds 4 = .ok (.iload_n 3, 1) := by decide +kernel
theorem dX12_holds_5 : decode cX12_holds 5 = .ok (.aload_n 0, 1) := by decide +kernel
theorem dX12_holds_6 : decode cX12_holds 6 = .ok (.getfield 9, 3) := by decide +kernel
theorem dX12_holds_9 : decode cX12_holds 9 = .ok (.bipush 7, 2) := by decide +kernel
theorem dX12_holds_11 : decode cX12_holds 11 = .ok (.iaload, 1) := by decide +kernel
theorem dX12_holds_12 : decode cX12_holds 12 = .ok (.if_icmp .gt 35, 3) := by decide +kernel
theorem dX12_holds_15 : decode cX12_holds 15 = .ok (.iload_n 2, 1) := by decide +kernel
theorem dX12_holds_16 : decode cX12_holds 16 = .ok (.ifCond .eq 23, 3) := by decide +kernel
theorem dX12_holds_19 : decode cX12_holds 19 = .ok (.aload_n 0, 1) := by decide +kernel
theorem dX12_holds_20 : decode cX12_holds 20 = .ok (.iload_n 3, 1) := by decide +kernel
theorem dX12_holds_21 : decode cX12_holds 21 = .ok (.iload_n 1, 1) := by decide +kernel
theorem dX12_holds_22 : decode cX12_holds 22 = .ok (.invokevirtual 125, 3) := by decide +kernel
theorem dX12_holds_25 : decode cX12_holds 25 = .ok (.aload_n 0, 1) := by decide +kernel
theorem dX12_holds_26 : decode cX12_holds 26 = .ok (.getfield 9, 3) := by decide +kernel
theorem dX12_holds_29 : decode cX12_holds 29 = .ok (.bipush 12, 2) := by decide +kernel
theorem dX12_holds_31 : decode cX12_holds 31 = .ok (.iaload, 1) := by decide +kernel
theorem dX12_holds_32 : decode cX12_holds 32 = .ok (.if_icmp .gt 7, 3) := by decide +kernel
theorem dX12_holds_35 : decode cX12_holds 35 = .ok (.iconst 1, 1) := by decide +kernel
theorem dX12_holds_36 : decode cX12_holds 36 = .ok (.goto 4, 3) := by decide +kernel
theorem dX12_holds_39 : decode cX12_holds 39 = .ok (.iconst 0, 1) := by decide +kernel
theorem dX12_holds_40 : decode cX12_holds 40 = .ok (.istore_n 2, 1) := by decide +kernel
theorem dX12_holds_41 : decode cX12_holds 41 = .ok (.iinc 3 1, 3) := by decide +kernel
theorem dX12_holds_44 : decode cX12_holds 44 = .ok (.goto (-40), 3) := by decide +kernel
theorem dX12_holds_47 : decode cX12_holds 47 = .ok (.iload_n 2, 1) := by decide +kernel
theorem dX12_holds_48 : decode cX12_holds 48 = .ok (.ireturn, 1) := by decide +kernel
theorem dX12_image_0 : decode cX12_image 0 = .ok (.aload_n 0, 1) := by decide +kernel
theorem dX12_image_1 : decode cX12_image 1 = .ok (.getfield 9, 3) := by decide +kernel
theorem dX12_image_4 : decode cX12_image 4 = .ok (.aload_n 0, 1) := by decide +kernel
theorem dX12_image_5 : decode cX12_image 5 = .ok (.getfield 13, 3) := by decide +kernel
theorem dX12_image_8 : decode cX12_image 8 = .ok (.invokestatic 82, 3) := by decide +kernel
theorem dX12_image_11 : decode cX12_image 11 = .ok (.aload_n 0, 1) := by decide +kernel
theorem dX12_image_12 : decode cX12_image 12 = .ok (.dup, 1) := by decide +kernel
theorem dX12_image_13 : decode cX12_image 13 = .ok (.getfield 303, 3) := by decide +kernel
theorem dX12_image_16 : decode cX12_image 16 = .ok (.iconst 1, 1) := by decide +kernel
theorem dX12_image_17 : decode cX12_image 17 = .ok (.iadd, 1) := by decide +kernel
theorem dX12_image_18 : decode cX12_image 18 = .ok (.putfield 303, 3) := by decide +kernel
theorem dX12_image_21 : decode cX12_image 21 = .ok (.aload_n 0, 1) := by decide +kernel
theorem dX12_image_22 : decode cX12_image 22 = .ok (.getfield 303, 3) := by decide +kernel
theorem dX12_image_25 : decode cX12_image 25 = .ok (.ireturn, 1) := by decide +kernel
theorem dX12_init_0 : decode cX12_init 0 = .ok (.aload_n 0, 1) := by decide +kernel
theorem dX12_init_1 : decode cX12_init 1 = .ok (.invokespecial 3, 3) := by decide +kernel
theorem dX12_init_4 : decode cX12_init 4 = .ok (.aload_n 0, 1) := by decide +kernel
theorem dX12_init_5 : decode cX12_init 5 = .ok (.sipush 272, 3) := by decide +kernel
theorem dX12_init_8 : decode cX12_init 8 = .ok (.newarray .int, 2) := by decide +kernel
theorem dX12_init_10 : decode cX12_init 10 = .ok (.putfield 9, 3) := by decide +kernel
theorem dX12_init_13 : decode cX12_init 13 = .ok (.aload_n 0, 1) := by decide +kernel
theorem dX12_init_14 : decode cX12_init 14 = .ok (.sipush 272, 3) := by decide +kernel
theorem dX12_init_17 : decode cX12_init 17 = .ok (.newarray .int, 2) := by decide +kernel
theorem dX12_init_19 : decode cX12_init 19 = .ok (.putfield 13, 3) := by decide +kernel
theorem dX12_init_22 : decode cX12_init 22 = .ok (.aload_n 0, 1) := by decide +kernel
theorem dX12_init_23 : decode cX12_init 23 = .ok (.sipush 272, 3) := by decide +kernel
theorem dX12_init_26 : decode cX12_init 26 = .ok (.newarray .int, 2) := by decide +kernel
theorem dX12_init_28 : decode cX12_init 28 = .ok (.putfield 16, 3) := by decide +kernel
theorem dX12_init_31 : decode cX12_init 31 = .ok (.aload_n 0, 1) := by decide +kernel
theorem dX12_init_32 : decode cX12_init 32 = .ok (.bipush 6, 2) := by decide +kernel
theorem dX12_init_34 : decode cX12_init 34 = .ok (.newarray .int, 2) := by decide +kernel
theorem dX12_init_36 : decode cX12_init 36 = .ok (.putfield 19, 3) := by decide +kernel
theorem dX12_init_39 : decode cX12_init 39 = .ok (.aload_n 0, 1) := by decide +kernel
theorem dX12_init_40 : decode cX12_init 40 = .ok (.bipush 9, 2) := by decide +kernel
theorem dX12_init_42 : decode cX12_init 42 = .ok (.newarray .int, 2) := by decide +kernel
theorem dX12_init_44 : decode cX12_init 44 = .ok (.dup, 1) := by decide +kernel
theorem dX12_init_45 : decode cX12_init 45 = .ok (.iconst 0, 1) := by decide +kernel
theorem dX12_init_46 : decode cX12_init 46 = .ok (.bipush 20, 2) := by decide +kernel
theorem dX12_init_48 : decode cX12_init 48 = .ok (.iastore, 1) := by decide +kernel
theorem dX12_init_49 : decode cX12_init 49 = .ok (.dup, 1) := by decide +kernel
theorem dX12_init_50 : decode cX12_init 50 = .ok (.iconst 1, 1) := by decide +kernel
theorem dX12_init_51 : decode cX12_init 51 = .ok (.bipush (-99), 2) := by decide +kernel
theorem dX12_init_53 : decode cX12_init 53 = .ok (.iastore, 1) := by decide +kernel
theorem dX12_init_54 : decode cX12_init 54 = .ok (.dup, 1) := by decide +kernel
theorem dX12_init_55 : decode cX12_init 55 = .ok (.iconst 2, 1) := by decide +kernel
theorem dX12_init_56 : decode cX12_init 56 = .ok (.bipush 100, 2) := by decide +kernel
theorem dX12_init_58 : decode cX12_init 58 = .ok (.iastore, 1) := by decide +kernel
theorem dX12_init_59 : decode cX12_init 59 = .ok (.dup, 1) := by decide +kernel
theorem dX12_init_60 : decode cX12_init 60 = .ok (.iconst 3, 1) := by decide +kernel
theorem dX12_init_61 : decode cX12_init 61 = .ok (.iconst 1, 1) := by decide +kernel
theorem dX12_init_62 : decode cX12_init 62 = .ok (.iastore, 1) := by decide +kernel
theorem dX12_init_63 : decode cX12_init 63 = .ok (.dup, 1) := by decide +kernel
theorem dX12_init_64 : decode cX12_init 64 = .ok (.iconst 4, 1) := by decide +kernel
theorem dX12_init_65 : decode cX12_init 65 = .ok (.bipush (-40), 2) := by decide +kernel
theorem dX12_init_67 : decode cX12_init 67 = .ok (.iastore, 1) := by decide +kernel
theorem dX12_init_68 : decode cX12_init 68 = .ok (.dup, 1) := by decide +kernel
theorem dX12_init_69 : decode cX12_init 69 = .ok (.iconst 5, 1) := by decide +kernel
theorem dX12_init_70 : decode cX12_init 70 = .ok (.bipush 100, 2) := by decide +kernel
theorem dX12_init_72 : decode cX12_init 72 = .ok (.iastore, 1) := by decide +kernel
theorem dX12_init_73 : decode cX12_init 73 = .ok (.dup, 1) := by decide +kernel
theorem dX12_init_74 : decode cX12_init 74 = .ok (.bipush 6, 2) := by decide +kernel
theorem dX12_init_76 : decode cX12_init 76 = .ok (.iconst 0, 1) := by decide +kernel
theorem dX12_init_77 : decode cX12_init 77 = .ok (.iastore, 1) := by decide +kernel
theorem dX12_init_78 : decode cX12_init 78 = .ok (.dup, 1) := by decide +kernel
theorem dX12_init_79 : decode cX12_init 79 = .ok (.bipush 7, 2) := by decide +kernel
theorem dX12_init_81 : decode cX12_init 81 = .ok (.bipush (-20), 2) := by decide +kernel
theorem dX12_init_83 : decode cX12_init 83 = .ok (.iastore, 1) := by decide +kernel
theorem dX12_init_84 : decode cX12_init 84 = .ok (.dup, 1) := by decide +kernel
theorem dX12_init_85 : decode cX12_init 85 = .ok (.bipush 8, 2) := by decide +kernel
theorem dX12_init_87 : decode cX12_init 87 = .ok (.iconst 0, 1) := by decide +kernel
theorem dX12_init_88 : decode cX12_init 88 = .ok (.iastore, 1) := by decide +kernel
theorem dX12_init_89 : decode cX12_init 89 = .ok (.putfield 22, 3) := by decide +kernel
theorem dX12_init_92 : decode cX12_init 92 = .ok (.aload_n 0, 1) := by decide +kernel
theorem dX12_init_93 : decode cX12_init 93 = .ok (.bipush 9, 2) := by decide +kernel
theorem dX12_init_95 : decode cX12_init 95 = .ok (.newarray .int, 2) := by decide +kernel
theorem dX12_init_97 : decode cX12_init 97 = .ok (.dup, 1) := by decide +kernel
theorem dX12_init_98 : decode cX12_init 98 = .ok (.iconst 0, 1) := by decide +kernel
theorem dX12_init_99 : decode cX12_init 99 = .ok (.sipush 400, 3) := by decide +kernel
theorem dX12_init_102 : decode cX12_init 102 = .ok (.iastore, 1) := by decide +kernel
theorem dX12_init_103 : decode cX12_init 103 = .ok (.dup, 1) := by decide +kernel
theorem dX12_init_104 : decode cX12_init 104 = .ok (.iconst 1, 1) := by decide +kernel
theorem dX12_init_105 : decode cX12_init 105 = .ok (.bipush 99, 2) := by decide +kernel
theorem dX12_init_107 : decode cX12_init 107 = .ok (.iastore, 1) := by decide +kernel
theorem dX12_init_108 : decode cX12_init 108 = .ok (.dup, 1) := by decide +kernel
theorem dX12_init_109 : decode cX12_init 109 = .ok (.iconst 2, 1) := by decide +kernel
theorem dX12_init_110 : decode cX12_init 110 = .ok (.sipush 9999, 3) := by decide +kernel
theorem dX12_init_113 : decode cX12_init 113 = .ok (.iastore, 1) := by decide +kernel
theorem dX12_init_114 : decode cX12_init 114 = .ok (.dup, 1) := by decide +kernel
theorem dX12_init_115 : decode cX12_init 115 = .ok (.iconst 3, 1) := by decide +kernel
theorem dX12_init_116 : decode cX12_init 116 = .ok (.bipush 99, 2) := by decide +kernel
theorem dX12_init_118 : decode cX12_init 118 = .ok (.iastore, 1) := by decide +kernel
theorem dX12_init_119 : decode cX12_init 119 = .ok (.dup, 1) := by decide +kernel
theorem dX12_init_120 : decode cX12_init 120 = .ok (.iconst 4, 1) := by decide +kernel
theorem dX12_init_121 : decode cX12_init 121 = .ok (.bipush 40, 2) := by decide +kernel
theorem dX12_init_123 : decode cX12_init 123 = .ok (.iastore, 1) := by decide +kernel
theorem dX12_init_124 : decode cX12_init 124 = .ok (.dup, 1) := by decide +kernel
theorem dX12_init_125 : decode cX12_init 125 = .ok (.iconst 5, 1) := by decide +kernel
theorem dX12_init_126 : decode cX12_init 126 = .ok (.ldc 25, 2) := by decide +kernel
theorem dX12_init_128 : decode cX12_init 128 = .ok (.iastore, 1) := by decide +kernel
theorem dX12_init_129 : decode cX12_init 129 = .ok (.dup, 1) := by decide +kernel
theorem dX12_init_130 : decode cX12_init 130 = .ok (.bipush 6, 2) := by decide +kernel
theorem dX12_init_132 : decode cX12_init 132 = .ok (.bipush 99, 2) := by decide +kernel
theorem dX12_init_134 : decode cX12_init 134 = .ok (.iastore, 1) := by decide +kernel
theorem dX12_init_135 : decode cX12_init 135 = .ok (.dup, 1) := by decide +kernel
theorem dX12_init_136 : decode cX12_init 136 = .ok (.bipush 7, 2) := by decide +kernel
theorem dX12_init_138 : decode cX12_init 138 = .ok (.bipush 20, 2) := by decide +kernel
theorem dX12_init_140 : decode cX12_init 140 = .ok (.iastore, 1) := by decide +kernel
theorem dX12_init_141 : decode cX12_init 141 = .ok (.dup, 1) := by decide +kernel
theorem dX12_init_142 : decode cX12_init 142 = .ok (.bipush 8, 2) := by decide +kernel
theorem dX12_init_144 : decode cX12_init 144 = .ok (.sipush 999, 3) := by decide +kernel
theorem dX12_init_147 : decode cX12_init 147 = .ok (.iastore, 1) := by decide +kernel
theorem dX12_init_148 : decode cX12_init 148 = .ok (.putfield 26, 3) := by decide +kernel
theorem dX12_init_151 : decode cX12_init 151 = .ok (.aload_n 0, 1) := by decide +kernel
theorem dX12_init_152 : decode cX12_init 152 = .ok (.iconst 2, 1) := by decide +kernel
theorem dX12_init_153 : decode cX12_init 153 = .ok (.anewarray 29, 3) := by decide +kernel
theorem dX12_init_156 : decode cX12_init 156 = .ok (.dup, 1) := by decide +kernel
theorem dX12_init_157 : decode cX12_init 157 = .ok (.iconst 0, 1) := by decide +kernel
theorem dX12_init_158 : decode cX12_init 158 = .ok (.ldc 31, 2) := by decide +kernel
theorem dX12_init_160 : decode cX12_init 160 = .ok (.aastore, 1) := by decide +kernel
theorem dX12_init_161 : decode cX12_init 161 = .ok (.dup, 1) := by decide +kernel
theorem dX12_init_162 : decode cX12_init 162 = .ok (.iconst 1, 1) := by decide +kernel
theorem dX12_init_163 : decode cX12_init 163 = .ok (.ldc 33, 2) := by decide +kernel
theorem dX12_init_165 : decode cX12_init 165 = .ok (.aastore, 1) := by decide +kernel
theorem dX12_init_166 : decode cX12_init 166 = .ok (.putfield 35, 3) := by decide +kernel
theorem dX12_init_169 : decode cX12_init 169 = .ok (.aload_n 0, 1) := by decide +kernel
theorem dX12_init_170 : decode cX12_init 170 = .ok (.bipush 60, 2) := by decide +kernel
theorem dX12_init_172 : decode cX12_init 172 = .ok (.newarray .int, 2) := by decide +kernel
theorem dX12_init_174 : decode cX12_init 174 = .ok (.putfield 39, 3) := by decide +kernel
theorem dX12_init_177 : decode cX12_init 177 = .ok (.aload_n 0, 1) := by decide +kernel
theorem dX12_init_178 : decode cX12_init 178 = .ok (.iconst 4, 1) := by decide +kernel
theorem dX12_init_179 : decode cX12_init 179 = .ok (.newarray .int, 2) := by decide +kernel
theorem dX12_init_181 : decode cX12_init 181 = .ok (.putfield 42, 3) := by decide +kernel
theorem dX12_init_184 : decode cX12_init 184 = .ok (.aload_n 0, 1) := by decide +kernel
theorem dX12_init_185 : decode cX12_init 185 = .ok (.bipush 60, 2) := by decide +kernel
theorem dX12_init_187 : decode cX12_init 187 = .ok (.newarray .int, 2) := by decide +kernel
theorem dX12_init_189 : decode cX12_init 189 = .ok (.putfield 45, 3) := by decide +kernel
theorem dX12_init_192 : decode cX12_init 192 = .ok (.aload_n 0, 1) := by decide +kernel
theorem dX12_init_193 : decode cX12_init 193 = .ok (.bipush 8, 2) := by decide +kernel
theorem dX12_init_195 : decode cX12_init 195 = .ok (.newarray .int, 2) := by decide +kernel
theorem dX12_init_197 : decode cX12_init 197 = .ok (.putfield 48, 3) := by decide +kernel
theorem dX12_init_200 : decode cX12_init 200 = .ok (.aload_n 0, 1) := by decide +kernel
theorem dX12_init_201 : decode cX12_init 201 = .ok (.iconst 5, 1) := by decide +kernel
theorem dX12_init_202 : decode cX12_init 202 = .ok (.newarray .int, 2) := by decide +kernel
theorem dX12_init_204 : decode cX12_init 204 = .ok (.putfield 51, 3) := by decide +kernel
theorem dX12_init_207 : decode cX12_init 207 = .ok (.aload_n 0, 1) := by decide +kernel
theorem dX12_init_208 : decode cX12_init 208 = .ok (.iconst 5, 1) := by decide +kernel
theorem dX12_init_209 : decode cX12_init 209 = .ok (.newarray .int, 2) := by decide +kernel
theorem dX12_init_211 : decode cX12_init 211 = .ok (.putfield 54, 3) := by decide +kernel
theorem dX12_init_214 : decode cX12_init 214 = .ok (.aload_n 0, 1) := by decide +kernel
theorem dX12_init_215 : decode cX12_init 215 = .ok (.bipush 40, 2) := by decide +kernel
theorem dX12_init_217 : decode cX12_init 217 = .ok (.newarray .int, 2) := by decide +kernel
theorem dX12_init_219 : decode cX12_init 219 = .ok (.putfield 57, 3) := by decide +kernel
theorem dX12_init_222 : decode cX12_init 222 = .ok (.aload_n 0, 1) := by decide +kernel
theorem dX12_init_223 : decode cX12_init 223 = .ok (.iconst 4, 1) := by decide +kernel
theorem dX12_init_224 : decode cX12_init 224 = .ok (.newarray .int, 2) := by decide +kernel
theorem dX12_init_226 : decode cX12_init 226 = .ok (.putfield 60, 3) := by decide +kernel
theorem dX12_init_229 : decode cX12_init 229 = .ok (.aload_n 0, 1) := by decide +kernel
theorem dX12_init_230 : decode cX12_init 230 = .ok (.iconst 4, 1) := by decide +kernel
theorem dX12_init_231 : decode cX12_init 231 = .ok (.newarray .int, 2) := by decide +kernel
theorem dX12_init_233 : decode cX12_init 233 = .ok (.putfield 63, 3) := by decide +kernel
theorem dX12_init_236 : decode cX12_init 236 = .ok (.aload_n 0, 1) := by decide +kernel
theorem dX12_init_237 : decode cX12_init 237 = .ok (.sipush 160, 3) := by decide +kernel
theorem dX12_init_240 : decode cX12_init 240 = .ok (.newarray .int, 2) := by decide +kernel
theorem dX12_init_242 : decode cX12_init 242 = .ok (.putfield 66, 3) := by decide +kernel
theorem dX12_init_245 : decode cX12_init 245 = .ok (.aload_n 0, 1) := by decide +kernel
theorem dX12_init_246 : decode cX12_init 246 = .ok (.bipush 40, 2) := by decide +kernel
theorem dX12_init_248 : decode cX12_init 248 = .ok (.newarray .int, 2) := by decide +kernel
theorem dX12_init_250 : decode cX12_init 250 = .ok (.putfield 69, 3) := by decide +kernel
theorem dX12_init_253 : decode cX12_init 253 = .ok (.aload_n 0, 1) := by decide +kernel
theorem dX12_init_254 : decode cX12_init 254 = .ok (.getfield 9, 3) := by decide +kernel
theorem dX12_init_257 : decode cX12_init 257 = .ok (.bipush 6, 2) := by decide +kernel
theorem dX12_init_259 : decode cX12_init 259 = .ok (.iconst 1, 1) := by decide +kernel
theorem dX12_init_260 : decode cX12_init 260 = .ok (.iastore, 1) := by decide +kernel
theorem dX12_init_261 : decode cX12_init 261 = .ok (.aload_n 0, 1) := by decide +kernel
theorem dX12_init_262 : decode cX12_init 262 = .ok (.getfield 9, 3) := by decide +kernel
theorem dX12_init_265 : decode cX12_init 265 = .ok (.bipush 7, 2) := by decide +kernel
theorem dX12_init_267 : decode cX12_init 267 = .ok (.sipush 300, 3) := by decide +kernel
theorem dX12_init_270 : decode cX12_init 270 = .ok (.iastore, 1) := by decide +kernel
theorem dX12_init_271 : decode cX12_init 271 = .ok (.aload_n 0, 1) := by decide +kernel
theorem dX12_init_272 : decode cX12_init 272 = .ok (.getfield 9, 3) := by decide +kernel
theorem dX12_init_275 : decode cX12_init 275 = .ok (.bipush 8, 2) := by decide +kernel
theorem dX12_init_277 : decode cX12_init 277 = .ok (.bipush 10, 2) := by decide +kernel
theorem dX12_init_279 : decode cX12_init 279 = .ok (.iastore, 1) := by decide +kernel
theorem dX12_init_280 : decode cX12_init 280 = .ok (.aload_n 0, 1) := by decide +kernel
theorem dX12_init_281 : decode cX12_init 281 = .ok (.getfield 9, 3) := by decide +kernel
theorem dX12_init_284 : decode cX12_init 284 = .ok (.bipush 9, 2) := by decide +kernel
theorem dX12_init_286 : decode cX12_init 286 = .ok (.sipush 2000, 3) := by decide +kernel
theorem dX12_init_289 : decode cX12_init 289 = .ok (.iastore, 1) := by decide +kernel
theorem dX12_init_290 : decode cX12_init 290 = .ok (.aload_n 0, 1) := by decide +kernel
theorem dX12_init_291 : decode cX12_init 291 = .ok (.getfield 9, 3) := by decide +kernel
theorem dX12_init_294 : decode cX12_init 294 = .ok (.bipush 10, 2) := by decide +kernel
theorem dX12_init_296 : decode cX12_init 296 = .ok (.bipush 10, 2) := by decide +kernel
theorem dX12_init_298 : decode cX12_init 298 = .ok (.iastore, 1) := by decide +kernel
theorem dX12_init_299 : decode cX12_init 299 = .ok (.aload_n 0, 1) := by decide +kernel
theorem dX12_init_300 : decode cX12_init 300 = .ok (.getfield 9, 3) := by decide +kernel
theorem dX12_init_303 : decode cX12_init 303 = .ok (.bipush 12, 2) := by decide +kernel
theorem dX12_init_305 : decode cX12_init 305 = .ok (.sipush 9000, 3) := by decide +kernel
theorem dX12_init_308 : decode cX12_init 308 = .ok (.iastore, 1) := by decide +kernel
theorem dX12_init_309 : decode cX12_init 309 = .ok (.aload_n 0, 1) := by decide +kernel
theorem dX12_init_310 : decode cX12_init 310 = .ok (.getfield 9, 3) := by decide +kernel
theorem dX12_init_313 : decode cX12_init 313 = .ok (.bipush 13, 2) := by decide +kernel
theorem dX12_init_315 : decode cX12_init 315 = .ok (.iconst 5, 1) := by decide +kernel
theorem dX12_init_316 : decode cX12_init 316 = .ok (.iastore, 1) := by decide +kernel
theorem dX12_init_317 : decode cX12_init 317 = .ok (.aload_n 0, 1) := by decide +kernel
theorem dX12_init_318 : decode cX12_init 318 = .ok (.getfield 9, 3) := by decide +kernel
theorem dX12_init_321 : decode cX12_init 321 = .ok (.bipush 15, 2) := by decide +kernel
theorem dX12_init_323 : decode cX12_init 323 = .ok (.bipush 100, 2) := by decide +kernel
theorem dX12_init_325 : decode cX12_init 325 = .ok (.iastore, 1) := by decide +kernel
theorem dX12_init_326 : decode cX12_init 326 = .ok (.return_, 1) := by decide +kernel
theorem dX12_is_0 : decode cX12_is 0 = .ok (.iload_n 1, 1) := by decide +kernel
theorem dX12_is_1 : decode cX12_is 1 = .ok (.iconst 0, 1) := by decide +kernel
theorem dX12_is_2 : decode cX12_is 2 = .ok (.aload_n 0, 1) := by decide +kernel
theorem dX12_is_3 : decode cX12_is 3 = .ok (.getfield 9, 3) := by decide +kernel
theorem dX12_is_6 : decode cX12_is 6 = .ok (.iload_n 2, 1) := by decide +kernel
theorem dX12_is_7 : decode cX12_is 7 = .ok (.iaload, 1) := by decide +kernel
theorem dX12_is_8 : decode cX12_is 8 = .ok (.iconst 1, 1) := by decide +kernel
theorem dX12_is_9 : decode cX12_is 9 = .ok (.isub, 1) := by decide +kernel
theorem dX12_is_10 : decode cX12_is 10 = .ok (.invokestatic 86, 3) := by decide +kernel
theorem dX12_is_13 : decode cX12_is 13 = .ok (.ireturn, 1) := by decide +kernel
theorem dX12_isAhead_0 : decode cX12_isAhead 0 = .ok (.iload_n 0, 1) := by decide +kernel
theorem dX12_isAhead_1 : decode cX12_isAhead 1 = .ok (.iconst 0, 1) := by decide +kernel
theorem dX12_isAhead_2 : decode cX12_isAhead 2 = .ok (.sipush 200, 3) := by decide +kernel
theorem dX12_isAhead_5 : decode cX12_isAhead 5 = .ok (.invokestatic 86, 3) := by decide +kernel
theorem dX12_isAhead_8 : decode cX12_isAhead 8 = .ok (.ireturn, 1) := by decide +kernel
theorem dX12_isAsTold_0 : decode cX12_isAsTold 0 = .ok (.iload_n 0, 1) := by decide +kernel
theorem dX12_isAsTold_1 : decode cX12_isAsTold 1 = .ok (.iconst 1, 1) := by decide +kernel
theorem dX12_isAsTold_2 : decode cX12_isAsTold 2 = .ok (.sipush 9999, 3) := by decide +kernel
theorem dX12_isAsTold_5 : decode cX12_isAsTold 5 = .ok (.invokestatic 86, 3) := by decide +kernel
theorem dX12_isAsTold_8 : decode cX12_isAsTold 8 = .ok (.ifCond .eq 18, 3) := by decide +kernel
theorem dX12_isAsTold_11 : decode cX12_isAsTold 11 = .ok (.iload_n 1, 1) := by decide +kernel
theorem dX12_isAsTold_12 : decode cX12_isAsTold 12 = .ok (.iconst 1, 1) := by decide +kernel
theorem dX12_isAsTold_13 : decode cX12_isAsTold 13 = .ok (.sipush 999, 3) := by decide +kernel
theorem dX12_isAsTold_16 : decode cX12_isAsTold 16 = .ok (.invokestatic 86, 3) := by decide +kernel
theorem dX12_isAsTold_19 : decode cX12_isAsTold 19 = .ok (.ifCond .eq 7, 3) := by decide +kernel
theorem dX12_isAsTold_22 : decode cX12_isAsTold 22 = .ok (.iconst 1, 1) := by decide +kernel
theorem dX12_isAsTold_23 : decode cX12_isAsTold 23 = .ok (.goto 4, 3) := by decide +kernel
theorem dX12_isAsTold_26 : decode cX12_isAsTold 26 = .ok (.iconst 0, 1) := by decide +kernel
theorem dX12_isAsTold_27 : decode cX12_isAsTold 27 = .ok (.ireturn, 1) := by decide +kernel
theorem dX12_isIn_0 : decode cX12_isIn 0 = .ok (.aload_n 0, 1) := by decide +kernel
theorem dX12_isIn_1 : decode cX12_isIn 1 = .ok (.iload_n 1, 1) := by decide +kernel
theorem dX12_isIn_2 : decode cX12_isIn 2 = .ok (.iconst 5, 1) := by decide +kernel
theorem dX12_isIn_3 : decode cX12_isIn 3 = .ok (.invokevirtual 98, 3) := by decide +kernel
theorem dX12_isIn_6 : decode cX12_isIn 6 = .ok (.iconst 1, 1) := by decide +kernel
theorem dX12_isIn_7 : decode cX12_isIn 7 = .ok (.if_icmp .ne 7, 3) := by decide +kernel
theorem dX12_isIn_10 : decode cX12_isIn 10 = .ok (.iconst 1, 1) := by decide +kernel
theorem dX12_isIn_11 : decode cX12_isIn 11 = .ok (.goto 4, 3) := by decide +kernel
theorem dX12_isIn_14 : decode cX12_isIn 14 = .ok (.iconst 0, 1) := by decide +kernel
theorem dX12_isIn_15 : decode cX12_isIn 15 = .ok (.ireturn, 1) := by decide +kernel
theorem dX12_isOn_0 : decode cX12_isOn 0 = .ok (.iload_n 1, 1) := by decide +kernel
theorem dX12_isOn_1 : decode cX12_isOn 1 = .ok (.iconst 0, 1) := by decide +kernel
theorem dX12_isOn_2 : decode cX12_isOn 2 = .ok (.aload_n 0, 1) := by decide +kernel
theorem dX12_isOn_3 : decode cX12_isOn 3 = .ok (.getfield 9, 3) := by decide +kernel
theorem dX12_isOn_6 : decode cX12_isOn 6 = .ok (.bipush 7, 2) := by decide +kernel
theorem dX12_isOn_8 : decode cX12_isOn 8 = .ok (.iaload, 1) := by decide +kernel
theorem dX12_isOn_9 : decode cX12_isOn 9 = .ok (.invokestatic 86, 3) := by decide +kernel
theorem dX12_isOn_12 : decode cX12_isOn 12 = .ok (.ifCond .eq 18, 3) := by decide +kernel
theorem dX12_isOn_15 : decode cX12_isOn 15 = .ok (.iload_n 2, 1) := by decide +kernel
theorem dX12_isOn_16 : decode cX12_isOn 16 = .ok (.iconst 0, 1) := by decide +kernel
theorem dX12_isOn_17 : decode cX12_isOn 17 = .ok (.sipush 300, 3) := by decide +kernel
theorem dX12_isOn_20 : decode cX12_isOn 20 = .ok (.invokestatic 86, 3) := by decide +kernel
theorem dX12_isOn_23 : decode cX12_isOn 23 = .ok (.ifCond .eq 7, 3) := by decide +kernel
theorem dX12_isOn_26 : decode cX12_isOn 26 = .ok (.iconst 1, 1) := by decide +kernel
theorem dX12_isOn_27 : decode cX12_isOn 27 = .ok (.goto 4, 3) := by decide +kernel
theorem dX12_isOn_30 : decode cX12_isOn 30 = .ok (.iconst 0, 1) := by decide +kernel
theorem dX12_isOn_31 : decode cX12_isOn 31 = .ok (.ireturn, 1) := by decide +kernel
theorem dX12_isSheet_0 : decode cX12_isSheet 0 = .ok (.iload_n 0, 1) := by decide +kernel
theorem dX12_isSheet_1 : decode cX12_isSheet 1 = .ok (.iconst 0, 1) := by decide +kernel
theorem dX12_isSheet_2 : decode cX12_isSheet 2 = .ok (.iconst 3, 1) := by decide +kernel
theorem dX12_isSheet_3 : decode cX12_isSheet 3 = .ok (.invokestatic 86, 3) := by decide +kernel
theorem dX12_isSheet_6 : decode cX12_isSheet 6 = .ok (.ireturn, 1) := by decide +kernel
theorem dX12_law_0 : decode cX12_law 0 = .ok (.iload_n 1, 1) := by decide +kernel
theorem dX12_law_1 : decode cX12_law 1 = .ok (.iconst 0, 1) := by decide +kernel
theorem dX12_law_2 : decode cX12_law 2 = .ok (.iconst 1, 1) := by decide +kernel
theorem dX12_law_3 : decode cX12_law 3 = .ok (.invokestatic 86, 3) := by decide +kernel
theorem dX12_law_6 : decode cX12_law 6 = .ok (.ifCond .eq 17, 3) := by decide +kernel
theorem dX12_law_9 : decode cX12_law 9 = .ok (.aload_n 0, 1) := by decide +kernel
theorem dX12_law_10 : decode cX12_law 10 = .ok (.iload_n 1, 1) := by decide +kernel
theorem dX12_law_11 : decode cX12_law 11 = .ok (.iload_n 2, 1) := by decide +kernel
theorem dX12_law_12 : decode cX12_law 12 = .ok (.iload_n 3, 1) := by decide +kernel
theorem dX12_law_13 : decode cX12_law 13 = .ok (.iload 4, 2) := by decide +kernel
theorem dX12_law_15 : decode cX12_law 15 = .ok (.iload 5, 2) := by decide +kernel
theorem dX12_law_17 : decode cX12_law 17 = .ok (.invokevirtual 133, 3) := by decide +kernel
theorem dX12_law_20 : decode cX12_law 20 = .ok (.goto 9, 3) := by decide +kernel
theorem dX12_law_23 : decode cX12_law 23 = .ok (.aload_n 0, 1) := by decide +kernel
theorem dX12_law_24 : decode cX12_law 24 = .ok (.ldc 90, 2) := by decide +kernel
theorem dX12_law_26 : decode cX12_law 26 = .ok (.invokevirtual 91, 3) := by decide +kernel
theorem dX12_law_29 : decode cX12_law 29 = .ok (.ireturn, 1) := by decide +kernel
theorem dX12_least_0 : decode cX12_least 0 = .ok (.aload_n 0, 1) := by decide +kernel
theorem dX12_least_1 : decode cX12_least 1 = .ok (.getfield 9, 3) := by decide +kernel
theorem dX12_least_4 : decode cX12_least 4 = .ok (.aload_n 0, 1) := by decide +kernel
theorem dX12_least_5 : decode cX12_least 5 = .ok (.getfield 16, 3) := by decide +kernel
theorem dX12_least_8 : decode cX12_least 8 = .ok (.invokestatic 82, 3) := by decide +kernel
theorem dX12_least_11 : decode cX12_least 11 = .ok (.iload 5, 2) := by decide +kernel
theorem dX12_least_13 : decode cX12_least 13 = .ok (.istore 8, 2) := by decide +kernel
theorem dX12_least_15 : decode cX12_least 15 = .ok (.iload 8, 2) := by decide +kernel
theorem dX12_least_17 : decode cX12_least 17 = .ok (.iload 6, 2) := by decide +kernel
theorem dX12_least_19 : decode cX12_least 19 = .ok (.if_icmp .gt 68, 3) := by decide +kernel
theorem dX12_least_22 : decode cX12_least 22 = .ok (.aload_n 0, 1) := by decide +kernel
theorem dX12_least_23 : decode cX12_least 23 = .ok (.getfield 9, 3) := by decide +kernel
theorem dX12_least_26 : decode cX12_least 26 = .ok (.iload 4, 2) := by decide +kernel
theorem dX12_least_28 : decode cX12_least 28 = .ok (.iload 8, 2) := by decide +kernel
theorem dX12_least_30 : decode cX12_least 30 = .ok (.iastore, 1) := by decide +kernel
theorem dX12_least_31 : decode cX12_least 31 = .ok (.aload_n 0, 1) := by decide +kernel
theorem dX12_least_32 : decode cX12_least 32 = .ok (.iload_n 1, 1) := by decide +kernel
theorem dX12_least_33 : decode cX12_least 33 = .ok (.iload_n 2, 1) := by decide +kernel
theorem dX12_least_34 : decode cX12_least 34 = .ok (.invokevirtual 253, 3) := by decide +kernel
theorem dX12_least_37 : decode cX12_least 37 = .ok (.ifCond .lt 18, 3) := by decide +kernel
theorem dX12_least_40 : decode cX12_least 40 = .ok (.aload_n 0, 1) := by decide +kernel
theorem dX12_least_41 : decode cX12_least 41 = .ok (.iload_n 1, 1) := by decide +kernel
theorem dX12_least_42 : decode cX12_least 42 = .ok (.bipush 6, 2) := by decide +kernel
theorem dX12_least_44 : decode cX12_least 44 = .ok (.invokevirtual 98, 3) := by decide +kernel
theorem dX12_least_47 : decode cX12_least 47 = .ok (.iload_n 3, 1) := by decide +kernel
theorem dX12_least_48 : decode cX12_least 48 = .ok (.if_icmp .gt 7, 3) := by decide +kernel
theorem dX12_least_51 : decode cX12_least 51 = .ok (.iconst 1, 1) := by decide +kernel
theorem dX12_least_52 : decode cX12_least 52 = .ok (.goto 4, 3) := by decide +kernel
theorem dX12_least_55 : decode cX12_least 55 = .ok (.iconst 0, 1) := by decide +kernel
theorem dX12_least_56 : decode cX12_least 56 = .ok (.istore 9, 2) := by decide +kernel
theorem dX12_least_58 : decode cX12_least 58 = .ok (.aload_n 0, 1) := by decide +kernel
theorem dX12_least_59 : decode cX12_least 59 = .ok (.getfield 16, 3) := by decide +kernel
theorem dX12_least_62 : decode cX12_least 62 = .ok (.aload_n 0, 1) := by decide +kernel
theorem dX12_least_63 : decode cX12_least 63 = .ok (.getfield 9, 3) := by decide +kernel
theorem dX12_least_66 : decode cX12_least 66 = .ok (.invokestatic 82, 3) := by decide +kernel
theorem dX12_least_69 : decode cX12_least 69 = .ok (.iload 9, 2) := by decide +kernel
theorem dX12_least_71 : decode cX12_least 71 = .ok (.ifCond .eq 6, 3) := by decide +kernel
theorem dX12_least_74 : decode cX12_least 74 = .ok (.iload 8, 2) := by decide +kernel
theorem dX12_least_76 : decode cX12_least 76 = .ok (.ireturn, 1) := by decide +kernel
theorem dX12_least_77 : decode cX12_least 77 = .ok (.iload 8, 2) := by decide +kernel
theorem dX12_least_79 : decode cX12_least 79 = .ok (.iload 7, 2) := by decide +kernel
theorem dX12_least_81 : decode cX12_least 81 = .ok (.iadd, 1) := by decide +kernel
theorem dX12_least_82 : decode cX12_least 82 = .ok (.istore 8, 2) := by decide +kernel
theorem dX12_least_84 : decode cX12_least 84 = .ok (.goto (-69), 3) := by decide +kernel
theorem dX12_least_87 : decode cX12_least 87 = .ok (.aload_n 0, 1) := by decide +kernel
theorem dX12_least_88 : decode cX12_least 88 = .ok (.ldc 132, 2) := by decide +kernel
theorem dX12_least_90 : decode cX12_least 90 = .ok (.invokevirtual 91, 3) := by decide +kernel
theorem dX12_least_93 : decode cX12_least 93 = .ok (.ireturn, 1) := by decide +kernel
theorem dX12_line_0 : decode cX12_line 0 = .ok (.iload_n 1, 1) := by decide +kernel
theorem dX12_line_1 : decode cX12_line 1 = .ok (.iload_n 2, 1) := by decide +kernel
theorem dX12_line_2 : decode cX12_line 2 = .ok (.invokestatic 260, 3) := by decide +kernel
theorem dX12_line_5 : decode cX12_line 5 = .ok (.ifCond .ne 10, 3) := by decide +kernel
theorem dX12_line_8 : decode cX12_line 8 = .ok (.aload_n 0, 1) := by decide +kernel
theorem dX12_line_9 : decode cX12_line 9 = .ok (.ldc 90, 2) := by decide +kernel
theorem dX12_line_11 : decode cX12_line 11 = .ok (.invokevirtual 91, 3) := by decide +kernel
theorem dX12_line_14 : decode cX12_line 14 = .ok (.ireturn, 1) := by decide +kernel
theorem dX12_line_15 : decode cX12_line 15 = .ok (.aload_n 0, 1) := by decide +kernel
theorem dX12_line_16 : decode cX12_line 16 = .ok (.getfield 9, 3) := by decide +kernel
theorem dX12_line_19 : decode cX12_line 19 = .ok (.iconst 2, 1) := by decide +kernel
theorem dX12_line_20 : decode cX12_line 20 = .ok (.iaload, 1) := by decide +kernel
theorem dX12_line_21 : decode cX12_line 21 = .ok (.bipush 8, 2) := by decide +kernel
theorem dX12_line_23 : decode cX12_line 23 = .ok (.if_icmp .ne 12, 3) := by decide +kernel
theorem dX12_line_26 : decode cX12_line 26 = .ok (.aload_n 0, 1) := by decide +kernel
theorem dX12_line_27 : decode cX12_line 27 = .ok (.ldc 138, 2) := by decide +kernel
theorem dX12_line_29 : decode cX12_line 29 = .ok (.invokevirtual 91, 3) := by decide +kernel
theorem dX12_line_32 : decode cX12_line 32 = .ok (.goto 9, 3) := by decide +kernel
theorem dX12_line_35 : decode cX12_line 35 = .ok (.aload_n 0, 1) := by decide +kernel
theorem dX12_line_36 : decode cX12_line 36 = .ok (.iload_n 1, 1) := by decide +kernel
theorem dX12_line_37 : decode cX12_line 37 = .ok (.iload_n 2, 1) := by decide +kernel
theorem dX12_line_38 : decode cX12_line 38 = .ok (.invokevirtual 263, 3) := by decide +kernel
theorem dX12_line_41 : decode cX12_line 41 = .ok (.ireturn, 1) := by decide +kernel
theorem dX12_lines_0 : decode cX12_lines 0 = .ok (.iload_n 1, 1) := by decide +kernel
theorem dX12_lines_1 : decode cX12_lines 1 = .ok (.invokestatic 266, 3) := by decide +kernel
theorem dX12_lines_4 : decode cX12_lines 4 = .ok (.ifCond .ne 10, 3) := by decide +kernel
theorem dX12_lines_7 : decode cX12_lines 7 = .ok (.aload_n 0, 1) := by decide +kernel
theorem dX12_lines_8 : decode cX12_lines 8 = .ok (.ldc 90, 2) := by decide +kernel
theorem dX12_lines_10 : decode cX12_lines 10 = .ok (.invokevirtual 91, 3) := by decide +kernel
theorem dX12_lines_13 : decode cX12_lines 13 = .ok (.ireturn, 1) := by decide +kernel
theorem dX12_lines_14 : decode cX12_lines 14 = .ok (.aload_n 0, 1) := by decide +kernel
theorem dX12_lines_15 : decode cX12_lines 15 = .ok (.getfield 60, 3) := by decide +kernel
theorem dX12_lines_18 : decode cX12_lines 18 = .ok (.iload_n 1, 1) := by decide +kernel
theorem dX12_lines_19 : decode cX12_lines 19 = .ok (.iaload, 1) := by decide +kernel
theorem dX12_lines_20 : decode cX12_lines 20 = .ok (.ifCond .ne 10, 3) := by decide +kernel
theorem dX12_lines_23 : decode cX12_lines 23 = .ok (.aload_n 0, 1) := by decide +kernel
theorem dX12_lines_24 : decode cX12_lines 24 = .ok (.ldc 132, 2) := by decide +kernel
theorem dX12_lines_26 : decode cX12_lines 26 = .ok (.invokevirtual 91, 3) := by decide +kernel
theorem dX12_lines_29 : decode cX12_lines 29 = .ok (.ireturn, 1) := by decide +kernel
theorem dX12_lines_30 : decode cX12_lines 30 = .ok (.iconst 0, 1) := by decide +kernel
theorem dX12_lines_31 : decode cX12_lines 31 = .ok (.istore_n 2, 1) := by decide +kernel
theorem dX12_lines_32 : decode cX12_lines 32 = .ok (.bipush 40, 2) := by decide +kernel
theorem dX12_lines_34 : decode cX12_lines 34 = .ok (.iload_n 1, 1) := by decide +kernel
theorem dX12_lines_35 : decode cX12_lines 35 = .ok (.imul, 1) := by decide +kernel
theorem dX12_lines_36 : decode cX12_lines 36 = .ok (.istore_n 3, 1) := by decide +kernel
theorem dX12_lines_37 : decode cX12_lines 37 = .ok (.iconst 2, 1) := by decide +kernel
theorem dX12_lines_38 : decode cX12_lines 38 = .ok (.iload_n 2, 1) := by decide +kernel
theorem dX12_lines_39 : decode cX12_lines 39 = .ok (.imul, 1) := by decide +kernel
theorem dX12_lines_40 : decode cX12_lines 40 = .ok (.iconst 2, 1) := by decide +kernel
theorem dX12_lines_41 : decode cX12_lines 41 = .ok (.iadd, 1) := by decide +kernel
theorem dX12_lines_42 : decode cX12_lines 42 = .ok (.aload_n 0, 1) := by decide +kernel
theorem dX12_lines_43 : decode cX12_lines 43 = .ok (.getfield 63, 3) := by decide +kernel
theorem dX12_lines_46 : decode cX12_lines 46 = .ok (.iload_n 1, 1) := by decide +kernel
theorem dX12_lines_47 : decode cX12_lines 47 = .ok (.iaload, 1) := by decide +kernel
theorem dX12_lines_48 : decode cX12_lines 48 = .ok (.if_icmp .gt 65, 3) := by decide +kernel
theorem dX12_lines_51 : decode cX12_lines 51 = .ok (.aload_n 0, 1) := by decide +kernel
theorem dX12_lines_52 : decode cX12_lines 52 = .ok (.getfield 9, 3) := by decide +kernel
theorem dX12_lines_55 : decode cX12_lines 55 = .ok (.iconst 2, 1) := by decide +kernel
theorem dX12_lines_56 : decode cX12_lines 56 = .ok (.iaload, 1) := by decide +kernel
theorem dX12_lines_57 : decode cX12_lines 57 = .ok (.bipush 8, 2) := by decide +kernel
theorem dX12_lines_59 : decode cX12_lines 59 = .ok (.if_icmp .ge 54, 3) := by decide +kernel
theorem dX12_lines_62 : decode cX12_lines 62 = .ok (.aload_n 0, 1) := by decide +kernel
theorem dX12_lines_63 : decode cX12_lines 63 = .ok (.getfield 66, 3) := by decide +kernel
theorem dX12_lines_66 : decode cX12_lines 66 = .ok (.iload_n 3, 1) := by decide +kernel
theorem dX12_lines_67 : decode cX12_lines 67 = .ok (.iaload, 1) := by decide +kernel
theorem dX12_lines_68 : decode cX12_lines 68 = .ok (.aload_n 0, 1) := by decide +kernel
theorem dX12_lines_69 : decode cX12_lines 69 = .ok (.getfield 66, 3) := by decide +kernel
theorem dX12_lines_72 : decode cX12_lines 72 = .ok (.iload_n 3, 1) := by decide +kernel
theorem dX12_lines_73 : decode cX12_lines 73 = .ok (.iconst 1, 1) := by decide +kernel
theorem dX12_lines_74 : decode cX12_lines 74 = .ok (.iadd, 1) := by decide +kernel
theorem dX12_lines_75 : decode cX12_lines 75 = .ok (.iaload, 1) := by decide +kernel
theorem dX12_lines_76 : decode cX12_lines 76 = .ok (.invokestatic 260, 3) := by decide +kernel
theorem dX12_lines_79 : decode cX12_lines 79 = .ok (.ifCond .ne 5, 3) := by decide +kernel
theorem dX12_lines_82 : decode cX12_lines 82 = .ok (.iload_n 2, 1) := by decide +kernel
theorem dX12_lines_83 : decode cX12_lines 83 = .ok (.ireturn, 1) := by decide +kernel
theorem dX12_lines_84 : decode cX12_lines 84 = .ok (.aload_n 0, 1) := by decide +kernel
theorem dX12_lines_85 : decode cX12_lines 85 = .ok (.aload_n 0, 1) := by decide +kernel
theorem dX12_lines_86 : decode cX12_lines 86 = .ok (.getfield 66, 3) := by decide +kernel
theorem dX12_lines_89 : decode cX12_lines 89 = .ok (.iload_n 3, 1) := by decide +kernel
theorem dX12_lines_90 : decode cX12_lines 90 = .ok (.iaload, 1) := by decide +kernel
theorem dX12_lines_91 : decode cX12_lines 91 = .ok (.aload_n 0, 1) := by decide +kernel
theorem dX12_lines_92 : decode cX12_lines 92 = .ok (.getfield 66, 3) := by decide +kernel
theorem dX12_lines_95 : decode cX12_lines 95 = .ok (.iload_n 3, 1) := by decide +kernel
theorem dX12_lines_96 : decode cX12_lines 96 = .ok (.iconst 1, 1) := by decide +kernel
theorem dX12_lines_97 : decode cX12_lines 97 = .ok (.iadd, 1) := by decide +kernel
theorem dX12_lines_98 : decode cX12_lines 98 = .ok (.iaload, 1) := by decide +kernel
theorem dX12_lines_99 : decode cX12_lines 99 = .ok (.invokevirtual 263, 3) := by decide +kernel
theorem dX12_lines_102 : decode cX12_lines 102 = .ok (.istore 4, 2) := by decide +kernel
theorem dX12_lines_104 : decode cX12_lines 104 = .ok (.iinc 2 1, 3) := by decide +kernel
theorem dX12_lines_107 : decode cX12_lines 107 = .ok (.iinc 3 2, 3) := by decide +kernel
theorem dX12_lines_110 : decode cX12_lines 110 = .ok (.goto (-73), 3) := by decide +kernel
theorem dX12_lines_113 : decode cX12_lines 113 = .ok (.iload_n 2, 1) := by decide +kernel
theorem dX12_lines_114 : decode cX12_lines 114 = .ok (.ireturn, 1) := by decide +kernel
theorem dX12_load_0 : decode cX12_load 0 = .ok (.iload_n 1, 1) := by decide +kernel
theorem dX12_load_1 : decode cX12_load 1 = .ok (.iconst 1, 1) := by decide +kernel
theorem dX12_load_2 : decode cX12_load 2 = .ok (.bipush 99, 2) := by decide +kernel
theorem dX12_load_4 : decode cX12_load 4 = .ok (.invokestatic 86, 3) := by decide +kernel
theorem dX12_load_7 : decode cX12_load 7 = .ok (.ifCond .eq 12, 3) := by decide +kernel
theorem dX12_load_10 : decode cX12_load 10 = .ok (.iload_n 2, 1) := by decide +kernel
theorem dX12_load_11 : decode cX12_load 11 = .ok (.iconst 0, 1) := by decide +kernel
theorem dX12_load_12 : decode cX12_load 12 = .ok (.iconst 1, 1) := by decide +kernel
theorem dX12_load_13 : decode cX12_load 13 = .ok (.invokestatic 86, 3) := by decide +kernel
theorem dX12_load_16 : decode cX12_load 16 = .ok (.ifCond .ne 10, 3) := by decide +kernel
theorem dX12_load_19 : decode cX12_load 19 = .ok (.aload_n 0, 1) := by decide +kernel
theorem dX12_load_20 : decode cX12_load 20 = .ok (.ldc 90, 2) := by decide +kernel
theorem dX12_load_22 : decode cX12_load 22 = .ok (.invokevirtual 91, 3) := by decide +kernel
theorem dX12_load_25 : decode cX12_load 25 = .ok (.ireturn, 1) := by decide +kernel
theorem dX12_load_26 : decode cX12_load 26 = .ok (.aload_n 0, 1) := by decide +kernel
theorem dX12_load_27 : decode cX12_load 27 = .ok (.getfield 9, 3) := by decide +kernel
theorem dX12_load_30 : decode cX12_load 30 = .ok (.iconst 3, 1) := by decide +kernel
theorem dX12_load_31 : decode cX12_load 31 = .ok (.iaload, 1) := by decide +kernel
theorem dX12_load_32 : decode cX12_load 32 = .ok (.istore_n 3, 1) := by decide +kernel
theorem dX12_load_33 : decode cX12_load 33 = .ok (.iload_n 3, 1) := by decide +kernel
theorem dX12_load_34 : decode cX12_load 34 = .ok (.iconst 5, 1) := by decide +kernel
theorem dX12_load_35 : decode cX12_load 35 = .ok (.if_icmp .ne 10, 3) := by decide +kernel
theorem dX12_load_38 : decode cX12_load 38 = .ok (.aload_n 0, 1) := by decide +kernel
theorem dX12_load_39 : decode cX12_load 39 = .ok (.ldc 138, 2) := by decide +kernel
theorem dX12_load_41 : decode cX12_load 41 = .ok (.invokevirtual 91, 3) := by decide +kernel
theorem dX12_load_44 : decode cX12_load 44 = .ok (.ireturn, 1) := by decide +kernel
theorem dX12_load_45 : decode cX12_load 45 = .ok (.aload_n 0, 1) := by decide +kernel
theorem dX12_load_46 : decode cX12_load 46 = .ok (.getfield 9, 3) := by decide +kernel
theorem dX12_load_49 : decode cX12_load 49 = .ok (.bipush 88, 2) := by decide +kernel
theorem dX12_load_51 : decode cX12_load 51 = .ok (.iconst 2, 1) := by decide +kernel
theorem dX12_load_52 : decode cX12_load 52 = .ok (.iload_n 3, 1) := by decide +kernel
theorem dX12_load_53 : decode cX12_load 53 = .ok (.imul, 1) := by decide +kernel
theorem dX12_load_54 : decode cX12_load 54 = .ok (.iadd, 1) := by decide +kernel
theorem dX12_load_55 : decode cX12_load 55 = .ok (.iload_n 1, 1) := by decide +kernel
theorem dX12_load_56 : decode cX12_load 56 = .ok (.iastore, 1) := by decide +kernel
theorem dX12_load_57 : decode cX12_load 57 = .ok (.aload_n 0, 1) := by decide +kernel
theorem dX12_load_58 : decode cX12_load 58 = .ok (.getfield 9, 3) := by decide +kernel
theorem dX12_load_61 : decode cX12_load 61 = .ok (.bipush 88, 2) := by decide +kernel
theorem dX12_load_63 : decode cX12_load 63 = .ok (.iconst 2, 1) := by decide +kernel
theorem dX12_load_64 : decode cX12_load 64 = .ok (.iload_n 3, 1) := by decide +kernel
theorem dX12_load_65 : decode cX12_load 65 = .ok (.imul, 1) := by decide +kernel
theorem dX12_load_66 : decode cX12_load 66 = .ok (.iadd, 1) := by decide +kernel
theorem dX12_load_67 : decode cX12_load 67 = .ok (.iconst 1, 1) := by decide +kernel
theorem dX12_load_68 : decode cX12_load 68 = .ok (.iadd, 1) := by decide +kernel
theorem dX12_load_69 : decode cX12_load 69 = .ok (.iload_n 2, 1) := by decide +kernel
theorem dX12_load_70 : decode cX12_load 70 = .ok (.iastore, 1) := by decide +kernel
theorem dX12_load_71 : decode cX12_load 71 = .ok (.aload_n 0, 1) := by decide +kernel
theorem dX12_load_72 : decode cX12_load 72 = .ok (.getfield 9, 3) := by decide +kernel
theorem dX12_load_75 : decode cX12_load 75 = .ok (.iconst 3, 1) := by decide +kernel
theorem dX12_load_76 : decode cX12_load 76 = .ok (.dup2, 1) := by decide +kernel
theorem dX12_load_77 : decode cX12_load 77 = .ok (.iaload, 1) := by decide +kernel
theorem dX12_load_78 : decode cX12_load 78 = .ok (.iconst 1, 1) := by decide +kernel
theorem dX12_load_79 : decode cX12_load 79 = .ok (.iadd, 1) := by decide +kernel
theorem dX12_load_80 : decode cX12_load 80 = .ok (.iastore, 1) := by decide +kernel
theorem dX12_load_81 : decode cX12_load 81 = .ok (.iload_n 3, 1) := by decide +kernel
theorem dX12_load_82 : decode cX12_load 82 = .ok (.ireturn, 1) := by decide +kernel
theorem dX12_lower_0 : decode cX12_lower 0 = .ok (.aload_n 0, 1) := by decide +kernel
theorem dX12_lower_1 : decode cX12_lower 1 = .ok (.iload_n 1, 1) := by decide +kernel
theorem dX12_lower_2 : decode cX12_lower 2 = .ok (.iconst 1, 1) := by decide +kernel
theorem dX12_lower_3 : decode cX12_lower 3 = .ok (.invokevirtual 148, 3) := by decide +kernel
theorem dX12_lower_6 : decode cX12_lower 6 = .ok (.ifCond .eq 13, 3) := by decide +kernel
theorem dX12_lower_9 : decode cX12_lower 9 = .ok (.iload_n 2, 1) := by decide +kernel
theorem dX12_lower_10 : decode cX12_lower 10 = .ok (.iconst 1, 1) := by decide +kernel
theorem dX12_lower_11 : decode cX12_lower 11 = .ok (.bipush 60, 2) := by decide +kernel
theorem dX12_lower_13 : decode cX12_lower 13 = .ok (.invokestatic 86, 3) := by decide +kernel
theorem dX12_lower_16 : decode cX12_lower 16 = .ok (.ifCond .ne 10, 3) := by decide +kernel
theorem dX12_lower_19 : decode cX12_lower 19 = .ok (.aload_n 0, 1) := by decide +kernel
theorem dX12_lower_20 : decode cX12_lower 20 = .ok (.ldc 90, 2) := by decide +kernel
theorem dX12_lower_22 : decode cX12_lower 22 = .ok (.invokevirtual 91, 3) := by decide +kernel
theorem dX12_lower_25 : decode cX12_lower 25 = .ok (.ireturn, 1) := by decide +kernel
theorem dX12_lower_26 : decode cX12_lower 26 = .ok (.aload_n 0, 1) := by decide +kernel
theorem dX12_lower_27 : decode cX12_lower 27 = .ok (.iload_n 1, 1) := by decide +kernel
theorem dX12_lower_28 : decode cX12_lower 28 = .ok (.invokevirtual 228, 3) := by decide +kernel
theorem dX12_lower_31 : decode cX12_lower 31 = .ok (.ifCond .eq 12, 3) := by decide +kernel
theorem dX12_lower_34 : decode cX12_lower 34 = .ok (.aload_n 0, 1) := by decide +kernel
theorem dX12_lower_35 : decode cX12_lower 35 = .ok (.ldc 137, 2) := by decide +kernel
theorem dX12_lower_37 : decode cX12_lower 37 = .ok (.invokevirtual 91, 3) := by decide +kernel
theorem dX12_lower_40 : decode cX12_lower 40 = .ok (.goto 19, 3) := by decide +kernel
theorem dX12_lower_43 : decode cX12_lower 43 = .ok (.aload_n 0, 1) := by decide +kernel
theorem dX12_lower_44 : decode cX12_lower 44 = .ok (.iload_n 1, 1) := by decide +kernel
theorem dX12_lower_45 : decode cX12_lower 45 = .ok (.iload_n 2, 1) := by decide +kernel
theorem dX12_lower_46 : decode cX12_lower 46 = .ok (.sipush 300, 3) := by decide +kernel
theorem dX12_lower_49 : decode cX12_lower 49 = .ok (.bipush 8, 2) := by decide +kernel
theorem dX12_lower_51 : decode cX12_lower 51 = .ok (.bipush (-99), 2) := by decide +kernel
theorem dX12_lower_53 : decode cX12_lower 53 = .ok (.bipush 99, 2) := by decide +kernel
theorem dX12_lower_55 : decode cX12_lower 55 = .ok (.iconst 1, 1) := by decide +kernel
theorem dX12_lower_56 : decode cX12_lower 56 = .ok (.invokevirtual 256, 3) := by decide +kernel
theorem dX12_lower_59 : decode cX12_lower 59 = .ok (.ireturn, 1) := by decide +kernel
theorem dX12_most_0 : decode cX12_most 0 = .ok (.sipush 300, 3) := by decide +kernel
theorem dX12_most_3 : decode cX12_most 3 = .ok (.istore_n 1, 1) := by decide +kernel
theorem dX12_most_4 : decode cX12_most 4 = .ok (.iload_n 1, 1) := by decide +kernel
theorem dX12_most_5 : decode cX12_most 5 = .ok (.ifCond .lt 19, 3) := by decide +kernel
theorem dX12_most_8 : decode cX12_most 8 = .ok (.aload_n 0, 1) := by decide +kernel
theorem dX12_most_9 : decode cX12_most 9 = .ok (.iload_n 1, 1) := by decide +kernel
theorem dX12_most_10 : decode cX12_most 10 = .ok (.invokevirtual 128, 3) := by decide +kernel
theorem dX12_most_13 : decode cX12_most 13 = .ok (.ifCond .eq 5, 3) := by decide +kernel
theorem dX12_most_16 : decode cX12_most 16 = .ok (.iload_n 1, 1) := by decide +kernel
theorem dX12_most_17 : decode cX12_most 17 = .ok (.ireturn, 1) := by decide +kernel
theorem dX12_most_18 : decode cX12_most 18 = .ok (.iinc 1 (-1), 3) := by decide +kernel
theorem dX12_most_21 : decode cX12_most 21 = .ok (.goto (-17), 3) := by decide +kernel
theorem dX12_most_24 : decode cX12_most 24 = .ok (.aload_n 0, 1) := by decide +kernel
theorem dX12_most_25 : decode cX12_most 25 = .ok (.ldc 132, 2) := by decide +kernel
theorem dX12_most_27 : decode cX12_most 27 = .ok (.invokevirtual 91, 3) := by decide +kernel
theorem dX12_most_30 : decode cX12_most 30 = .ok (.ireturn, 1) := by decide +kernel
theorem dX12_move_0 : decode cX12_move 0 = .ok (.iload_n 1, 1) := by decide +kernel
theorem dX12_move_1 : decode cX12_move 1 = .ok (.invokestatic 266, 3) := by decide +kernel
theorem dX12_move_4 : decode cX12_move 4 = .ok (.ifCond .eq 10, 3) := by decide +kernel
theorem dX12_move_7 : decode cX12_move 7 = .ok (.iload_n 3, 1) := by decide +kernel
theorem dX12_move_8 : decode cX12_move 8 = .ok (.invokestatic 266, 3) := by decide +kernel
theorem dX12_move_11 : decode cX12_move 11 = .ok (.ifCond .ne 10, 3) := by decide +kernel
theorem dX12_move_14 : decode cX12_move 14 = .ok (.aload_n 0, 1) := by decide +kernel
theorem dX12_move_15 : decode cX12_move 15 = .ok (.ldc 90, 2) := by decide +kernel
theorem dX12_move_17 : decode cX12_move 17 = .ok (.invokevirtual 91, 3) := by decide +kernel
theorem dX12_move_20 : decode cX12_move 20 = .ok (.ireturn, 1) := by decide +kernel
theorem dX12_move_21 : decode cX12_move 21 = .ok (.aload_n 0, 1) := by decide +kernel
theorem dX12_move_22 : decode cX12_move 22 = .ok (.getfield 60, 3) := by decide +kernel
theorem dX12_move_25 : decode cX12_move 25 = .ok (.iload_n 1, 1) := by decide +kernel
theorem dX12_move_26 : decode cX12_move 26 = .ok (.iaload, 1) := by decide +kernel
theorem dX12_move_27 : decode cX12_move 27 = .ok (.ifCond .eq 12, 3) := by decide +kernel
theorem dX12_move_30 : decode cX12_move 30 = .ok (.aload_n 0, 1) := by decide +kernel
theorem dX12_move_31 : decode cX12_move 31 = .ok (.getfield 60, 3) := by decide +kernel
theorem dX12_move_34 : decode cX12_move 34 = .ok (.iload_n 3, 1) := by decide +kernel
theorem dX12_move_35 : decode cX12_move 35 = .ok (.iaload, 1) := by decide +kernel
theorem dX12_move_36 : decode cX12_move 36 = .ok (.ifCond .ne 10, 3) := by decide +kernel
theorem dX12_move_39 : decode cX12_move 39 = .ok (.aload_n 0, 1) := by decide +kernel
theorem dX12_move_40 : decode cX12_move 40 = .ok (.ldc 132, 2) := by decide +kernel
theorem dX12_move_42 : decode cX12_move 42 = .ok (.invokevirtual 91, 3) := by decide +kernel
theorem dX12_move_45 : decode cX12_move 45 = .ok (.ireturn, 1) := by decide +kernel
theorem dX12_move_46 : decode cX12_move 46 = .ok (.aload_n 0, 1) := by decide +kernel
theorem dX12_move_47 : decode cX12_move 47 = .ok (.getfield 60, 3) := by decide +kernel
theorem dX12_move_50 : decode cX12_move 50 = .ok (.iload_n 1, 1) := by decide +kernel
theorem dX12_move_51 : decode cX12_move 51 = .ok (.iaload, 1) := by decide +kernel
theorem dX12_move_52 : decode cX12_move 52 = .ok (.aload_n 0, 1) := by decide +kernel
theorem dX12_move_53 : decode cX12_move 53 = .ok (.getfield 60, 3) := by decide +kernel
theorem dX12_move_56 : decode cX12_move 56 = .ok (.iload_n 3, 1) := by decide +kernel
theorem dX12_move_57 : decode cX12_move 57 = .ok (.iaload, 1) := by decide +kernel
theorem dX12_move_58 : decode cX12_move 58 = .ok (.if_icmp .eq 10, 3) := by decide +kernel
theorem dX12_move_61 : decode cX12_move 61 = .ok (.aload_n 0, 1) := by decide +kernel
theorem dX12_move_62 : decode cX12_move 62 = .ok (.ldc 157, 2) := by decide +kernel
theorem dX12_move_64 : decode cX12_move 64 = .ok (.invokevirtual 91, 3) := by decide +kernel
theorem dX12_move_67 : decode cX12_move 67 = .ok (.ireturn, 1) := by decide +kernel
theorem dX12_move_68 : decode cX12_move 68 = .ok (.iload 5, 2) := by decide +kernel
theorem dX12_move_70 : decode cX12_move 70 = .ok (.ifCond .lt 47, 3) := by decide +kernel
theorem dX12_move_73 : decode cX12_move 73 = .ok (.iload_n 2, 1) := by decide +kernel
theorem dX12_move_74 : decode cX12_move 74 = .ok (.ifCond .lt 43, 3) := by decide +kernel
theorem dX12_move_77 : decode cX12_move 77 = .ok (.iload 4, 2) := by decide +kernel
theorem dX12_move_79 : decode cX12_move 79 = .ok (.ifCond .lt 38, 3) := by decide +kernel
theorem dX12_move_82 : decode cX12_move 82 = .ok (.iload_n 2, 1) := by decide +kernel
theorem dX12_move_83 : decode cX12_move 83 = .ok (.i2l, 1) := by decide +kernel
theorem dX12_move_84 : decode cX12_move 84 = .ok (.iload 5, 2) := by decide +kernel
theorem dX12_move_86 : decode cX12_move 86 = .ok (.i2l, 1) := by decide +kernel
theorem dX12_move_87 : decode cX12_move 87 = .ok (.ladd, 1) := by decide +kernel
theorem dX12_move_88 : decode cX12_move 88 = .ok (.aload_n 0, 1) := by decide +kernel
theorem dX12_move_89 : decode cX12_move 89 = .ok (.getfield 63, 3) := by decide +kernel
theorem dX12_move_92 : decode cX12_move 92 = .ok (.iload_n 1, 1) := by decide +kernel
theorem dX12_move_93 : decode cX12_move 93 = .ok (.iaload, 1) := by decide +kernel
theorem dX12_move_94 : decode cX12_move 94 = .ok (.i2l, 1) := by decide +kernel
theorem dX12_move_95 : decode cX12_move 95 = .ok (.lcmp, 1) := by decide +kernel
theorem dX12_move_96 : decode cX12_move 96 = .ok (.ifCond .gt 21, 3) := by decide +kernel
theorem dX12_move_99 : decode cX12_move 99 = .ok (.iload 4, 2) := by decide +kernel
theorem dX12_move_101 : decode cX12_move 101 = .ok (.i2l, 1) := by decide +kernel
theorem dX12_move_102 : decode cX12_move 102 = .ok (.iload 5, 2) := by decide +kernel
theorem dX12_move_104 : decode cX12_move 104 = .ok (.i2l, 1) := by decide +kernel
theorem dX12_move_105 : decode cX12_move 105 = .ok (.ladd, 1) := by decide +kernel
theorem dX12_move_106 : decode cX12_move 106 = .ok (.aload_n 0, 1) := by decide +kernel
theorem dX12_move_107 : decode cX12_move 107 = .ok (.getfield 63, 3) := by decide +kernel
theorem dX12_move_110 : decode cX12_move 110 = .ok (.iload_n 3, 1) := by decide +kernel
theorem dX12_move_111 : decode cX12_move 111 = .ok (.iaload, 1) := by decide +kernel
theorem dX12_move_112 : decode cX12_move 112 = .ok (.i2l, 1) := by decide +kernel
theorem dX12_move_113 : decode cX12_move 113 = .ok (.lcmp, 1) := by decide +kernel
theorem dX12_move_114 : decode cX12_move 114 = .ok (.ifCond .le 10, 3) := by decide +kernel
theorem dX12_move_117 : decode cX12_move 117 = .ok (.aload_n 0, 1) := by decide +kernel
theorem dX12_move_118 : decode cX12_move 118 = .ok (.ldc 90, 2) := by decide +kernel
theorem dX12_move_120 : decode cX12_move 120 = .ok (.invokevirtual 91, 3) := by decide +kernel
theorem dX12_move_123 : decode cX12_move 123 = .ok (.ireturn, 1) := by decide +kernel
theorem dX12_move_124 : decode cX12_move 124 = .ok (.iconst 0, 1) := by decide +kernel
theorem dX12_move_125 : decode cX12_move 125 = .ok (.istore 6, 2) := by decide +kernel
theorem dX12_move_127 : decode cX12_move 127 = .ok (.iload 6, 2) := by decide +kernel
theorem dX12_move_129 : decode cX12_move 129 = .ok (.iload 5, 2) := by decide +kernel
theorem dX12_move_131 : decode cX12_move 131 = .ok (.if_icmp .ge 30, 3) := by decide +kernel
theorem dX12_move_134 : decode cX12_move 134 = .ok (.aload_n 0, 1) := by decide +kernel
theorem dX12_move_135 : decode cX12_move 135 = .ok (.getfield 69, 3) := by decide +kernel
theorem dX12_move_138 : decode cX12_move 138 = .ok (.iload 6, 2) := by decide +kernel
theorem dX12_move_140 : decode cX12_move 140 = .ok (.aload_n 0, 1) := by decide +kernel
theorem dX12_move_141 : decode cX12_move 141 = .ok (.getfield 66, 3) := by decide +kernel
theorem dX12_move_144 : decode cX12_move 144 = .ok (.bipush 40, 2) := by decide +kernel
theorem dX12_move_146 : decode cX12_move 146 = .ok (.iload_n 1, 1) := by decide +kernel
theorem dX12_move_147 : decode cX12_move 147 = .ok (.imul, 1) := by decide +kernel
theorem dX12_move_148 : decode cX12_move 148 = .ok (.iload_n 2, 1) := by decide +kernel
theorem dX12_move_149 : decode cX12_move 149 = .ok (.iadd, 1) := by decide +kernel
theorem dX12_move_150 : decode cX12_move 150 = .ok (.iload 6, 2) := by decide +kernel
theorem dX12_move_152 : decode cX12_move 152 = .ok (.iadd, 1) := by decide +kernel
theorem dX12_move_153 : decode cX12_move 153 = .ok (.iaload, 1) := by decide +kernel
theorem dX12_move_154 : decode cX12_move 154 = .ok (.iastore, 1) := by decide +kernel
theorem dX12_move_155 : decode cX12_move 155 = .ok (.iinc 6 1, 3) := by decide +kernel
theorem dX12_move_158 : decode cX12_move 158 = .ok (.goto (-31), 3) := by decide +kernel
theorem dX12_move_161 : decode cX12_move 161 = .ok (.iconst 0, 1) := by decide +kernel
theorem dX12_move_162 : decode cX12_move 162 = .ok (.istore 6, 2) := by decide +kernel
theorem dX12_move_164 : decode cX12_move 164 = .ok (.iload 6, 2) := by decide +kernel
theorem dX12_move_166 : decode cX12_move 166 = .ok (.iload 5, 2) := by decide +kernel
theorem dX12_move_168 : decode cX12_move 168 = .ok (.if_icmp .ge 31, 3) := by decide +kernel
theorem dX12_move_171 : decode cX12_move 171 = .ok (.aload_n 0, 1) := by decide +kernel
theorem dX12_move_172 : decode cX12_move 172 = .ok (.getfield 66, 3) := by decide +kernel
theorem dX12_move_175 : decode cX12_move 175 = .ok (.bipush 40, 2) := by decide +kernel
theorem dX12_move_177 : decode cX12_move 177 = .ok (.iload_n 3, 1) := by decide +kernel
theorem dX12_move_178 : decode cX12_move 178 = .ok (.imul, 1) := by decide +kernel
theorem dX12_move_179 : decode cX12_move 179 = .ok (.iload 4, 2) := by decide +kernel
theorem dX12_move_181 : decode cX12_move 181 = .ok (.iadd, 1) := by decide +kernel
theorem dX12_move_182 : decode cX12_move 182 = .ok (.iload 6, 2) := by decide +kernel
theorem dX12_move_184 : decode cX12_move 184 = .ok (.iadd, 1) := by decide +kernel
theorem dX12_move_185 : decode cX12_move 185 = .ok (.aload_n 0, 1) := by decide +kernel
theorem dX12_move_186 : decode cX12_move 186 = .ok (.getfield 69, 3) := by decide +kernel
theorem dX12_move_189 : decode cX12_move 189 = .ok (.iload 6, 2) := by decide +kernel
theorem dX12_move_191 : decode cX12_move 191 = .ok (.iaload, 1) := by decide +kernel
theorem dX12_move_192 : decode cX12_move 192 = .ok (.iastore, 1) := by decide +kernel
theorem dX12_move_193 : decode cX12_move 193 = .ok (.iinc 6 1, 3) := by decide +kernel
theorem dX12_move_196 : decode cX12_move 196 = .ok (.goto (-32), 3) := by decide +kernel
theorem dX12_move_199 : decode cX12_move 199 = .ok (.iload 5, 2) := by decide +kernel
theorem dX12_move_201 : decode cX12_move 201 = .ok (.ireturn, 1) := by decide +kernel
theorem dX12_nameOf_0 : decode cX12_nameOf 0 = .ok (.iconst (-1), 1) := by decide +kernel
theorem dX12_nameOf_1 : decode cX12_nameOf 1 = .ok (.istore_n 2, 1) := by decide +kernel
theorem dX12_nameOf_2 : decode cX12_nameOf 2 = .ok (.iconst 0, 1) := by decide +kernel
theorem dX12_nameOf_3 : decode cX12_nameOf 3 = .ok (.istore_n 3, 1) := by decide +kernel
theorem dX12_nameOf_4 : decode cX12_nameOf 4 = .ok (.iload_n 3, 1) := by decide +kernel
theorem dX12_nameOf_5 : decode cX12_nameOf 5 = .ok (.aload_n 0, 1) := by decide +kernel
theorem dX12_nameOf_6 : decode cX12_nameOf 6 = .ok (.getfield 35, 3) := by decide +kernel
theorem dX12_nameOf_9 : decode cX12_nameOf 9 = .ok (.aload_n 0, 1) := by decide +kernel
theorem dX12_nameOf_10 : decode cX12_nameOf 10 = .ok (.getfield 196, 3) := by decide +kernel
theorem dX12_nameOf_13 : decode cX12_nameOf 13 = .ok (.aaload, 1) := by decide +kernel
theorem dX12_nameOf_14 : decode cX12_nameOf 14 = .ok (.invokevirtual 199, 3) := by decide +kernel
theorem dX12_nameOf_17 : decode cX12_nameOf 17 = .ok (.if_icmp .ge 32, 3) := by decide +kernel
theorem dX12_nameOf_20 : decode cX12_nameOf 20 = .ok (.aload_n 0, 1) := by decide +kernel
theorem dX12_nameOf_21 : decode cX12_nameOf 21 = .ok (.getfield 35, 3) := by decide +kernel
theorem dX12_nameOf_24 : decode cX12_nameOf 24 = .ok (.aload_n 0, 1) := by decide +kernel
theorem dX12_nameOf_25 : decode cX12_nameOf 25 = .ok (.getfield 196, 3) := by decide +kernel
theorem dX12_nameOf_28 : decode cX12_nameOf 28 = .ok (.aaload, 1) := by decide +kernel
theorem dX12_nameOf_29 : decode cX12_nameOf 29 = .ok (.iload_n 3, 1) := by decide +kernel
theorem dX12_nameOf_30 : decode cX12_nameOf 30 = .ok (.invokevirtual 202, 3) := by decide +kernel
theorem dX12_nameOf_33 : decode cX12_nameOf 33 = .ok (.iload_n 1, 1) := by decide +kernel
theorem dX12_nameOf_34 : decode cX12_nameOf 34 = .ok (.if_icmp .ne 7, 3) := by decide +kernel
theorem dX12_nameOf_37 : decode cX12_nameOf 37 = .ok (.iload_n 3, 1) := by decide +kernel
theorem dX12_nameOf_38 : decode cX12_nameOf 38 = .ok (.goto 4, 3) := by decide +kernel
theorem dX12_nameOf_41 : decode cX12_nameOf 41 = .ok (.iload_n 2, 1) := by decide +kernel
theorem dX12_nameOf_42 : decode cX12_nameOf 42 = .ok (.istore_n 2, 1) := by decide +kernel
theorem dX12_nameOf_43 : decode cX12_nameOf 43 = .ok (.iinc 3 1, 3) := by decide +kernel
theorem dX12_nameOf_46 : decode cX12_nameOf 46 = .ok (.goto (-42), 3) := by decide +kernel
theorem dX12_nameOf_49 : decode cX12_nameOf 49 = .ok (.iload_n 2, 1) := by decide +kernel
theorem dX12_nameOf_50 : decode cX12_nameOf 50 = .ok (.ireturn, 1) := by decide +kernel
theorem dX12_nearer_0 : decode cX12_nearer 0 = .ok (.iload_n 0, 1) := by decide +kernel
theorem dX12_nearer_1 : decode cX12_nearer 1 = .ok (.ifCond .le 13, 3) := by decide +kernel
theorem dX12_nearer_4 : decode cX12_nearer 4 = .ok (.iconst 0, 1) := by decide +kernel
theorem dX12_nearer_5 : decode cX12_nearer 5 = .ok (.iload_n 0, 1) := by decide +kernel
theorem dX12_nearer_6 : decode cX12_nearer 6 = .ok (.iload_n 1, 1) := by decide +kernel
theorem dX12_nearer_7 : decode cX12_nearer 7 = .ok (.isub, 1) := by decide +kernel
theorem dX12_nearer_8 : decode cX12_nearer 8 = .ok (.invokestatic 79, 3) := by decide +kernel
theorem dX12_nearer_11 : decode cX12_nearer 11 = .ok (.goto 10, 3) := by decide +kernel
theorem dX12_nearer_14 : decode cX12_nearer 14 = .ok (.iconst 0, 1) := by decide +kernel
theorem dX12_nearer_15 : decode cX12_nearer 15 = .ok (.iload_n 0, 1) := by decide +kernel
theorem dX12_nearer_16 : decode cX12_nearer 16 = .ok (.iload_n 1, 1) := by decide +kernel
theorem dX12_nearer_17 : decode cX12_nearer 17 = .ok (.iadd, 1) := by decide +kernel
theorem dX12_nearer_18 : decode cX12_nearer 18 = .ok (.invokestatic 73, 3) := by decide +kernel
theorem dX12_nearer_21 : decode cX12_nearer 21 = .ok (.ireturn, 1) := by decide +kernel
theorem dX12_of_0 : decode cX12_of 0 = .ok (.aload_n 0, 1) := by decide +kernel
theorem dX12_of_1 : decode cX12_of 1 = .ok (.getfield 9, 3) := by decide +kernel
theorem dX12_of_4 : decode cX12_of 4 = .ok (.bipush 16, 2) := by decide +kernel
theorem dX12_of_6 : decode cX12_of 6 = .ok (.bipush 7, 2) := by decide +kernel
theorem dX12_of_8 : decode cX12_of 8 = .ok (.iload_n 1, 1) := by decide +kernel
theorem dX12_of_9 : decode cX12_of 9 = .ok (.imul, 1) := by decide +kernel
theorem dX12_of_10 : decode cX12_of 10 = .ok (.iadd, 1) := by decide +kernel
theorem dX12_of_11 : decode cX12_of 11 = .ok (.iload_n 2, 1) := by decide +kernel
theorem dX12_of_12 : decode cX12_of 12 = .ok (.iadd, 1) := by decide +kernel
theorem dX12_of_13 : decode cX12_of 13 = .ok (.iaload, 1) := by decide +kernel
theorem dX12_of_14 : decode cX12_of 14 = .ok (.ireturn, 1) := by decide +kernel
theorem dX12_ofRide_0 : decode cX12_ofRide 0 = .ok (.aload_n 0, 1) := by decide +kernel
theorem dX12_ofRide_1 : decode cX12_ofRide 1 = .ok (.iload_n 1, 1) := by decide +kernel
theorem dX12_ofRide_2 : decode cX12_ofRide 2 = .ok (.iconst 1, 1) := by decide +kernel
theorem dX12_ofRide_3 : decode cX12_ofRide 3 = .ok (.invokevirtual 148, 3) := by decide +kernel
theorem dX12_ofRide_6 : decode cX12_ofRide 6 = .ok (.ifCond .eq 22, 3) := by decide +kernel
theorem dX12_ofRide_9 : decode cX12_ofRide 9 = .ok (.iload_n 2, 1) := by decide +kernel
theorem dX12_ofRide_10 : decode cX12_ofRide 10 = .ok (.iconst 0, 1) := by decide +kernel
theorem dX12_ofRide_11 : decode cX12_ofRide 11 = .ok (.bipush 8, 2) := by decide +kernel
theorem dX12_ofRide_13 : decode cX12_ofRide 13 = .ok (.invokestatic 86, 3) := by decide +kernel
theorem dX12_ofRide_16 : decode cX12_ofRide 16 = .ok (.ifCond .eq 12, 3) := by decide +kernel
theorem dX12_ofRide_19 : decode cX12_ofRide 19 = .ok (.aload_n 0, 1) := by decide +kernel
theorem dX12_ofRide_20 : decode cX12_ofRide 20 = .ok (.iload_n 1, 1) := by decide +kernel
theorem dX12_ofRide_21 : decode cX12_ofRide 21 = .ok (.iload_n 2, 1) := by decide +kernel
theorem dX12_ofRide_22 : decode cX12_ofRide 22 = .ok (.invokevirtual 151, 3) := by decide +kernel
theorem dX12_ofRide_25 : decode cX12_ofRide 25 = .ok (.goto 9, 3) := by decide +kernel
theorem dX12_ofRide_28 : decode cX12_ofRide 28 = .ok (.aload_n 0, 1) := by decide +kernel
theorem dX12_ofRide_29 : decode cX12_ofRide 29 = .ok (.ldc 90, 2) := by decide +kernel
theorem dX12_ofRide_31 : decode cX12_ofRide 31 = .ok (.invokevirtual 91, 3) := by decide +kernel
theorem dX12_ofRide_34 : decode cX12_ofRide 34 = .ok (.ireturn, 1) := by decide +kernel
theorem dX12_one_0 : decode cX12_one 0 = .ok (.aload_n 0, 1) := by decide +kernel
theorem dX12_one_1 : decode cX12_one 1 = .ok (.invokevirtual 168, 3) := by decide +kernel
theorem dX12_one_4 : decode cX12_one 4 = .ok (.istore_n 1, 1) := by decide +kernel
theorem dX12_one_5 : decode cX12_one 5 = .ok (.iload_n 1, 1) := by decide +kernel
theorem dX12_one_6 : decode cX12_one 6 = .ok (.bipush 33, 2) := by decide +kernel
theorem dX12_one_8 : decode cX12_one 8 = .ok (.if_icmp .eq 9, 3) := by decide +kernel
theorem dX12_one_11 : decode cX12_one 11 = .ok (.iload_n 1, 1) := by decide +kernel
theorem dX12_one_12 : decode cX12_one 12 = .ok (.bipush 40, 2) := by decide +kernel
theorem dX12_one_14 : decode cX12_one 14 = .ok (.if_icmp .ne 102, 3) := by decide +kernel
theorem dX12_one_17 : decode cX12_one 17 = .ok (.aload_n 0, 1) := by decide +kernel
theorem dX12_one_18 : decode cX12_one 18 = .ok (.aload_n 0, 1) := by decide +kernel
theorem dX12_one_19 : decode cX12_one 19 = .ok (.getfield 206, 3) := by decide +kernel
theorem dX12_one_22 : decode cX12_one 22 = .ok (.iconst 5, 1) := by decide +kernel
theorem dX12_one_23 : decode cX12_one 23 = .ok (.if_icmp .ne 7, 3) := by decide +kernel
theorem dX12_one_26 : decode cX12_one 26 = .ok (.iconst 1, 1) := by decide +kernel
theorem dX12_one_27 : decode cX12_one 27 = .ok (.goto 4, 3) := by decide +kernel
theorem dX12_one_30 : decode cX12_one 30 = .ok (.iconst 0, 1) := by decide +kernel
theorem dX12_one_31 : decode cX12_one 31 = .ok (.putfield 160, 3) := by decide +kernel
theorem dX12_one_34 : decode cX12_one 34 = .ok (.aload_n 0, 1) := by decide +kernel
theorem dX12_one_35 : decode cX12_one 35 = .ok (.getfield 160, 3) := by decide +kernel
theorem dX12_one_38 : decode cX12_one 38 = .ok (.ifCond .ne 209, 3) := by decide +kernel
theorem dX12_one_41 : decode cX12_one 41 = .ok (.aload_n 0, 1) := by decide +kernel
theorem dX12_one_42 : decode cX12_one 42 = .ok (.dup, 1) := by decide +kernel
theorem dX12_one_43 : decode cX12_one 43 = .ok (.getfield 206, 3) := by decide +kernel
theorem dX12_one_46 : decode cX12_one 46 = .ok (.iconst 1, 1) := by decide +kernel
theorem dX12_one_47 : decode cX12_one 47 = .ok (.iadd, 1) := by decide +kernel
theorem dX12_one_48 : decode cX12_one 48 = .ok (.putfield 206, 3) := by decide +kernel
theorem dX12_one_51 : decode cX12_one 51 = .ok (.aload_n 0, 1) := by decide +kernel
theorem dX12_one_52 : decode cX12_one 52 = .ok (.dup, 1) := by decide +kernel
theorem dX12_one_53 : decode cX12_one 53 = .ok (.getfield 164, 3) := by decide +kernel
theorem dX12_one_56 : decode cX12_one 56 = .ok (.iconst 1, 1) := by decide +kernel
theorem dX12_one_57 : decode cX12_one 57 = .ok (.iadd, 1) := by decide +kernel
theorem dX12_one_58 : decode cX12_one 58 = .ok (.putfield 164, 3) := by decide +kernel
theorem dX12_one_61 : decode cX12_one 61 = .ok (.iload_n 1, 1) := by decide +kernel
theorem dX12_one_62 : decode cX12_one 62 = .ok (.bipush 33, 2) := by decide +kernel
theorem dX12_one_64 : decode cX12_one 64 = .ok (.if_icmp .ne 17, 3) := by decide +kernel
theorem dX12_one_67 : decode cX12_one 67 = .ok (.aload_n 0, 1) := by decide +kernel
theorem dX12_one_68 : decode cX12_one 68 = .ok (.invokevirtual 193, 3) := by decide +kernel
theorem dX12_one_71 : decode cX12_one 71 = .ok (.aload_n 0, 1) := by decide +kernel
theorem dX12_one_72 : decode cX12_one 72 = .ok (.sipush 20010, 3) := by decide +kernel
theorem dX12_one_75 : decode cX12_one 75 = .ok (.invokevirtual 180, 3) := by decide +kernel
theorem dX12_one_78 : decode cX12_one 78 = .ok (.goto 25, 3) := by decide +kernel
theorem dX12_one_81 : decode cX12_one 81 = .ok (.aload_n 0, 1) := by decide +kernel
theorem dX12_one_82 : decode cX12_one 82 = .ok (.invokevirtual 209, 3) := by decide +kernel
theorem dX12_one_85 : decode cX12_one 85 = .ok (.aload_n 0, 1) := by decide +kernel
theorem dX12_one_86 : decode cX12_one 86 = .ok (.aload_n 0, 1) := by decide +kernel
theorem dX12_one_87 : decode cX12_one 87 = .ok (.bipush 41, 2) := by decide +kernel
theorem dX12_one_89 : decode cX12_one 89 = .ok (.invokevirtual 177, 3) := by decide +kernel
theorem dX12_one_92 : decode cX12_one 92 = .ok (.ifCond .ne 7, 3) := by decide +kernel
theorem dX12_one_95 : decode cX12_one 95 = .ok (.iconst 1, 1) := by decide +kernel
theorem dX12_one_96 : decode cX12_one 96 = .ok (.goto 4, 3) := by decide +kernel
theorem dX12_one_99 : decode cX12_one 99 = .ok (.iconst 0, 1) := by decide +kernel
theorem dX12_one_100 : decode cX12_one 100 = .ok (.putfield 160, 3) := by decide +kernel
theorem dX12_one_103 : decode cX12_one 103 = .ok (.aload_n 0, 1) := by decide +kernel
theorem dX12_one_104 : decode cX12_one 104 = .ok (.dup, 1) := by decide +kernel
theorem dX12_one_105 : decode cX12_one 105 = .ok (.getfield 206, 3) := by decide +kernel
theorem dX12_one_108 : decode cX12_one 108 = .ok (.iconst 1, 1) := by decide +kernel
theorem dX12_one_109 : decode cX12_one 109 = .ok (.isub, 1) := by decide +kernel
theorem dX12_one_110 : decode cX12_one 110 = .ok (.putfield 206, 3) := by decide +kernel
theorem dX12_one_113 : decode cX12_one 113 = .ok (.goto 134, 3) := by decide +kernel
theorem dX12_one_116 : decode cX12_one 116 = .ok (.iload_n 1, 1) := by decide +kernel
theorem dX12_one_117 : decode cX12_one 117 = .ok (.bipush 48, 2) := by decide +kernel
theorem dX12_one_119 : decode cX12_one 119 = .ok (.bipush 57, 2) := by decide +kernel
theorem dX12_one_121 : decode cX12_one 121 = .ok (.invokestatic 86, 3) := by decide +kernel
theorem dX12_one_124 : decode cX12_one 124 = .ok (.ifCond .eq 63, 3) := by decide +kernel
theorem dX12_one_127 : decode cX12_one 127 = .ok (.iconst 0, 1) := by decide +kernel
theorem dX12_one_128 : decode cX12_one 128 = .ok (.istore_n 2, 1) := by decide +kernel
theorem dX12_one_129 : decode cX12_one 129 = .ok (.iconst 0, 1) := by decide +kernel
theorem dX12_one_130 : decode cX12_one 130 = .ok (.istore_n 3, 1) := by decide +kernel
theorem dX12_one_131 : decode cX12_one 131 = .ok (.iload_n 3, 1) := by decide +kernel
theorem dX12_one_132 : decode cX12_one 132 = .ok (.iconst 4, 1) := by decide +kernel
theorem dX12_one_133 : decode cX12_one 133 = .ok (.if_icmp .ge 46, 3) := by decide +kernel
theorem dX12_one_136 : decode cX12_one 136 = .ok (.aload_n 0, 1) := by decide +kernel
theorem dX12_one_137 : decode cX12_one 137 = .ok (.invokevirtual 168, 3) := by decide +kernel
theorem dX12_one_140 : decode cX12_one 140 = .ok (.bipush 48, 2) := by decide +kernel
theorem dX12_one_142 : decode cX12_one 142 = .ok (.bipush 57, 2) := by decide +kernel
theorem dX12_one_144 : decode cX12_one 144 = .ok (.invokestatic 86, 3) := by decide +kernel
theorem dX12_one_147 : decode cX12_one 147 = .ok (.ifCond .eq 32, 3) := by decide +kernel
theorem dX12_one_150 : decode cX12_one 150 = .ok (.bipush 10, 2) := by decide +kernel
theorem dX12_one_152 : decode cX12_one 152 = .ok (.iload_n 2, 1) := by decide +kernel
theorem dX12_one_153 : decode cX12_one 153 = .ok (.imul, 1) := by decide +kernel
theorem dX12_one_154 : decode cX12_one 154 = .ok (.aload_n 0, 1) := by decide +kernel
theorem dX12_one_155 : decode cX12_one 155 = .ok (.invokevirtual 168, 3) := by decide +kernel
theorem dX12_one_158 : decode cX12_one 158 = .ok (.iadd, 1) := by decide +kernel
theorem dX12_one_159 : decode cX12_one 159 = .ok (.bipush 48, 2) := by decide +kernel
theorem dX12_one_161 : decode cX12_one 161 = .ok (.isub, 1) := by decide +kernel
theorem dX12_one_162 : decode cX12_one 162 = .ok (.istore_n 2, 1) := by decide +kernel
theorem dX12_one_163 : decode cX12_one 163 = .ok (.aload_n 0, 1) := by decide +kernel
theorem dX12_one_164 : decode cX12_one 164 = .ok (.dup, 1) := by decide +kernel
theorem dX12_one_165 : decode cX12_one 165 = .ok (.getfield 164, 3) := by decide +kernel
theorem dX12_one_168 : decode cX12_one 168 = .ok (.iconst 1, 1) := by decide +kernel
theorem dX12_one_169 : decode cX12_one 169 = .ok (.iadd, 1) := by decide +kernel
theorem dX12_one_170 : decode cX12_one 170 = .ok (.putfield 164, 3) := by decide +kernel
theorem dX12_one_173 : decode cX12_one 173 = .ok (.iinc 3 1, 3) := by decide +kernel
theorem dX12_one_176 : decode cX12_one 176 = .ok (.goto (-45), 3) := by decide +kernel
theorem dX12_one_179 : decode cX12_one 179 = .ok (.aload_n 0, 1) := by decide +kernel
theorem dX12_one_180 : decode cX12_one 180 = .ok (.iload_n 2, 1) := by decide +kernel
theorem dX12_one_181 : decode cX12_one 181 = .ok (.invokevirtual 180, 3) := by decide +kernel
theorem dX12_one_184 : decode cX12_one 184 = .ok (.goto 63, 3) := by decide +kernel
theorem dX12_one_187 : decode cX12_one 187 = .ok (.iload_n 1, 1) := by decide +kernel
theorem dX12_one_188 : decode cX12_one 188 = .ok (.ifCond .ge 7, 3) := by decide +kernel
theorem dX12_one_191 : decode cX12_one 191 = .ok (.iconst (-1), 1) := by decide +kernel
theorem dX12_one_192 : decode cX12_one 192 = .ok (.goto 8, 3) := by decide +kernel
theorem dX12_one_195 : decode cX12_one 195 = .ok (.aload_n 0, 1) := by decide +kernel
theorem dX12_one_196 : decode cX12_one 196 = .ok (.iload_n 1, 1) := by decide +kernel
theorem dX12_one_197 : decode cX12_one 197 = .ok (.invokevirtual 212, 3) := by decide +kernel
theorem dX12_one_200 : decode cX12_one 200 = .ok (.istore_n 2, 1) := by decide +kernel
theorem dX12_one_201 : decode cX12_one 201 = .ok (.aload_n 0, 1) := by decide +kernel
theorem dX12_one_202 : decode cX12_one 202 = .ok (.aload_n 0, 1) := by decide +kernel
theorem dX12_one_203 : decode cX12_one 203 = .ok (.getfield 160, 3) := by decide +kernel
theorem dX12_one_206 : decode cX12_one 206 = .ok (.ifCond .ne 7, 3) := by decide +kernel
theorem dX12_one_209 : decode cX12_one 209 = .ok (.iload_n 2, 1) := by decide +kernel
theorem dX12_one_210 : decode cX12_one 210 = .ok (.ifCond .ge 7, 3) := by decide +kernel
theorem dX12_one_213 : decode cX12_one 213 = .ok (.iconst 1, 1) := by decide +kernel
theorem dX12_one_214 : decode cX12_one 214 = .ok (.goto 4, 3) := by decide +kernel
theorem dX12_one_217 : decode cX12_one 217 = .ok (.iconst 0, 1) := by decide +kernel
theorem dX12_one_218 : decode cX12_one 218 = .ok (.putfield 160, 3) := by decide +kernel
theorem dX12_one_221 : decode cX12_one 221 = .ok (.aload_n 0, 1) := by decide +kernel
theorem dX12_one_222 : decode cX12_one 222 = .ok (.getfield 160, 3) := by decide +kernel
theorem dX12_one_225 : decode cX12_one 225 = .ok (.ifCond .ne 22, 3) := by decide +kernel
theorem dX12_one_228 : decode cX12_one 228 = .ok (.aload_n 0, 1) := by decide +kernel
theorem dX12_one_229 : decode cX12_one 229 = .ok (.sipush 10000, 3) := by decide +kernel
theorem dX12_one_232 : decode cX12_one 232 = .ok (.iload_n 2, 1) := by decide +kernel
theorem dX12_one_233 : decode cX12_one 233 = .ok (.iadd, 1) := by decide +kernel
theorem dX12_one_234 : decode cX12_one 234 = .ok (.invokevirtual 180, 3) := by decide +kernel
theorem dX12_one_237 : decode cX12_one 237 = .ok (.aload_n 0, 1) := by decide +kernel
theorem dX12_one_238 : decode cX12_one 238 = .ok (.dup, 1) := by decide +kernel
theorem dX12_one_239 : decode cX12_one 239 = .ok (.getfield 164, 3) := by decide +kernel
theorem dX12_one_242 : decode cX12_one 242 = .ok (.iconst 1, 1) := by decide +kernel
theorem dX12_one_243 : decode cX12_one 243 = .ok (.iadd, 1) := by decide +kernel
theorem dX12_one_244 : decode cX12_one 244 = .ok (.putfield 164, 3) := by decide +kernel
theorem dX12_one_247 : decode cX12_one 247 = .ok (.return_, 1) := by decide +kernel
theorem dX12_order_0 : decode cX12_order 0 = .ok (.iload_n 1, 1) := by decide +kernel
theorem dX12_order_1 : decode cX12_order 1 = .ok (.iconst (-1), 1) := by decide +kernel
theorem dX12_order_2 : decode cX12_order 2 = .ok (.if_icmp .ge 10, 3) := by decide +kernel
theorem dX12_order_5 : decode cX12_order 5 = .ok (.aload_n 0, 1) := by decide +kernel
theorem dX12_order_6 : decode cX12_order 6 = .ok (.ldc 90, 2) := by decide +kernel
theorem dX12_order_8 : decode cX12_order 8 = .ok (.invokevirtual 91, 3) := by decide +kernel
theorem dX12_order_11 : decode cX12_order 11 = .ok (.ireturn, 1) := by decide +kernel
theorem dX12_order_12 : decode cX12_order 12 = .ok (.iload_n 1, 1) := by decide +kernel
theorem dX12_order_13 : decode cX12_order 13 = .ok (.aload_n 0, 1) := by decide +kernel
theorem dX12_order_14 : decode cX12_order 14 = .ok (.getfield 9, 3) := by decide +kernel
theorem dX12_order_17 : decode cX12_order 17 = .ok (.iconst 3, 1) := by decide +kernel
theorem dX12_order_18 : decode cX12_order 18 = .ok (.iaload, 1) := by decide +kernel
theorem dX12_order_19 : decode cX12_order 19 = .ok (.if_icmp .lt 10, 3) := by decide +kernel
theorem dX12_order_22 : decode cX12_order 22 = .ok (.aload_n 0, 1) := by decide +kernel
theorem dX12_order_23 : decode cX12_order 23 = .ok (.ldc 132, 2) := by decide +kernel
theorem dX12_order_25 : decode cX12_order 25 = .ok (.invokevirtual 91, 3) := by decide +kernel
theorem dX12_order_28 : decode cX12_order 28 = .ok (.ireturn, 1) := by decide +kernel
theorem dX12_order_29 : decode cX12_order 29 = .ok (.aload_n 0, 1) := by decide +kernel
theorem dX12_order_30 : decode cX12_order 30 = .ok (.iconst (-1), 1) := by decide +kernel
theorem dX12_order_31 : decode cX12_order 31 = .ok (.putfield 275, 3) := by decide +kernel
theorem dX12_order_34 : decode cX12_order 34 = .ok (.aload_n 0, 1) := by decide +kernel
theorem dX12_order_35 : decode cX12_order 35 = .ok (.iconst 0, 1) := by decide +kernel
theorem dX12_order_36 : decode cX12_order 36 = .ok (.iconst 0, 1) := by decide +kernel
theorem dX12_order_37 : decode cX12_order 37 = .ok (.iconst 0, 1) := by decide +kernel
theorem dX12_order_38 : decode cX12_order 38 = .ok (.iconst 0, 1) := by decide +kernel
theorem dX12_order_39 : decode cX12_order 39 = .ok (.invokevirtual 278, 3) := by decide +kernel
theorem dX12_order_42 : decode cX12_order 42 = .ok (.iload_n 1, 1) := by decide +kernel
theorem dX12_order_43 : decode cX12_order 43 = .ok (.ifCond .ge 10, 3) := by decide +kernel
theorem dX12_order_46 : decode cX12_order 46 = .ok (.aload_n 0, 1) := by decide +kernel
theorem dX12_order_47 : decode cX12_order 47 = .ok (.getfield 275, 3) := by decide +kernel
theorem dX12_order_50 : decode cX12_order 50 = .ok (.goto 9, 3) := by decide +kernel
theorem dX12_order_53 : decode cX12_order 53 = .ok (.aload_n 0, 1) := by decide +kernel
theorem dX12_order_54 : decode cX12_order 54 = .ok (.getfield 54, 3) := by decide +kernel
theorem dX12_order_57 : decode cX12_order 57 = .ok (.iload_n 1, 1) := by decide +kernel
theorem dX12_order_58 : decode cX12_order 58 = .ok (.iaload, 1) := by decide +kernel
theorem dX12_order_59 : decode cX12_order 59 = .ok (.ireturn, 1) := by decide +kernel
theorem dX12_orders_0 : decode cX12_orders 0 = .ok (.iload_n 1, 1) := by decide +kernel
theorem dX12_orders_1 : decode cX12_orders 1 = .ok (.aload_n 0, 1) := by decide +kernel
theorem dX12_orders_2 : decode cX12_orders 2 = .ok (.getfield 9, 3) := by decide +kernel
theorem dX12_orders_5 : decode cX12_orders 5 = .ok (.iconst 3, 1) := by decide +kernel
theorem dX12_orders_6 : decode cX12_orders 6 = .ok (.iaload, 1) := by decide +kernel
theorem dX12_orders_7 : decode cX12_orders 7 = .ok (.if_icmp .ne 55, 3) := by decide +kernel
theorem dX12_orders_10 : decode cX12_orders 10 = .ok (.aload_n 0, 1) := by decide +kernel
theorem dX12_orders_11 : decode cX12_orders 11 = .ok (.getfield 275, 3) := by decide +kernel
theorem dX12_orders_14 : decode cX12_orders 14 = .ok (.ifCond .lt 12, 3) := by decide +kernel
theorem dX12_orders_17 : decode cX12_orders 17 = .ok (.iload 4, 2) := by decide +kernel
theorem dX12_orders_19 : decode cX12_orders 19 = .ok (.aload_n 0, 1) := by decide +kernel
theorem dX12_orders_20 : decode cX12_orders 20 = .ok (.getfield 275, 3) := by decide +kernel
theorem dX12_orders_23 : decode cX12_orders 23 = .ok (.if_icmp .ge 38, 3) := by decide +kernel
theorem dX12_orders_26 : decode cX12_orders 26 = .ok (.aload_n 0, 1) := by decide +kernel
theorem dX12_orders_27 : decode cX12_orders 27 = .ok (.iload 4, 2) := by decide +kernel
theorem dX12_orders_29 : decode cX12_orders 29 = .ok (.putfield 275, 3) := by decide +kernel
theorem dX12_orders_32 : decode cX12_orders 32 = .ok (.iconst 0, 1) := by decide +kernel
theorem dX12_orders_33 : decode cX12_orders 33 = .ok (.istore 5, 2) := by decide +kernel
theorem dX12_orders_35 : decode cX12_orders 35 = .ok (.iload 5, 2) := by decide +kernel
theorem dX12_orders_37 : decode cX12_orders 37 = .ok (.iload_n 1, 1) := by decide +kernel
theorem dX12_orders_38 : decode cX12_orders 38 = .ok (.if_icmp .ge 23, 3) := by decide +kernel
theorem dX12_orders_41 : decode cX12_orders 41 = .ok (.aload_n 0, 1) := by decide +kernel
theorem dX12_orders_42 : decode cX12_orders 42 = .ok (.getfield 54, 3) := by decide +kernel
theorem dX12_orders_45 : decode cX12_orders 45 = .ok (.iload 5, 2) := by decide +kernel
theorem dX12_orders_47 : decode cX12_orders 47 = .ok (.aload_n 0, 1) := by decide +kernel
theorem dX12_orders_48 : decode cX12_orders 48 = .ok (.getfield 51, 3) := by decide +kernel
theorem dX12_orders_51 : decode cX12_orders 51 = .ok (.iload 5, 2) := by decide +kernel
theorem dX12_orders_53 : decode cX12_orders 53 = .ok (.iaload, 1) := by decide +kernel
theorem dX12_orders_54 : decode cX12_orders 54 = .ok (.iastore, 1) := by decide +kernel
theorem dX12_orders_55 : decode cX12_orders 55 = .ok (.iinc 5 1, 3) := by decide +kernel
theorem dX12_orders_58 : decode cX12_orders 58 = .ok (.goto (-23), 3) := by decide +kernel
theorem dX12_orders_61 : decode cX12_orders 61 = .ok (.return_, 1) := by decide +kernel
theorem dX12_orders_62 : decode cX12_orders 62 = .ok (.iconst 0, 1) := by decide +kernel
theorem dX12_orders_63 : decode cX12_orders 63 = .ok (.istore 5, 2) := by decide +kernel
theorem dX12_orders_65 : decode cX12_orders 65 = .ok (.iload 5, 2) := by decide +kernel
theorem dX12_orders_67 : decode cX12_orders 67 = .ok (.aload_n 0, 1) := by decide +kernel
theorem dX12_orders_68 : decode cX12_orders 68 = .ok (.getfield 9, 3) := by decide +kernel
theorem dX12_orders_71 : decode cX12_orders 71 = .ok (.iconst 3, 1) := by decide +kernel
theorem dX12_orders_72 : decode cX12_orders 72 = .ok (.iaload, 1) := by decide +kernel
theorem dX12_orders_73 : decode cX12_orders 73 = .ok (.if_icmp .ge 86, 3) := by decide +kernel
theorem dX12_orders_76 : decode cX12_orders 76 = .ok (.iload_n 2, 1) := by decide +kernel
theorem dX12_orders_77 : decode cX12_orders 77 = .ok (.iload 5, 2) := by decide +kernel
theorem dX12_orders_79 : decode cX12_orders 79 = .ok (.ishr, 1) := by decide +kernel
theorem dX12_orders_80 : decode cX12_orders 80 = .ok (.iconst 1, 1) := by decide +kernel
theorem dX12_orders_81 : decode cX12_orders 81 = .ok (.iand, 1) := by decide +kernel
theorem dX12_orders_82 : decode cX12_orders 82 = .ok (.ifCond .ne 71, 3) := by decide +kernel
theorem dX12_orders_85 : decode cX12_orders 85 = .ok (.aload_n 0, 1) := by decide +kernel
theorem dX12_orders_86 : decode cX12_orders 86 = .ok (.getfield 9, 3) := by decide +kernel
theorem dX12_orders_89 : decode cX12_orders 89 = .ok (.bipush 88, 2) := by decide +kernel
theorem dX12_orders_91 : decode cX12_orders 91 = .ok (.iconst 2, 1) := by decide +kernel
theorem dX12_orders_92 : decode cX12_orders 92 = .ok (.iload 5, 2) := by decide +kernel
theorem dX12_orders_94 : decode cX12_orders 94 = .ok (.imul, 1) := by decide +kernel
theorem dX12_orders_95 : decode cX12_orders 95 = .ok (.iadd, 1) := by decide +kernel
theorem dX12_orders_96 : decode cX12_orders 96 = .ok (.iconst 1, 1) := by decide +kernel
theorem dX12_orders_97 : decode cX12_orders 97 = .ok (.iadd, 1) := by decide +kernel
theorem dX12_orders_98 : decode cX12_orders 98 = .ok (.iaload, 1) := by decide +kernel
theorem dX12_orders_99 : decode cX12_orders 99 = .ok (.istore 6, 2) := by decide +kernel
theorem dX12_orders_101 : decode cX12_orders 101 = .ok (.aload_n 0, 1) := by decide +kernel
theorem dX12_orders_102 : decode cX12_orders 102 = .ok (.getfield 51, 3) := by decide +kernel
theorem dX12_orders_105 : decode cX12_orders 105 = .ok (.iload_n 1, 1) := by decide +kernel
theorem dX12_orders_106 : decode cX12_orders 106 = .ok (.iload 5, 2) := by decide +kernel
theorem dX12_orders_108 : decode cX12_orders 108 = .ok (.iastore, 1) := by decide +kernel
theorem dX12_orders_109 : decode cX12_orders 109 = .ok (.aload_n 0, 1) := by decide +kernel
theorem dX12_orders_110 : decode cX12_orders 110 = .ok (.iload_n 1, 1) := by decide +kernel
theorem dX12_orders_111 : decode cX12_orders 111 = .ok (.iconst 1, 1) := by decide +kernel
theorem dX12_orders_112 : decode cX12_orders 112 = .ok (.iadd, 1) := by decide +kernel
theorem dX12_orders_113 : decode cX12_orders 113 = .ok (.iload_n 2, 1) := by decide +kernel
theorem dX12_orders_114 : decode cX12_orders 114 = .ok (.iconst 1, 1) := by decide +kernel
theorem dX12_orders_115 : decode cX12_orders 115 = .ok (.iload 5, 2) := by decide +kernel
theorem dX12_orders_117 : decode cX12_orders 117 = .ok (.ishl, 1) := by decide +kernel
theorem dX12_orders_118 : decode cX12_orders 118 = .ok (.ior, 1) := by decide +kernel
theorem dX12_orders_119 : decode cX12_orders 119 = .ok (.iconst 1, 1) := by decide +kernel
theorem dX12_orders_120 : decode cX12_orders 120 = .ok (.iload 6, 2) := by decide +kernel
theorem dX12_orders_122 : decode cX12_orders 122 = .ok (.isub, 1) := by decide +kernel
theorem dX12_orders_123 : decode cX12_orders 123 = .ok (.iload 4, 2) := by decide +kernel
theorem dX12_orders_125 : decode cX12_orders 125 = .ok (.aload_n 0, 1) := by decide +kernel
theorem dX12_orders_126 : decode cX12_orders 126 = .ok (.getfield 9, 3) := by decide +kernel
theorem dX12_orders_129 : decode cX12_orders 129 = .ok (.bipush 88, 2) := by decide +kernel
theorem dX12_orders_131 : decode cX12_orders 131 = .ok (.iconst 2, 1) := by decide +kernel
theorem dX12_orders_132 : decode cX12_orders 132 = .ok (.iload 5, 2) := by decide +kernel
theorem dX12_orders_134 : decode cX12_orders 134 = .ok (.imul, 1) := by decide +kernel
theorem dX12_orders_135 : decode cX12_orders 135 = .ok (.iadd, 1) := by decide +kernel
theorem dX12_orders_136 : decode cX12_orders 136 = .ok (.iaload, 1) := by decide +kernel
theorem dX12_orders_137 : decode cX12_orders 137 = .ok (.iadd, 1) := by decide +kernel
theorem dX12_orders_138 : decode cX12_orders 138 = .ok (.iload 6, 2) := by decide +kernel
theorem dX12_orders_140 : decode cX12_orders 140 = .ok (.iload_n 3, 1) := by decide +kernel
theorem dX12_orders_141 : decode cX12_orders 141 = .ok (.if_icmp .ne 7, 3) := by decide +kernel
theorem dX12_orders_144 : decode cX12_orders 144 = .ok (.iconst 0, 1) := by decide +kernel
theorem dX12_orders_145 : decode cX12_orders 145 = .ok (.goto 4, 3) := by decide +kernel
theorem dX12_orders_148 : decode cX12_orders 148 = .ok (.iconst 5, 1) := by decide +kernel
theorem dX12_orders_149 : decode cX12_orders 149 = .ok (.iadd, 1) := by decide +kernel
theorem dX12_orders_150 : decode cX12_orders 150 = .ok (.invokevirtual 278, 3) := by decide +kernel
theorem dX12_orders_153 : decode cX12_orders 153 = .ok (.iinc 5 1, 3) := by decide +kernel
theorem dX12_orders_156 : decode cX12_orders 156 = .ok (.goto (-91), 3) := by decide +kernel
theorem dX12_orders_159 : decode cX12_orders 159 = .ok (.return_, 1) := by decide +kernel
theorem dX12_over_0 : decode cX12_over 0 = .ok (.aload_n 0, 1) := by decide +kernel
theorem dX12_over_1 : decode cX12_over 1 = .ok (.iload_n 1, 1) := by decide +kernel
theorem dX12_over_2 : decode cX12_over 2 = .ok (.iconst 2, 1) := by decide +kernel
theorem dX12_over_3 : decode cX12_over 3 = .ok (.invokevirtual 148, 3) := by decide +kernel
theorem dX12_over_6 : decode cX12_over 6 = .ok (.ifCond .eq 8, 3) := by decide +kernel
theorem dX12_over_9 : decode cX12_over 9 = .ok (.iload_n 2, 1) := by decide +kernel
theorem dX12_over_10 : decode cX12_over 10 = .ok (.iconst (-1), 1) := by decide +kernel
theorem dX12_over_11 : decode cX12_over 11 = .ok (.if_icmp .ge 10, 3) := by decide +kernel
theorem dX12_over_14 : decode cX12_over 14 = .ok (.aload_n 0, 1) := by decide +kernel
theorem dX12_over_15 : decode cX12_over 15 = .ok (.ldc 90, 2) := by decide +kernel
theorem dX12_over_17 : decode cX12_over 17 = .ok (.invokevirtual 91, 3) := by decide +kernel
theorem dX12_over_20 : decode cX12_over 20 = .ok (.ireturn, 1) := by decide +kernel
theorem dX12_over_21 : decode cX12_over 21 = .ok (.aload_n 0, 1) := by decide +kernel
theorem dX12_over_22 : decode cX12_over 22 = .ok (.iload_n 1, 1) := by decide +kernel
theorem dX12_over_23 : decode cX12_over 23 = .ok (.invokevirtual 272, 3) := by decide +kernel
theorem dX12_over_26 : decode cX12_over 26 = .ok (.aload_n 0, 1) := by decide +kernel
theorem dX12_over_27 : decode cX12_over 27 = .ok (.getfield 48, 3) := by decide +kernel
theorem dX12_over_30 : decode cX12_over 30 = .ok (.iconst 0, 1) := by decide +kernel
theorem dX12_over_31 : decode cX12_over 31 = .ok (.iaload, 1) := by decide +kernel
theorem dX12_over_32 : decode cX12_over 32 = .ok (.bipush 8, 2) := by decide +kernel
theorem dX12_over_34 : decode cX12_over 34 = .ok (.if_icmp .gt 13, 3) := by decide +kernel
theorem dX12_over_37 : decode cX12_over 37 = .ok (.iload_n 2, 1) := by decide +kernel
theorem dX12_over_38 : decode cX12_over 38 = .ok (.aload_n 0, 1) := by decide +kernel
theorem dX12_over_39 : decode cX12_over 39 = .ok (.getfield 48, 3) := by decide +kernel
theorem dX12_over_42 : decode cX12_over 42 = .ok (.iconst 0, 1) := by decide +kernel
theorem dX12_over_43 : decode cX12_over 43 = .ok (.iaload, 1) := by decide +kernel
theorem dX12_over_44 : decode cX12_over 44 = .ok (.if_icmp .lt 10, 3) := by decide +kernel
theorem dX12_over_47 : decode cX12_over 47 = .ok (.aload_n 0, 1) := by decide +kernel
theorem dX12_over_48 : decode cX12_over 48 = .ok (.ldc 132, 2) := by decide +kernel
theorem dX12_over_50 : decode cX12_over 50 = .ok (.invokevirtual 91, 3) := by decide +kernel
theorem dX12_over_53 : decode cX12_over 53 = .ok (.ireturn, 1) := by decide +kernel
theorem dX12_over_54 : decode cX12_over 54 = .ok (.iconst 0, 1) := by decide +kernel
theorem dX12_over_55 : decode cX12_over 55 = .ok (.istore_n 3, 1) := by decide +kernel
theorem dX12_over_56 : decode cX12_over 56 = .ok (.iconst 0, 1) := by decide +kernel
theorem dX12_over_57 : decode cX12_over 57 = .ok (.istore 4, 2) := by decide +kernel
theorem dX12_over_59 : decode cX12_over 59 = .ok (.iload 4, 2) := by decide +kernel
theorem dX12_over_61 : decode cX12_over 61 = .ok (.iload_n 2, 1) := by decide +kernel
theorem dX12_over_62 : decode cX12_over 62 = .ok (.if_icmp .ge 55, 3) := by decide +kernel
theorem dX12_over_65 : decode cX12_over 65 = .ok (.iconst 0, 1) := by decide +kernel
theorem dX12_over_66 : decode cX12_over 66 = .ok (.istore 5, 2) := by decide +kernel
theorem dX12_over_68 : decode cX12_over 68 = .ok (.iload 5, 2) := by decide +kernel
theorem dX12_over_70 : decode cX12_over 70 = .ok (.iload_n 3, 1) := by decide +kernel
theorem dX12_over_71 : decode cX12_over 71 = .ok (.if_icmp .eq 31, 3) := by decide +kernel
theorem dX12_over_74 : decode cX12_over 74 = .ok (.aload_n 0, 1) := by decide +kernel
theorem dX12_over_75 : decode cX12_over 75 = .ok (.iload_n 3, 1) := by decide +kernel
theorem dX12_over_76 : decode cX12_over 76 = .ok (.iload 5, 2) := by decide +kernel
theorem dX12_over_78 : decode cX12_over 78 = .ok (.invokevirtual 269, 3) := by decide +kernel
theorem dX12_over_81 : decode cX12_over 81 = .ok (.ifCond .eq 21, 3) := by decide +kernel
theorem dX12_over_84 : decode cX12_over 84 = .ok (.aload_n 0, 1) := by decide +kernel
theorem dX12_over_85 : decode cX12_over 85 = .ok (.getfield 48, 3) := by decide +kernel
theorem dX12_over_88 : decode cX12_over 88 = .ok (.iload 5, 2) := by decide +kernel
theorem dX12_over_90 : decode cX12_over 90 = .ok (.iaload, 1) := by decide +kernel
theorem dX12_over_91 : decode cX12_over 91 = .ok (.iconst 1, 1) := by decide +kernel
theorem dX12_over_92 : decode cX12_over 92 = .ok (.iadd, 1) := by decide +kernel
theorem dX12_over_93 : decode cX12_over 93 = .ok (.aload_n 0, 1) := by decide +kernel
theorem dX12_over_94 : decode cX12_over 94 = .ok (.getfield 48, 3) := by decide +kernel
theorem dX12_over_97 : decode cX12_over 97 = .ok (.iload_n 3, 1) := by decide +kernel
theorem dX12_over_98 : decode cX12_over 98 = .ok (.iaload, 1) := by decide +kernel
theorem dX12_over_99 : decode cX12_over 99 = .ok (.if_icmp .eq 9, 3) := by decide +kernel
theorem dX12_over_102 : decode cX12_over 102 = .ok (.iinc 5 1, 3) := by decide +kernel
theorem dX12_over_105 : decode cX12_over 105 = .ok (.goto (-37), 3) := by decide +kernel
theorem dX12_over_108 : decode cX12_over 108 = .ok (.iload 5, 2) := by decide +kernel
theorem dX12_over_110 : decode cX12_over 110 = .ok (.istore_n 3, 1) := by decide +kernel
theorem dX12_over_111 : decode cX12_over 111 = .ok (.iinc 4 1, 3) := by decide +kernel
theorem dX12_over_114 : decode cX12_over 114 = .ok (.goto (-55), 3) := by decide +kernel
theorem dX12_over_117 : decode cX12_over 117 = .ok (.iload_n 2, 1) := by decide +kernel
theorem dX12_over_118 : decode cX12_over 118 = .ok (.ifCond .ge 12, 3) := by decide +kernel
theorem dX12_over_121 : decode cX12_over 121 = .ok (.aload_n 0, 1) := by decide +kernel
theorem dX12_over_122 : decode cX12_over 122 = .ok (.getfield 48, 3) := by decide +kernel
theorem dX12_over_125 : decode cX12_over 125 = .ok (.iconst 0, 1) := by decide +kernel
theorem dX12_over_126 : decode cX12_over 126 = .ok (.iaload, 1) := by decide +kernel
theorem dX12_over_127 : decode cX12_over 127 = .ok (.goto 4, 3) := by decide +kernel
theorem dX12_over_130 : decode cX12_over 130 = .ok (.iload_n 3, 1) := by decide +kernel
theorem dX12_over_131 : decode cX12_over 131 = .ok (.ireturn, 1) := by decide +kernel
theorem dX12_product_0 : decode cX12_product 0 = .ok (.aload_n 0, 1) := by decide +kernel
theorem dX12_product_1 : decode cX12_product 1 = .ok (.invokevirtual 193, 3) := by decide +kernel
theorem dX12_product_4 : decode cX12_product 4 = .ok (.aload_n 0, 1) := by decide +kernel
theorem dX12_product_5 : decode cX12_product 5 = .ok (.bipush 42, 2) := by decide +kernel
theorem dX12_product_7 : decode cX12_product 7 = .ok (.invokevirtual 177, 3) := by decide +kernel
theorem dX12_product_10 : decode cX12_product 10 = .ok (.ifCond .eq 9, 3) := by decide +kernel
theorem dX12_product_13 : decode cX12_product 13 = .ok (.sipush 20007, 3) := by decide +kernel
theorem dX12_product_16 : decode cX12_product 16 = .ok (.goto 34, 3) := by decide +kernel
theorem dX12_product_19 : decode cX12_product 19 = .ok (.aload_n 0, 1) := by decide +kernel
theorem dX12_product_20 : decode cX12_product 20 = .ok (.bipush 47, 2) := by decide +kernel
theorem dX12_product_22 : decode cX12_product 22 = .ok (.invokevirtual 177, 3) := by decide +kernel
theorem dX12_product_25 : decode cX12_product 25 = .ok (.ifCond .eq 9, 3) := by decide +kernel
theorem dX12_product_28 : decode cX12_product 28 = .ok (.sipush 20008, 3) := by decide +kernel
theorem dX12_product_31 : decode cX12_product 31 = .ok (.goto 19, 3) := by decide +kernel
theorem dX12_product_34 : decode cX12_product 34 = .ok (.aload_n 0, 1) := by decide +kernel
theorem dX12_product_35 : decode cX12_product 35 = .ok (.bipush 37, 2) := by decide +kernel
theorem dX12_product_37 : decode cX12_product 37 = .ok (.invokevirtual 177, 3) := by decide +kernel
theorem dX12_product_40 : decode cX12_product 40 = .ok (.ifCond .eq 9, 3) := by decide +kernel
theorem dX12_product_43 : decode cX12_product 43 = .ok (.sipush 20009, 3) := by decide +kernel
theorem dX12_product_46 : decode cX12_product 46 = .ok (.goto 4, 3) := by decide +kernel
theorem dX12_product_49 : decode cX12_product 49 = .ok (.iconst 0, 1) := by decide +kernel
theorem dX12_product_50 : decode cX12_product 50 = .ok (.istore_n 1, 1) := by decide +kernel
theorem dX12_product_51 : decode cX12_product 51 = .ok (.iload_n 1, 1) := by decide +kernel
theorem dX12_product_52 : decode cX12_product 52 = .ok (.ifCond .le 62, 3) := by decide +kernel
theorem dX12_product_55 : decode cX12_product 55 = .ok (.aload_n 0, 1) := by decide +kernel
theorem dX12_product_56 : decode cX12_product 56 = .ok (.invokevirtual 193, 3) := by decide +kernel
theorem dX12_product_59 : decode cX12_product 59 = .ok (.aload_n 0, 1) := by decide +kernel
theorem dX12_product_60 : decode cX12_product 60 = .ok (.iload_n 1, 1) := by decide +kernel
theorem dX12_product_61 : decode cX12_product 61 = .ok (.invokevirtual 180, 3) := by decide +kernel
theorem dX12_product_64 : decode cX12_product 64 = .ok (.aload_n 0, 1) := by decide +kernel
theorem dX12_product_65 : decode cX12_product 65 = .ok (.bipush 42, 2) := by decide +kernel
theorem dX12_product_67 : decode cX12_product 67 = .ok (.invokevirtual 177, 3) := by decide +kernel
theorem dX12_product_70 : decode cX12_product 70 = .ok (.ifCond .eq 9, 3) := by decide +kernel
theorem dX12_product_73 : decode cX12_product 73 = .ok (.sipush 20007, 3) := by decide +kernel
theorem dX12_product_76 : decode cX12_product 76 = .ok (.goto 34, 3) := by decide +kernel
theorem dX12_product_79 : decode cX12_product 79 = .ok (.aload_n 0, 1) := by decide +kernel
theorem dX12_product_80 : decode cX12_product 80 = .ok (.bipush 47, 2) := by decide +kernel
theorem dX12_product_82 : decode cX12_product 82 = .ok (.invokevirtual 177, 3) := by decide +kernel
theorem dX12_product_85 : decode cX12_product 85 = .ok (.ifCond .eq 9, 3) := by decide +kernel
theorem dX12_product_88 : decode cX12_product 88 = .ok (.sipush 20008, 3) := by decide +kernel
theorem dX12_product_91 : decode cX12_product 91 = .ok (.goto 19, 3) := by decide +kernel
theorem dX12_product_94 : decode cX12_product 94 = .ok (.aload_n 0, 1) := by decide +kernel
theorem dX12_product_95 : decode cX12_product 95 = .ok (.bipush 37, 2) := by decide +kernel
theorem dX12_product_97 : decode cX12_product 97 = .ok (.invokevirtual 177, 3) := by decide +kernel
theorem dX12_product_100 : decode cX12_product 100 = .ok (.ifCond .eq 9, 3) := by decide +kernel
theorem dX12_product_103 : decode cX12_product 103 = .ok (.sipush 20009, 3) := by decide +kernel
theorem dX12_product_106 : decode cX12_product 106 = .ok (.goto 4, 3) := by decide +kernel
theorem dX12_product_109 : decode cX12_product 109 = .ok (.iconst 0, 1) := by decide +kernel
theorem dX12_product_110 : decode cX12_product 110 = .ok (.istore_n 1, 1) := by decide +kernel
theorem dX12_product_111 : decode cX12_product 111 = .ok (.goto (-60), 3) := by decide +kernel
theorem dX12_product_114 : decode cX12_product 114 = .ok (.return_, 1) := by decide +kernel
theorem dX12_pulled_0 : decode cX12_pulled 0 = .ok (.aload_n 0, 1) := by decide +kernel
theorem dX12_pulled_1 : decode cX12_pulled 1 = .ok (.iload_n 1, 1) := by decide +kernel
theorem dX12_pulled_2 : decode cX12_pulled 2 = .ok (.iload_n 2, 1) := by decide +kernel
theorem dX12_pulled_3 : decode cX12_pulled 3 = .ok (.invokevirtual 118, 3) := by decide +kernel
theorem dX12_pulled_6 : decode cX12_pulled 6 = .ok (.ifCond .eq 12, 3) := by decide +kernel
theorem dX12_pulled_9 : decode cX12_pulled 9 = .ok (.aload_n 0, 1) := by decide +kernel
theorem dX12_pulled_10 : decode cX12_pulled 10 = .ok (.iload_n 1, 1) := by decide +kernel
theorem dX12_pulled_11 : decode cX12_pulled 11 = .ok (.iload_n 2, 1) := by decide +kernel
theorem dX12_pulled_12 : decode cX12_pulled 12 = .ok (.invokevirtual 125, 3) := by decide +kernel
theorem dX12_pulled_15 : decode cX12_pulled 15 = .ok (.goto 9, 3) := by decide +kernel
theorem dX12_pulled_18 : decode cX12_pulled 18 = .ok (.aload_n 0, 1) := by decide +kernel
theorem dX12_pulled_19 : decode cX12_pulled 19 = .ok (.ldc 90, 2) := by decide +kernel
theorem dX12_pulled_21 : decode cX12_pulled 21 = .ok (.invokevirtual 91, 3) := by decide +kernel
theorem dX12_pulled_24 : decode cX12_pulled 24 = .ok (.ireturn, 1) := by decide +kernel
theorem dX12_pulledAt_0 : decode cX12_pulledAt 0 = .ok (.aload_n 0, 1) := by decide +kernel
theorem dX12_pulledAt_1 : decode cX12_pulledAt 1 = .ok (.invokevirtual 105, 3) := by decide +kernel
theorem dX12_pulledAt_4 : decode cX12_pulledAt 4 = .ok (.i2l, 1) := by decide +kernel
theorem dX12_pulledAt_5 : decode cX12_pulledAt 5 = .ok (.ldc2_w 116, 3) := by decide +kernel
theorem dX12_pulledAt_8 : decode cX12_pulledAt 8 = .ok (.iload_n 2, 1) := by decide +kernel
theorem dX12_pulledAt_9 : decode cX12_pulledAt 9 = .ok (.i2l, 1) := by decide +kernel
theorem dX12_pulledAt_10 : decode cX12_pulledAt 10 = .ok (.lmul, 1) := by decide +kernel
theorem dX12_pulledAt_11 : decode cX12_pulledAt 11 = .ok (.iload_n 1, 1) := by decide +kernel
theorem dX12_pulledAt_12 : decode cX12_pulledAt 12 = .ok (.i2l, 1) := by decide +kernel
theorem dX12_pulledAt_13 : decode cX12_pulledAt 13 = .ok (.lmul, 1) := by decide +kernel
theorem dX12_pulledAt_14 : decode cX12_pulledAt 14 = .ok (.aload_n 0, 1) := by decide +kernel
theorem dX12_pulledAt_15 : decode cX12_pulledAt 15 = .ok (.getfield 9, 3) := by decide +kernel
theorem dX12_pulledAt_18 : decode cX12_pulledAt 18 = .ok (.bipush 7, 2) := by decide +kernel
theorem dX12_pulledAt_20 : decode cX12_pulledAt 20 = .ok (.iaload, 1) := by decide +kernel
theorem dX12_pulledAt_21 : decode cX12_pulledAt 21 = .ok (.iload_n 1, 1) := by decide +kernel
theorem dX12_pulledAt_22 : decode cX12_pulledAt 22 = .ok (.isub, 1) := by decide +kernel
theorem dX12_pulledAt_23 : decode cX12_pulledAt 23 = .ok (.i2l, 1) := by decide +kernel
theorem dX12_pulledAt_24 : decode cX12_pulledAt 24 = .ok (.lmul, 1) := by decide +kernel
theorem dX12_pulledAt_25 : decode cX12_pulledAt 25 = .ok (.aload_n 0, 1) := by decide +kernel
theorem dX12_pulledAt_26 : decode cX12_pulledAt 26 = .ok (.getfield 9, 3) := by decide +kernel
theorem dX12_pulledAt_29 : decode cX12_pulledAt 29 = .ok (.bipush 7, 2) := by decide +kernel
theorem dX12_pulledAt_31 : decode cX12_pulledAt 31 = .ok (.iaload, 1) := by decide +kernel
theorem dX12_pulledAt_32 : decode cX12_pulledAt 32 = .ok (.i2l, 1) := by decide +kernel
theorem dX12_pulledAt_33 : decode cX12_pulledAt 33 = .ok (.aload_n 0, 1) := by decide +kernel
theorem dX12_pulledAt_34 : decode cX12_pulledAt 34 = .ok (.getfield 9, 3) := by decide +kernel
theorem dX12_pulledAt_37 : decode cX12_pulledAt 37 = .ok (.bipush 7, 2) := by decide +kernel
theorem dX12_pulledAt_39 : decode cX12_pulledAt 39 = .ok (.iaload, 1) := by decide +kernel
theorem dX12_pulledAt_40 : decode cX12_pulledAt 40 = .ok (.i2l, 1) := by decide +kernel
theorem dX12_pulledAt_41 : decode cX12_pulledAt 41 = .ok (.lmul, 1) := by decide +kernel
theorem dX12_pulledAt_42 : decode cX12_pulledAt 42 = .ok (.ldiv, 1) := by decide +kernel
theorem dX12_pulledAt_43 : decode cX12_pulledAt 43 = .ok (.ladd, 1) := by decide +kernel
theorem dX12_pulledAt_44 : decode cX12_pulledAt 44 = .ok (.l2i, 1) := by decide +kernel
theorem dX12_pulledAt_45 : decode cX12_pulledAt 45 = .ok (.ireturn, 1) := by decide +kernel
theorem dX12_pulls_0 : decode cX12_pulls 0 = .ok (.aload_n 0, 1) := by decide +kernel
theorem dX12_pulls_1 : decode cX12_pulls 1 = .ok (.getfield 9, 3) := by decide +kernel
theorem dX12_pulls_4 : decode cX12_pulls 4 = .ok (.bipush 72, 2) := by decide +kernel
theorem dX12_pulls_6 : decode cX12_pulls 6 = .ok (.iconst 2, 1) := by decide +kernel
theorem dX12_pulls_7 : decode cX12_pulls 7 = .ok (.iload_n 2, 1) := by decide +kernel
theorem dX12_pulls_8 : decode cX12_pulls 8 = .ok (.imul, 1) := by decide +kernel
theorem dX12_pulls_9 : decode cX12_pulls 9 = .ok (.iadd, 1) := by decide +kernel
theorem dX12_pulls_10 : decode cX12_pulls 10 = .ok (.iconst 1, 1) := by decide +kernel
theorem dX12_pulls_11 : decode cX12_pulls 11 = .ok (.iadd, 1) := by decide +kernel
theorem dX12_pulls_12 : decode cX12_pulls 12 = .ok (.iaload, 1) := by decide +kernel
theorem dX12_pulls_13 : decode cX12_pulls 13 = .ok (.aload_n 0, 1) := by decide +kernel
theorem dX12_pulls_14 : decode cX12_pulls 14 = .ok (.getfield 9, 3) := by decide +kernel
theorem dX12_pulls_17 : decode cX12_pulls 17 = .ok (.bipush 7, 2) := by decide +kernel
theorem dX12_pulls_19 : decode cX12_pulls 19 = .ok (.iaload, 1) := by decide +kernel
theorem dX12_pulls_20 : decode cX12_pulls 20 = .ok (.imul, 1) := by decide +kernel
theorem dX12_pulls_21 : decode cX12_pulls 21 = .ok (.bipush 10, 2) := by decide +kernel
theorem dX12_pulls_23 : decode cX12_pulls 23 = .ok (.idiv, 1) := by decide +kernel
theorem dX12_pulls_24 : decode cX12_pulls 24 = .ok (.aload_n 0, 1) := by decide +kernel
theorem dX12_pulls_25 : decode cX12_pulls 25 = .ok (.getfield 9, 3) := by decide +kernel
theorem dX12_pulls_28 : decode cX12_pulls 28 = .ok (.bipush 72, 2) := by decide +kernel
theorem dX12_pulls_30 : decode cX12_pulls 30 = .ok (.iconst 2, 1) := by decide +kernel
theorem dX12_pulls_31 : decode cX12_pulls 31 = .ok (.iload_n 1, 1) := by decide +kernel
theorem dX12_pulls_32 : decode cX12_pulls 32 = .ok (.imul, 1) := by decide +kernel
theorem dX12_pulls_33 : decode cX12_pulls 33 = .ok (.iadd, 1) := by decide +kernel
theorem dX12_pulls_34 : decode cX12_pulls 34 = .ok (.iaload, 1) := by decide +kernel
theorem dX12_pulls_35 : decode cX12_pulls 35 = .ok (.if_icmp .gt 7, 3) := by decide +kernel
theorem dX12_pulls_38 : decode cX12_pulls 38 = .ok (.iconst 1, 1) := by decide +kernel
theorem dX12_pulls_39 : decode cX12_pulls 39 = .ok (.goto 4, 3) := by decide +kernel
theorem dX12_pulls_42 : decode cX12_pulls 42 = .ok (.iconst 0, 1) := by decide +kernel
theorem dX12_pulls_43 : decode cX12_pulls 43 = .ok (.ireturn, 1) := by decide +kernel
theorem dX12_put_0 : decode cX12_put 0 = .ok (.iload_n 1, 1) := by decide +kernel
theorem dX12_put_1 : decode cX12_put 1 = .ok (.invokestatic 266, 3) := by decide +kernel
theorem dX12_put_4 : decode cX12_put 4 = .ok (.ifCond .ne 10, 3) := by decide +kernel
theorem dX12_put_7 : decode cX12_put 7 = .ok (.aload_n 0, 1) := by decide +kernel
theorem dX12_put_8 : decode cX12_put 8 = .ok (.ldc 90, 2) := by decide +kernel
theorem dX12_put_10 : decode cX12_put 10 = .ok (.invokevirtual 91, 3) := by decide +kernel
theorem dX12_put_13 : decode cX12_put 13 = .ok (.ireturn, 1) := by decide +kernel
theorem dX12_put_14 : decode cX12_put 14 = .ok (.aload_n 0, 1) := by decide +kernel
theorem dX12_put_15 : decode cX12_put 15 = .ok (.getfield 60, 3) := by decide +kernel
theorem dX12_put_18 : decode cX12_put 18 = .ok (.iload_n 1, 1) := by decide +kernel
theorem dX12_put_19 : decode cX12_put 19 = .ok (.iaload, 1) := by decide +kernel
theorem dX12_put_20 : decode cX12_put 20 = .ok (.ifCond .ne 10, 3) := by decide +kernel
theorem dX12_put_23 : decode cX12_put 23 = .ok (.aload_n 0, 1) := by decide +kernel
theorem dX12_put_24 : decode cX12_put 24 = .ok (.ldc 132, 2) := by decide +kernel
theorem dX12_put_26 : decode cX12_put 26 = .ok (.invokevirtual 91, 3) := by decide +kernel
theorem dX12_put_29 : decode cX12_put 29 = .ok (.ireturn, 1) := by decide +kernel
theorem dX12_put_30 : decode cX12_put 30 = .ok (.iload_n 2, 1) := by decide +kernel
theorem dX12_put_31 : decode cX12_put 31 = .ok (.iconst 0, 1) := by decide +kernel
theorem dX12_put_32 : decode cX12_put 32 = .ok (.aload_n 0, 1) := by decide +kernel
theorem dX12_put_33 : decode cX12_put 33 = .ok (.getfield 63, 3) := by decide +kernel
theorem dX12_put_36 : decode cX12_put 36 = .ok (.iload_n 1, 1) := by decide +kernel
theorem dX12_put_37 : decode cX12_put 37 = .ok (.iaload, 1) := by decide +kernel
theorem dX12_put_38 : decode cX12_put 38 = .ok (.iconst 1, 1) := by decide +kernel
theorem dX12_put_39 : decode cX12_put 39 = .ok (.isub, 1) := by decide +kernel
theorem dX12_put_40 : decode cX12_put 40 = .ok (.invokestatic 86, 3) := by decide +kernel
theorem dX12_put_43 : decode cX12_put 43 = .ok (.ifCond .ne 10, 3) := by decide +kernel
theorem dX12_put_46 : decode cX12_put 46 = .ok (.aload_n 0, 1) := by decide +kernel
theorem dX12_put_47 : decode cX12_put 47 = .ok (.ldc 90, 2) := by decide +kernel
theorem dX12_put_49 : decode cX12_put 49 = .ok (.invokevirtual 91, 3) := by decide +kernel
theorem dX12_put_52 : decode cX12_put 52 = .ok (.ireturn, 1) := by decide +kernel
theorem dX12_put_53 : decode cX12_put 53 = .ok (.aload_n 0, 1) := by decide +kernel
theorem dX12_put_54 : decode cX12_put 54 = .ok (.getfield 66, 3) := by decide +kernel
theorem dX12_put_57 : decode cX12_put 57 = .ok (.bipush 40, 2) := by decide +kernel
theorem dX12_put_59 : decode cX12_put 59 = .ok (.iload_n 1, 1) := by decide +kernel
theorem dX12_put_60 : decode cX12_put 60 = .ok (.imul, 1) := by decide +kernel
theorem dX12_put_61 : decode cX12_put 61 = .ok (.iload_n 2, 1) := by decide +kernel
theorem dX12_put_62 : decode cX12_put 62 = .ok (.iadd, 1) := by decide +kernel
theorem dX12_put_63 : decode cX12_put 63 = .ok (.aload_n 0, 1) := by decide +kernel
theorem dX12_put_64 : decode cX12_put 64 = .ok (.getfield 60, 3) := by decide +kernel
theorem dX12_put_67 : decode cX12_put 67 = .ok (.iload_n 1, 1) := by decide +kernel
theorem dX12_put_68 : decode cX12_put 68 = .ok (.iaload, 1) := by decide +kernel
theorem dX12_put_69 : decode cX12_put 69 = .ok (.bipush 8, 2) := by decide +kernel
theorem dX12_put_71 : decode cX12_put 71 = .ok (.if_icmp .ne 8, 3) := by decide +kernel
theorem dX12_put_74 : decode cX12_put 74 = .ok (.iload_n 3, 1) := by decide +kernel
theorem dX12_put_75 : decode cX12_put 75 = .ok (.i2b, 1) := by decide +kernel
theorem dX12_put_76 : decode cX12_put 76 = .ok (.goto 20, 3) := by decide +kernel
theorem dX12_put_79 : decode cX12_put 79 = .ok (.aload_n 0, 1) := by decide +kernel
theorem dX12_put_80 : decode cX12_put 80 = .ok (.getfield 60, 3) := by decide +kernel
theorem dX12_put_83 : decode cX12_put 83 = .ok (.iload_n 1, 1) := by decide +kernel
theorem dX12_put_84 : decode cX12_put 84 = .ok (.iaload, 1) := by decide +kernel
theorem dX12_put_85 : decode cX12_put 85 = .ok (.bipush 16, 2) := by decide +kernel
theorem dX12_put_87 : decode cX12_put 87 = .ok (.if_icmp .ne 8, 3) := by decide +kernel
theorem dX12_put_90 : decode cX12_put 90 = .ok (.iload_n 3, 1) := by decide +kernel
theorem dX12_put_91 : decode cX12_put 91 = .ok (.i2s, 1) := by decide +kernel
theorem dX12_put_92 : decode cX12_put 92 = .ok (.goto 4, 3) := by decide +kernel
theorem dX12_put_95 : decode cX12_put 95 = .ok (.iload_n 3, 1) := by decide +kernel
theorem dX12_put_96 : decode cX12_put 96 = .ok (.iastore, 1) := by decide +kernel
theorem dX12_put_97 : decode cX12_put 97 = .ok (.iconst 1, 1) := by decide +kernel
theorem dX12_put_98 : decode cX12_put 98 = .ok (.ireturn, 1) := by decide +kernel
theorem dX12_restore_0 : decode cX12_restore 0 = .ok (.aload_n 0, 1) := by decide +kernel
theorem dX12_restore_1 : decode cX12_restore 1 = .ok (.getfield 303, 3) := by decide +kernel
theorem dX12_restore_4 : decode cX12_restore 4 = .ok (.ifCond .ne 10, 3) := by decide +kernel
theorem dX12_restore_7 : decode cX12_restore 7 = .ok (.aload_n 0, 1) := by decide +kernel
theorem dX12_restore_8 : decode cX12_restore 8 = .ok (.ldc 132, 2) := by decide +kernel
theorem dX12_restore_10 : decode cX12_restore 10 = .ok (.invokevirtual 91, 3) := by decide +kernel
theorem dX12_restore_13 : decode cX12_restore 13 = .ok (.ireturn, 1) := by decide +kernel
theorem dX12_restore_14 : decode cX12_restore 14 = .ok (.aload_n 0, 1) := by decide +kernel
theorem dX12_restore_15 : decode cX12_restore 15 = .ok (.getfield 13, 3) := by decide +kernel
theorem dX12_restore_18 : decode cX12_restore 18 = .ok (.aload_n 0, 1) := by decide +kernel
theorem dX12_restore_19 : decode cX12_restore 19 = .ok (.getfield 9, 3) := by decide +kernel
theorem dX12_restore_22 : decode cX12_restore 22 = .ok (.invokestatic 82, 3) := by decide +kernel
theorem dX12_restore_25 : decode cX12_restore 25 = .ok (.aload_n 0, 1) := by decide +kernel
theorem dX12_restore_26 : decode cX12_restore 26 = .ok (.getfield 9, 3) := by decide +kernel
theorem dX12_restore_29 : decode cX12_restore 29 = .ok (.iconst 0, 1) := by decide +kernel
theorem dX12_restore_30 : decode cX12_restore 30 = .ok (.iaload, 1) := by decide +kernel
theorem dX12_restore_31 : decode cX12_restore 31 = .ok (.ireturn, 1) := by decide +kernel
theorem dX12_ride_0 : decode cX12_ride 0 = .ok (.iload_n 1, 1) := by decide +kernel
theorem dX12_ride_1 : decode cX12_ride 1 = .ok (.iconst 0, 1) := by decide +kernel
theorem dX12_ride_2 : decode cX12_ride 2 = .ok (.bipush 6, 2) := by decide +kernel
theorem dX12_ride_4 : decode cX12_ride 4 = .ok (.invokestatic 86, 3) := by decide +kernel
theorem dX12_ride_7 : decode cX12_ride 7 = .ok (.ifCond .eq 24, 3) := by decide +kernel
theorem dX12_ride_10 : decode cX12_ride 10 = .ok (.iload_n 2, 1) := by decide +kernel
theorem dX12_ride_11 : decode cX12_ride 11 = .ok (.iconst 1, 1) := by decide +kernel
theorem dX12_ride_12 : decode cX12_ride 12 = .ok (.sipush 300, 3) := by decide +kernel
theorem dX12_ride_15 : decode cX12_ride 15 = .ok (.invokestatic 86, 3) := by decide +kernel
theorem dX12_ride_18 : decode cX12_ride 18 = .ok (.ifCond .eq 13, 3) := by decide +kernel
theorem dX12_ride_21 : decode cX12_ride 21 = .ok (.iload_n 3, 1) := by decide +kernel
theorem dX12_ride_22 : decode cX12_ride 22 = .ok (.iconst 0, 1) := by decide +kernel
theorem dX12_ride_23 : decode cX12_ride 23 = .ok (.bipush 99, 2) := by decide +kernel
theorem dX12_ride_25 : decode cX12_ride 25 = .ok (.invokestatic 86, 3) := by decide +kernel
theorem dX12_ride_28 : decode cX12_ride 28 = .ok (.ifCond .ne 10, 3) := by decide +kernel
theorem dX12_ride_31 : decode cX12_ride 31 = .ok (.aload_n 0, 1) := by decide +kernel
theorem dX12_ride_32 : decode cX12_ride 32 = .ok (.ldc 90, 2) := by decide +kernel
theorem dX12_ride_34 : decode cX12_ride 34 = .ok (.invokevirtual 91, 3) := by decide +kernel
theorem dX12_ride_37 : decode cX12_ride 37 = .ok (.ireturn, 1) := by decide +kernel
theorem dX12_ride_38 : decode cX12_ride 38 = .ok (.aload_n 0, 1) := by decide +kernel
theorem dX12_ride_39 : decode cX12_ride 39 = .ok (.iconst 1, 1) := by decide +kernel
theorem dX12_ride_40 : decode cX12_ride 40 = .ok (.iload_n 2, 1) := by decide +kernel
theorem dX12_ride_41 : decode cX12_ride 41 = .ok (.aload_n 0, 1) := by decide +kernel
theorem dX12_ride_42 : decode cX12_ride 42 = .ok (.getfield 9, 3) := by decide +kernel
theorem dX12_ride_45 : decode cX12_ride 45 = .ok (.bipush 14, 2) := by decide +kernel
theorem dX12_ride_47 : decode cX12_ride 47 = .ok (.iaload, 1) := by decide +kernel
theorem dX12_ride_48 : decode cX12_ride 48 = .ok (.aload_n 0, 1) := by decide +kernel
theorem dX12_ride_49 : decode cX12_ride 49 = .ok (.getfield 9, 3) := by decide +kernel
theorem dX12_ride_52 : decode cX12_ride 52 = .ok (.bipush 15, 2) := by decide +kernel
theorem dX12_ride_54 : decode cX12_ride 54 = .ok (.iaload, 1) := by decide +kernel
theorem dX12_ride_55 : decode cX12_ride 55 = .ok (.aload_n 0, 1) := by decide +kernel
theorem dX12_ride_56 : decode cX12_ride 56 = .ok (.getfield 9, 3) := by decide +kernel
theorem dX12_ride_59 : decode cX12_ride 59 = .ok (.iconst 0, 1) := by decide +kernel
theorem dX12_ride_60 : decode cX12_ride 60 = .ok (.iaload, 1) := by decide +kernel
theorem dX12_ride_61 : decode cX12_ride 61 = .ok (.invokevirtual 133, 3) := by decide +kernel
theorem dX12_ride_64 : decode cX12_ride 64 = .ok (.ifCond .ne 10, 3) := by decide +kernel
theorem dX12_ride_67 : decode cX12_ride 67 = .ok (.aload_n 0, 1) := by decide +kernel
theorem dX12_ride_68 : decode cX12_ride 68 = .ok (.ldc 137, 2) := by decide +kernel
theorem dX12_ride_70 : decode cX12_ride 70 = .ok (.invokevirtual 91, 3) := by decide +kernel
theorem dX12_ride_73 : decode cX12_ride 73 = .ok (.ireturn, 1) := by decide +kernel
theorem dX12_ride_74 : decode cX12_ride 74 = .ok (.aload_n 0, 1) := by decide +kernel
theorem dX12_ride_75 : decode cX12_ride 75 = .ok (.getfield 9, 3) := by decide +kernel
theorem dX12_ride_78 : decode cX12_ride 78 = .ok (.iconst 1, 1) := by decide +kernel
theorem dX12_ride_79 : decode cX12_ride 79 = .ok (.iaload, 1) := by decide +kernel
theorem dX12_ride_80 : decode cX12_ride 80 = .ok (.istore 4, 2) := by decide +kernel
theorem dX12_ride_82 : decode cX12_ride 82 = .ok (.iload 4, 2) := by decide +kernel
theorem dX12_ride_84 : decode cX12_ride 84 = .ok (.bipush 8, 2) := by decide +kernel
theorem dX12_ride_86 : decode cX12_ride 86 = .ok (.if_icmp .ne 10, 3) := by decide +kernel
theorem dX12_ride_89 : decode cX12_ride 89 = .ok (.aload_n 0, 1) := by decide +kernel
theorem dX12_ride_90 : decode cX12_ride 90 = .ok (.ldc 138, 2) := by decide +kernel
theorem dX12_ride_92 : decode cX12_ride 92 = .ok (.invokevirtual 91, 3) := by decide +kernel
theorem dX12_ride_95 : decode cX12_ride 95 = .ok (.ireturn, 1) := by decide +kernel
theorem dX12_ride_96 : decode cX12_ride 96 = .ok (.iconst 0, 1) := by decide +kernel
theorem dX12_ride_97 : decode cX12_ride 97 = .ok (.istore 5, 2) := by decide +kernel
theorem dX12_ride_99 : decode cX12_ride 99 = .ok (.iload 5, 2) := by decide +kernel
theorem dX12_ride_101 : decode cX12_ride 101 = .ok (.bipush 7, 2) := by decide +kernel
theorem dX12_ride_103 : decode cX12_ride 103 = .ok (.if_icmp .ge 18, 3) := by decide +kernel
theorem dX12_ride_106 : decode cX12_ride 106 = .ok (.aload_n 0, 1) := by decide +kernel
theorem dX12_ride_107 : decode cX12_ride 107 = .ok (.iload 4, 2) := by decide +kernel
theorem dX12_ride_109 : decode cX12_ride 109 = .ok (.iload 5, 2) := by decide +kernel
theorem dX12_ride_111 : decode cX12_ride 111 = .ok (.iconst 0, 1) := by decide +kernel
theorem dX12_ride_112 : decode cX12_ride 112 = .ok (.invokevirtual 101, 3) := by decide +kernel
theorem dX12_ride_115 : decode cX12_ride 115 = .ok (.iinc 5 1, 3) := by decide +kernel
theorem dX12_ride_118 : decode cX12_ride 118 = .ok (.goto (-19), 3) := by decide +kernel
theorem dX12_ride_121 : decode cX12_ride 121 = .ok (.aload_n 0, 1) := by decide +kernel
theorem dX12_ride_122 : decode cX12_ride 122 = .ok (.iload 4, 2) := by decide +kernel
theorem dX12_ride_124 : decode cX12_ride 124 = .ok (.iconst 0, 1) := by decide +kernel
theorem dX12_ride_125 : decode cX12_ride 125 = .ok (.iload_n 1, 1) := by decide +kernel
theorem dX12_ride_126 : decode cX12_ride 126 = .ok (.invokevirtual 101, 3) := by decide +kernel
theorem dX12_ride_129 : decode cX12_ride 129 = .ok (.aload_n 0, 1) := by decide +kernel
theorem dX12_ride_130 : decode cX12_ride 130 = .ok (.iload 4, 2) := by decide +kernel
theorem dX12_ride_132 : decode cX12_ride 132 = .ok (.iconst 1, 1) := by decide +kernel
theorem dX12_ride_133 : decode cX12_ride 133 = .ok (.iload_n 2, 1) := by decide +kernel
theorem dX12_ride_134 : decode cX12_ride 134 = .ok (.invokevirtual 101, 3) := by decide +kernel
theorem dX12_ride_137 : decode cX12_ride 137 = .ok (.aload_n 0, 1) := by decide +kernel
theorem dX12_ride_138 : decode cX12_ride 138 = .ok (.iload 4, 2) := by decide +kernel
theorem dX12_ride_140 : decode cX12_ride 140 = .ok (.iconst 2, 1) := by decide +kernel
theorem dX12_ride_141 : decode cX12_ride 141 = .ok (.iload_n 3, 1) := by decide +kernel
theorem dX12_ride_142 : decode cX12_ride 142 = .ok (.invokevirtual 101, 3) := by decide +kernel
theorem dX12_ride_145 : decode cX12_ride 145 = .ok (.aload_n 0, 1) := by decide +kernel
theorem dX12_ride_146 : decode cX12_ride 146 = .ok (.getfield 9, 3) := by decide +kernel
theorem dX12_ride_149 : decode cX12_ride 149 = .ok (.iconst 1, 1) := by decide +kernel
theorem dX12_ride_150 : decode cX12_ride 150 = .ok (.dup2, 1) := by decide +kernel
theorem dX12_ride_151 : decode cX12_ride 151 = .ok (.iaload, 1) := by decide +kernel
theorem dX12_ride_152 : decode cX12_ride 152 = .ok (.iconst 1, 1) := by decide +kernel
theorem dX12_ride_153 : decode cX12_ride 153 = .ok (.iadd, 1) := by decide +kernel
theorem dX12_ride_154 : decode cX12_ride 154 = .ok (.iastore, 1) := by decide +kernel
theorem dX12_ride_155 : decode cX12_ride 155 = .ok (.iload 4, 2) := by decide +kernel
theorem dX12_ride_157 : decode cX12_ride 157 = .ok (.ireturn, 1) := by decide +kernel
theorem dX12_rideTold_0 : decode cX12_rideTold 0 = .ok (.iload_n 2, 1) := by decide +kernel
theorem dX12_rideTold_1 : decode cX12_rideTold 1 = .ok (.bipush 7, 2) := by decide +kernel
theorem dX12_rideTold_3 : decode cX12_rideTold 3 = .ok (.if_icmp .ge 12, 3) := by decide +kernel
theorem dX12_rideTold_6 : decode cX12_rideTold 6 = .ok (.aload_n 0, 1) := by decide +kernel
theorem dX12_rideTold_7 : decode cX12_rideTold 7 = .ok (.iload_n 1, 1) := by decide +kernel
theorem dX12_rideTold_8 : decode cX12_rideTold 8 = .ok (.iload_n 2, 1) := by decide +kernel
theorem dX12_rideTold_9 : decode cX12_rideTold 9 = .ok (.invokevirtual 98, 3) := by decide +kernel
theorem dX12_rideTold_12 : decode cX12_rideTold 12 = .ok (.goto 22, 3) := by decide +kernel
theorem dX12_rideTold_15 : decode cX12_rideTold 15 = .ok (.iload_n 2, 1) := by decide +kernel
theorem dX12_rideTold_16 : decode cX12_rideTold 16 = .ok (.bipush 7, 2) := by decide +kernel
theorem dX12_rideTold_18 : decode cX12_rideTold 18 = .ok (.if_icmp .ne 11, 3) := by decide +kernel
theorem dX12_rideTold_21 : decode cX12_rideTold 21 = .ok (.aload_n 0, 1) := by decide +kernel
theorem dX12_rideTold_22 : decode cX12_rideTold 22 = .ok (.iload_n 1, 1) := by decide +kernel
theorem dX12_rideTold_23 : decode cX12_rideTold 23 = .ok (.invokevirtual 142, 3) := by decide +kernel
theorem dX12_rideTold_26 : decode cX12_rideTold 26 = .ok (.goto 8, 3) := by decide +kernel
theorem dX12_rideTold_29 : decode cX12_rideTold 29 = .ok (.aload_n 0, 1) := by decide +kernel
theorem dX12_rideTold_30 : decode cX12_rideTold 30 = .ok (.iload_n 1, 1) := by decide +kernel
theorem dX12_rideTold_31 : decode cX12_rideTold 31 = .ok (.invokevirtual 145, 3) := by decide +kernel
theorem dX12_rideTold_34 : decode cX12_rideTold 34 = .ok (.ireturn, 1) := by decide +kernel
theorem dX12_rubsOf_0 : decode cX12_rubsOf 0 = .ok (.aload_n 0, 1) := by decide +kernel
theorem dX12_rubsOf_1 : decode cX12_rubsOf 1 = .ok (.iload_n 1, 1) := by decide +kernel
theorem dX12_rubsOf_2 : decode cX12_rubsOf 2 = .ok (.iconst 0, 1) := by decide +kernel
theorem dX12_rubsOf_3 : decode cX12_rubsOf 3 = .ok (.invokevirtual 98, 3) := by decide +kernel
theorem dX12_rubsOf_6 : decode cX12_rubsOf 6 = .ok (.bipush 6, 2) := by decide +kernel
theorem dX12_rubsOf_8 : decode cX12_rubsOf 8 = .ok (.if_icmp .ne 15, 3) := by decide +kernel
theorem dX12_rubsOf_11 : decode cX12_rubsOf 11 = .ok (.aload_n 0, 1) := by decide +kernel
theorem dX12_rubsOf_12 : decode cX12_rubsOf 12 = .ok (.getfield 9, 3) := by decide +kernel
theorem dX12_rubsOf_15 : decode cX12_rubsOf 15 = .ok (.bipush 13, 2) := by decide +kernel
theorem dX12_rubsOf_17 : decode cX12_rubsOf 17 = .ok (.iaload, 1) := by decide +kernel
theorem dX12_rubsOf_18 : decode cX12_rubsOf 18 = .ok (.iconst 2, 1) := by decide +kernel
theorem dX12_rubsOf_19 : decode cX12_rubsOf 19 = .ok (.idiv, 1) := by decide +kernel
theorem dX12_rubsOf_20 : decode cX12_rubsOf 20 = .ok (.goto 10, 3) := by decide +kernel
theorem dX12_rubsOf_23 : decode cX12_rubsOf 23 = .ok (.aload_n 0, 1) := by decide +kernel
theorem dX12_rubsOf_24 : decode cX12_rubsOf 24 = .ok (.getfield 9, 3) := by decide +kernel
theorem dX12_rubsOf_27 : decode cX12_rubsOf 27 = .ok (.bipush 13, 2) := by decide +kernel
theorem dX12_rubsOf_29 : decode cX12_rubsOf 29 = .ok (.iaload, 1) := by decide +kernel
theorem dX12_rubsOf_30 : decode cX12_rubsOf 30 = .ok (.ireturn, 1) := by decide +kernel
theorem dX12_seed_0 : decode cX12_seed 0 = .ok (.aload_n 0, 1) := by decide +kernel
theorem dX12_seed_1 : decode cX12_seed 1 = .ok (.bipush 6, 2) := by decide +kernel
theorem dX12_seed_3 : decode cX12_seed 3 = .ok (.iload_n 1, 1) := by decide +kernel
theorem dX12_seed_4 : decode cX12_seed 4 = .ok (.invokevirtual 95, 3) := by decide +kernel
theorem dX12_seed_7 : decode cX12_seed 7 = .ok (.ireturn, 1) := by decide +kernel
theorem dX12_sheet_0 : decode cX12_sheet 0 = .ok (.iload_n 1, 1) := by decide +kernel
theorem dX12_sheet_1 : decode cX12_sheet 1 = .ok (.invokestatic 266, 3) := by decide +kernel
theorem dX12_sheet_4 : decode cX12_sheet 4 = .ok (.ifCond .eq 25, 3) := by decide +kernel
theorem dX12_sheet_7 : decode cX12_sheet 7 = .ok (.iload_n 2, 1) := by decide +kernel
theorem dX12_sheet_8 : decode cX12_sheet 8 = .ok (.ifCond .eq 28, 3) := by decide +kernel
theorem dX12_sheet_11 : decode cX12_sheet 11 = .ok (.iload_n 2, 1) := by decide +kernel
theorem dX12_sheet_12 : decode cX12_sheet 12 = .ok (.bipush 8, 2) := by decide +kernel
theorem dX12_sheet_14 : decode cX12_sheet 14 = .ok (.if_icmp .eq 22, 3) := by decide +kernel
theorem dX12_sheet_17 : decode cX12_sheet 17 = .ok (.iload_n 2, 1) := by decide +kernel
theorem dX12_sheet_18 : decode cX12_sheet 18 = .ok (.bipush 16, 2) := by decide +kernel
theorem dX12_sheet_20 : decode cX12_sheet 20 = .ok (.if_icmp .eq 16, 3) := by decide +kernel
theorem dX12_sheet_23 : decode cX12_sheet 23 = .ok (.iload_n 2, 1) := by decide +kernel
theorem dX12_sheet_24 : decode cX12_sheet 24 = .ok (.bipush 32, 2) := by decide +kernel
theorem dX12_sheet_26 : decode cX12_sheet 26 = .ok (.if_icmp .eq 10, 3) := by decide +kernel
theorem dX12_sheet_29 : decode cX12_sheet 29 = .ok (.aload_n 0, 1) := by decide +kernel
theorem dX12_sheet_30 : decode cX12_sheet 30 = .ok (.ldc 90, 2) := by decide +kernel
theorem dX12_sheet_32 : decode cX12_sheet 32 = .ok (.invokevirtual 91, 3) := by decide +kernel
theorem dX12_sheet_35 : decode cX12_sheet 35 = .ok (.ireturn, 1) := by decide +kernel
theorem dX12_sheet_36 : decode cX12_sheet 36 = .ok (.iload_n 2, 1) := by decide +kernel
theorem dX12_sheet_37 : decode cX12_sheet 37 = .ok (.ifCond .eq 14, 3) := by decide +kernel
theorem dX12_sheet_40 : decode cX12_sheet 40 = .ok (.iload_n 3, 1) := by decide +kernel
theorem dX12_sheet_41 : decode cX12_sheet 41 = .ok (.ifCond .ge 10, 3) := by decide +kernel
theorem dX12_sheet_44 : decode cX12_sheet 44 = .ok (.aload_n 0, 1) := by decide +kernel
theorem dX12_sheet_45 : decode cX12_sheet 45 = .ok (.ldc 137, 2) := by decide +kernel
theorem dX12_sheet_47 : decode cX12_sheet 47 = .ok (.invokevirtual 91, 3) := by decide +kernel
theorem dX12_sheet_50 : decode cX12_sheet 50 = .ok (.ireturn, 1) := by decide +kernel
theorem dX12_sheet_51 : decode cX12_sheet 51 = .ok (.iload_n 2, 1) := by decide +kernel
theorem dX12_sheet_52 : decode cX12_sheet 52 = .ok (.ifCond .eq 16, 3) := by decide +kernel
theorem dX12_sheet_55 : decode cX12_sheet 55 = .ok (.iload_n 3, 1) := by decide +kernel
theorem dX12_sheet_56 : decode cX12_sheet 56 = .ok (.bipush 40, 2) := by decide +kernel
theorem dX12_sheet_58 : decode cX12_sheet 58 = .ok (.if_icmp .le 10, 3) := by decide +kernel
theorem dX12_sheet_61 : decode cX12_sheet 61 = .ok (.aload_n 0, 1) := by decide +kernel
theorem dX12_sheet_62 : decode cX12_sheet 62 = .ok (.ldc 90, 2) := by decide +kernel
theorem dX12_sheet_64 : decode cX12_sheet 64 = .ok (.invokevirtual 91, 3) := by decide +kernel
theorem dX12_sheet_67 : decode cX12_sheet 67 = .ok (.ireturn, 1) := by decide +kernel
theorem dX12_sheet_68 : decode cX12_sheet 68 = .ok (.aload_n 0, 1) := by decide +kernel
theorem dX12_sheet_69 : decode cX12_sheet 69 = .ok (.getfield 60, 3) := by decide +kernel
theorem dX12_sheet_72 : decode cX12_sheet 72 = .ok (.iload_n 1, 1) := by decide +kernel
theorem dX12_sheet_73 : decode cX12_sheet 73 = .ok (.iload_n 2, 1) := by decide +kernel
theorem dX12_sheet_74 : decode cX12_sheet 74 = .ok (.iastore, 1) := by decide +kernel
theorem dX12_sheet_75 : decode cX12_sheet 75 = .ok (.aload_n 0, 1) := by decide +kernel
theorem dX12_sheet_76 : decode cX12_sheet 76 = .ok (.getfield 63, 3) := by decide +kernel
theorem dX12_sheet_79 : decode cX12_sheet 79 = .ok (.iload_n 1, 1) := by decide +kernel
theorem dX12_sheet_80 : decode cX12_sheet 80 = .ok (.iload_n 2, 1) := by decide +kernel
theorem dX12_sheet_81 : decode cX12_sheet 81 = .ok (.ifCond .ne 7, 3) := by decide +kernel
theorem dX12_sheet_84 : decode cX12_sheet 84 = .ok (.iconst 0, 1) := by decide +kernel
theorem dX12_sheet_85 : decode cX12_sheet 85 = .ok (.goto 4, 3) := by decide +kernel
theorem dX12_sheet_88 : decode cX12_sheet 88 = .ok (.iload_n 3, 1) := by decide +kernel
theorem dX12_sheet_89 : decode cX12_sheet 89 = .ok (.iastore, 1) := by decide +kernel
theorem dX12_sheet_90 : decode cX12_sheet 90 = .ok (.iconst 0, 1) := by decide +kernel
theorem dX12_sheet_91 : decode cX12_sheet 91 = .ok (.istore 4, 2) := by decide +kernel
theorem dX12_sheet_93 : decode cX12_sheet 93 = .ok (.iload 4, 2) := by decide +kernel
theorem dX12_sheet_95 : decode cX12_sheet 95 = .ok (.bipush 40, 2) := by decide +kernel
theorem dX12_sheet_97 : decode cX12_sheet 97 = .ok (.if_icmp .ge 22, 3) := by decide +kernel
theorem dX12_sheet_100 : decode cX12_sheet 100 = .ok (.aload_n 0, 1) := by decide +kernel
theorem dX12_sheet_101 : decode cX12_sheet 101 = .ok (.getfield 66, 3) := by decide +kernel
theorem dX12_sheet_104 : decode cX12_sheet 104 = .ok (.bipush 40, 2) := by decide +kernel
theorem dX12_sheet_106 : decode cX12_sheet 106 = .ok (.iload_n 1, 1) := by decide +kernel
theorem dX12_sheet_107 : decode cX12_sheet 107 = .ok (.imul, 1) := by decide +kernel
theorem dX12_sheet_108 : decode cX12_sheet 108 = .ok (.iload 4, 2) := by decide +kernel
theorem dX12_sheet_110 : decode cX12_sheet 110 = .ok (.iadd, 1) := by decide +kernel
theorem dX12_sheet_111 : decode cX12_sheet 111 = .ok (.iconst 0, 1) := by decide +kernel
theorem dX12_sheet_112 : decode cX12_sheet 112 = .ok (.iastore, 1) := by decide +kernel
theorem dX12_sheet_113 : decode cX12_sheet 113 = .ok (.iinc 4 1, 3) := by decide +kernel
theorem dX12_sheet_116 : decode cX12_sheet 116 = .ok (.goto (-23), 3) := by decide +kernel
theorem dX12_sheet_119 : decode cX12_sheet 119 = .ok (.iconst 1, 1) := by decide +kernel
theorem dX12_sheet_120 : decode cX12_sheet 120 = .ok (.ireturn, 1) := by decide +kernel
theorem dX12_snug_0 : decode cX12_snug 0 = .ok (.aload_n 0, 1) := by decide +kernel
theorem dX12_snug_1 : decode cX12_snug 1 = .ok (.iload_n 1, 1) := by decide +kernel
theorem dX12_snug_2 : decode cX12_snug 2 = .ok (.iconst 1, 1) := by decide +kernel
theorem dX12_snug_3 : decode cX12_snug 3 = .ok (.invokevirtual 148, 3) := by decide +kernel
theorem dX12_snug_6 : decode cX12_snug 6 = .ok (.ifCond .eq 24, 3) := by decide +kernel
theorem dX12_snug_9 : decode cX12_snug 9 = .ok (.iload_n 2, 1) := by decide +kernel
theorem dX12_snug_10 : decode cX12_snug 10 = .ok (.iconst 1, 1) := by decide +kernel
theorem dX12_snug_11 : decode cX12_snug 11 = .ok (.bipush 60, 2) := by decide +kernel
theorem dX12_snug_13 : decode cX12_snug 13 = .ok (.invokestatic 86, 3) := by decide +kernel
theorem dX12_snug_16 : decode cX12_snug 16 = .ok (.ifCond .eq 14, 3) := by decide +kernel
theorem dX12_snug_19 : decode cX12_snug 19 = .ok (.iload_n 3, 1) := by decide +kernel
theorem dX12_snug_20 : decode cX12_snug 20 = .ok (.iconst 1, 1) := by decide +kernel
theorem dX12_snug_21 : decode cX12_snug 21 = .ok (.sipush 300, 3) := by decide +kernel
theorem dX12_snug_24 : decode cX12_snug 24 = .ok (.invokestatic 86, 3) := by decide +kernel
theorem dX12_snug_27 : decode cX12_snug 27 = .ok (.ifCond .ne 10, 3) := by decide +kernel
theorem dX12_snug_30 : decode cX12_snug 30 = .ok (.aload_n 0, 1) := by decide +kernel
theorem dX12_snug_31 : decode cX12_snug 31 = .ok (.ldc 90, 2) := by decide +kernel
theorem dX12_snug_33 : decode cX12_snug 33 = .ok (.invokevirtual 91, 3) := by decide +kernel
theorem dX12_snug_36 : decode cX12_snug 36 = .ok (.ireturn, 1) := by decide +kernel
theorem dX12_snug_37 : decode cX12_snug 37 = .ok (.aload_n 0, 1) := by decide +kernel
theorem dX12_snug_38 : decode cX12_snug 38 = .ok (.iload_n 1, 1) := by decide +kernel
theorem dX12_snug_39 : decode cX12_snug 39 = .ok (.invokevirtual 228, 3) := by decide +kernel
theorem dX12_snug_42 : decode cX12_snug 42 = .ok (.ifCond .eq 12, 3) := by decide +kernel
theorem dX12_snug_45 : decode cX12_snug 45 = .ok (.aload_n 0, 1) := by decide +kernel
theorem dX12_snug_46 : decode cX12_snug 46 = .ok (.ldc 137, 2) := by decide +kernel
theorem dX12_snug_48 : decode cX12_snug 48 = .ok (.invokevirtual 91, 3) := by decide +kernel
theorem dX12_snug_51 : decode cX12_snug 51 = .ok (.goto 19, 3) := by decide +kernel
theorem dX12_snug_54 : decode cX12_snug 54 = .ok (.aload_n 0, 1) := by decide +kernel
theorem dX12_snug_55 : decode cX12_snug 55 = .ok (.iload_n 1, 1) := by decide +kernel
theorem dX12_snug_56 : decode cX12_snug 56 = .ok (.iload_n 2, 1) := by decide +kernel
theorem dX12_snug_57 : decode cX12_snug 57 = .ok (.iload_n 3, 1) := by decide +kernel
theorem dX12_snug_58 : decode cX12_snug 58 = .ok (.bipush 9, 2) := by decide +kernel
theorem dX12_snug_60 : decode cX12_snug 60 = .ok (.bipush 100, 2) := by decide +kernel
theorem dX12_snug_62 : decode cX12_snug 62 = .ok (.sipush 9900, 3) := by decide +kernel
theorem dX12_snug_65 : decode cX12_snug 65 = .ok (.bipush 100, 2) := by decide +kernel
theorem dX12_snug_67 : decode cX12_snug 67 = .ok (.invokevirtual 256, 3) := by decide +kernel
theorem dX12_snug_70 : decode cX12_snug 70 = .ok (.ireturn, 1) := by decide +kernel
theorem dX12_spins_0 : decode cX12_spins 0 = .ok (.aload_n 0, 1) := by decide +kernel
theorem dX12_spins_1 : decode cX12_spins 1 = .ok (.getfield 9, 3) := by decide +kernel
theorem dX12_spins_4 : decode cX12_spins 4 = .ok (.iconst 2, 1) := by decide +kernel
theorem dX12_spins_5 : decode cX12_spins 5 = .ok (.iaload, 1) := by decide +kernel
theorem dX12_spins_6 : decode cX12_spins 6 = .ok (.istore_n 3, 1) := by decide +kernel
theorem dX12_spins_7 : decode cX12_spins 7 = .ok (.aload_n 0, 1) := by decide +kernel
theorem dX12_spins_8 : decode cX12_spins 8 = .ok (.getfield 9, 3) := by decide +kernel
theorem dX12_spins_11 : decode cX12_spins 11 = .ok (.bipush 72, 2) := by decide +kernel
theorem dX12_spins_13 : decode cX12_spins 13 = .ok (.iconst 2, 1) := by decide +kernel
theorem dX12_spins_14 : decode cX12_spins 14 = .ok (.iload_n 3, 1) := by decide +kernel
theorem dX12_spins_15 : decode cX12_spins 15 = .ok (.imul, 1) := by decide +kernel
theorem dX12_spins_16 : decode cX12_spins 16 = .ok (.iadd, 1) := by decide +kernel
theorem dX12_spins_17 : decode cX12_spins 17 = .ok (.iload_n 1, 1) := by decide +kernel
theorem dX12_spins_18 : decode cX12_spins 18 = .ok (.iastore, 1) := by decide +kernel
theorem dX12_spins_19 : decode cX12_spins 19 = .ok (.aload_n 0, 1) := by decide +kernel
theorem dX12_spins_20 : decode cX12_spins 20 = .ok (.getfield 9, 3) := by decide +kernel
theorem dX12_spins_23 : decode cX12_spins 23 = .ok (.bipush 72, 2) := by decide +kernel
theorem dX12_spins_25 : decode cX12_spins 25 = .ok (.iconst 2, 1) := by decide +kernel
theorem dX12_spins_26 : decode cX12_spins 26 = .ok (.iload_n 3, 1) := by decide +kernel
theorem dX12_spins_27 : decode cX12_spins 27 = .ok (.imul, 1) := by decide +kernel
theorem dX12_spins_28 : decode cX12_spins 28 = .ok (.iadd, 1) := by decide +kernel
theorem dX12_spins_29 : decode cX12_spins 29 = .ok (.iconst 1, 1) := by decide +kernel
theorem dX12_spins_30 : decode cX12_spins 30 = .ok (.iadd, 1) := by decide +kernel
theorem dX12_spins_31 : decode cX12_spins 31 = .ok (.iload_n 2, 1) := by decide +kernel
theorem dX12_spins_32 : decode cX12_spins 32 = .ok (.iastore, 1) := by decide +kernel
theorem dX12_spins_33 : decode cX12_spins 33 = .ok (.aload_n 0, 1) := by decide +kernel
theorem dX12_spins_34 : decode cX12_spins 34 = .ok (.getfield 9, 3) := by decide +kernel
theorem dX12_spins_37 : decode cX12_spins 37 = .ok (.iconst 2, 1) := by decide +kernel
theorem dX12_spins_38 : decode cX12_spins 38 = .ok (.dup2, 1) := by decide +kernel
theorem dX12_spins_39 : decode cX12_spins 39 = .ok (.iaload, 1) := by decide +kernel
theorem dX12_spins_40 : decode cX12_spins 40 = .ok (.iconst 1, 1) := by decide +kernel
theorem dX12_spins_41 : decode cX12_spins 41 = .ok (.iadd, 1) := by decide +kernel
theorem dX12_spins_42 : decode cX12_spins 42 = .ok (.iastore, 1) := by decide +kernel
theorem dX12_spins_43 : decode cX12_spins 43 = .ok (.iload_n 3, 1) := by decide +kernel
theorem dX12_spins_44 : decode cX12_spins 44 = .ok (.ireturn, 1) := by decide +kernel
theorem dX12_stands_0 : decode cX12_stands 0 = .ok (.aload_n 0, 1) := by decide +kernel
theorem dX12_stands_1 : decode cX12_stands 1 = .ok (.iload_n 1, 1) := by decide +kernel
theorem dX12_stands_2 : decode cX12_stands 2 = .ok (.iconst 1, 1) := by decide +kernel
theorem dX12_stands_3 : decode cX12_stands 3 = .ok (.invokevirtual 148, 3) := by decide +kernel
theorem dX12_stands_6 : decode cX12_stands 6 = .ok (.ifCond .ne 10, 3) := by decide +kernel
theorem dX12_stands_9 : decode cX12_stands 9 = .ok (.aload_n 0, 1) := by decide +kernel
theorem dX12_stands_10 : decode cX12_stands 10 = .ok (.ldc 90, 2) := by decide +kernel
theorem dX12_stands_12 : decode cX12_stands 12 = .ok (.invokevirtual 91, 3) := by decide +kernel
theorem dX12_stands_15 : decode cX12_stands 15 = .ok (.ireturn, 1) := by decide +kernel
theorem dX12_stands_16 : decode cX12_stands 16 = .ok (.aload_n 0, 1) := by decide +kernel
theorem dX12_stands_17 : decode cX12_stands 17 = .ok (.getfield 9, 3) := by decide +kernel
theorem dX12_stands_20 : decode cX12_stands 20 = .ok (.aload_n 0, 1) := by decide +kernel
theorem dX12_stands_21 : decode cX12_stands 21 = .ok (.getfield 16, 3) := by decide +kernel
theorem dX12_stands_24 : decode cX12_stands 24 = .ok (.invokestatic 82, 3) := by decide +kernel
theorem dX12_stands_27 : decode cX12_stands 27 = .ok (.iconst (-1), 1) := by decide +kernel
theorem dX12_stands_28 : decode cX12_stands 28 = .ok (.istore_n 2, 1) := by decide +kernel
theorem dX12_stands_29 : decode cX12_stands 29 = .ok (.iconst 1, 1) := by decide +kernel
theorem dX12_stands_30 : decode cX12_stands 30 = .ok (.istore_n 3, 1) := by decide +kernel
theorem dX12_stands_31 : decode cX12_stands 31 = .ok (.iload_n 3, 1) := by decide +kernel
theorem dX12_stands_32 : decode cX12_stands 32 = .ok (.sipush 200, 3) := by decide +kernel
theorem dX12_stands_35 : decode cX12_stands 35 = .ok (.if_icmp .gt 69, 3) := by decide +kernel
theorem dX12_stands_38 : decode cX12_stands 38 = .ok (.iload_n 2, 1) := by decide +kernel
theorem dX12_stands_39 : decode cX12_stands 39 = .ok (.ifCond .ge 65, 3) := by decide +kernel
theorem dX12_stands_42 : decode cX12_stands 42 = .ok (.aload_n 0, 1) := by decide +kernel
theorem dX12_stands_43 : decode cX12_stands 43 = .ok (.iload_n 1, 1) := by decide +kernel
theorem dX12_stands_44 : decode cX12_stands 44 = .ok (.iconst 3, 1) := by decide +kernel
theorem dX12_stands_45 : decode cX12_stands 45 = .ok (.invokevirtual 98, 3) := by decide +kernel
theorem dX12_stands_48 : decode cX12_stands 48 = .ok (.istore 4, 2) := by decide +kernel
theorem dX12_stands_50 : decode cX12_stands 50 = .ok (.aload_n 0, 1) := by decide +kernel
theorem dX12_stands_51 : decode cX12_stands 51 = .ok (.iload_n 1, 1) := by decide +kernel
theorem dX12_stands_52 : decode cX12_stands 52 = .ok (.iconst 4, 1) := by decide +kernel
theorem dX12_stands_53 : decode cX12_stands 53 = .ok (.invokevirtual 98, 3) := by decide +kernel
theorem dX12_stands_56 : decode cX12_stands 56 = .ok (.istore 5, 2) := by decide +kernel
theorem dX12_stands_58 : decode cX12_stands 58 = .ok (.aload_n 0, 1) := by decide +kernel
theorem dX12_stands_59 : decode cX12_stands 59 = .ok (.invokevirtual 234, 3) := by decide +kernel
theorem dX12_stands_62 : decode cX12_stands 62 = .ok (.aload_n 0, 1) := by decide +kernel
theorem dX12_stands_63 : decode cX12_stands 63 = .ok (.iload_n 1, 1) := by decide +kernel
theorem dX12_stands_64 : decode cX12_stands 64 = .ok (.invokevirtual 228, 3) := by decide +kernel
theorem dX12_stands_67 : decode cX12_stands 67 = .ok (.ifCond .ne 29, 3) := by decide +kernel
theorem dX12_stands_70 : decode cX12_stands 70 = .ok (.aload_n 0, 1) := by decide +kernel
theorem dX12_stands_71 : decode cX12_stands 71 = .ok (.iload_n 1, 1) := by decide +kernel
theorem dX12_stands_72 : decode cX12_stands 72 = .ok (.iconst 3, 1) := by decide +kernel
theorem dX12_stands_73 : decode cX12_stands 73 = .ok (.invokevirtual 98, 3) := by decide +kernel
theorem dX12_stands_76 : decode cX12_stands 76 = .ok (.iload 4, 2) := by decide +kernel
theorem dX12_stands_78 : decode cX12_stands 78 = .ok (.if_icmp .ne 18, 3) := by decide +kernel
theorem dX12_stands_81 : decode cX12_stands 81 = .ok (.aload_n 0, 1) := by decide +kernel
theorem dX12_stands_82 : decode cX12_stands 82 = .ok (.iload_n 1, 1) := by decide +kernel
theorem dX12_stands_83 : decode cX12_stands 83 = .ok (.iconst 4, 1) := by decide +kernel
theorem dX12_stands_84 : decode cX12_stands 84 = .ok (.invokevirtual 98, 3) := by decide +kernel
theorem dX12_stands_87 : decode cX12_stands 87 = .ok (.iload 5, 2) := by decide +kernel
theorem dX12_stands_89 : decode cX12_stands 89 = .ok (.if_icmp .ne 7, 3) := by decide +kernel
theorem dX12_stands_92 : decode cX12_stands 92 = .ok (.iload_n 3, 1) := by decide +kernel
theorem dX12_stands_93 : decode cX12_stands 93 = .ok (.goto 4, 3) := by decide +kernel
theorem dX12_stands_96 : decode cX12_stands 96 = .ok (.iconst (-1), 1) := by decide +kernel
theorem dX12_stands_97 : decode cX12_stands 97 = .ok (.istore_n 2, 1) := by decide +kernel
theorem dX12_stands_98 : decode cX12_stands 98 = .ok (.iinc 3 1, 3) := by decide +kernel
theorem dX12_stands_101 : decode cX12_stands 101 = .ok (.goto (-70), 3) := by decide +kernel
theorem dX12_stands_104 : decode cX12_stands 104 = .ok (.aload_n 0, 1) := by decide +kernel
theorem dX12_stands_105 : decode cX12_stands 105 = .ok (.getfield 16, 3) := by decide +kernel
theorem dX12_stands_108 : decode cX12_stands 108 = .ok (.aload_n 0, 1) := by decide +kernel
theorem dX12_stands_109 : decode cX12_stands 109 = .ok (.getfield 9, 3) := by decide +kernel
theorem dX12_stands_112 : decode cX12_stands 112 = .ok (.invokestatic 82, 3) := by decide +kernel
theorem dX12_stands_115 : decode cX12_stands 115 = .ok (.iload_n 2, 1) := by decide +kernel
theorem dX12_stands_116 : decode cX12_stands 116 = .ok (.ifCond .ge 12, 3) := by decide +kernel
theorem dX12_stands_119 : decode cX12_stands 119 = .ok (.aload_n 0, 1) := by decide +kernel
theorem dX12_stands_120 : decode cX12_stands 120 = .ok (.ldc 132, 2) := by decide +kernel
theorem dX12_stands_122 : decode cX12_stands 122 = .ok (.invokevirtual 91, 3) := by decide +kernel
theorem dX12_stands_125 : decode cX12_stands 125 = .ok (.goto 4, 3) := by decide +kernel
theorem dX12_stands_128 : decode cX12_stands 128 = .ok (.iload_n 2, 1) := by decide +kernel
theorem dX12_stands_129 : decode cX12_stands 129 = .ok (.ireturn, 1) := by decide +kernel
theorem dX12_start_0 : decode cX12_start 0 = .ok (.aload_n 0, 1) := by decide +kernel
theorem dX12_start_1 : decode cX12_start 1 = .ok (.iload_n 1, 1) := by decide +kernel
theorem dX12_start_2 : decode cX12_start 2 = .ok (.iconst 1, 1) := by decide +kernel
theorem dX12_start_3 : decode cX12_start 3 = .ok (.invokevirtual 148, 3) := by decide +kernel
theorem dX12_start_6 : decode cX12_start 6 = .ok (.ifCond .eq 34, 3) := by decide +kernel
theorem dX12_start_9 : decode cX12_start 9 = .ok (.iload_n 2, 1) := by decide +kernel
theorem dX12_start_10 : decode cX12_start 10 = .ok (.iconst 0, 1) := by decide +kernel
theorem dX12_start_11 : decode cX12_start 11 = .ok (.bipush 10, 2) := by decide +kernel
theorem dX12_start_13 : decode cX12_start 13 = .ok (.aload_n 0, 1) := by decide +kernel
theorem dX12_start_14 : decode cX12_start 14 = .ok (.getfield 9, 3) := by decide +kernel
theorem dX12_start_17 : decode cX12_start 17 = .ok (.bipush 7, 2) := by decide +kernel
theorem dX12_start_19 : decode cX12_start 19 = .ok (.iaload, 1) := by decide +kernel
theorem dX12_start_20 : decode cX12_start 20 = .ok (.imul, 1) := by decide +kernel
theorem dX12_start_21 : decode cX12_start 21 = .ok (.invokestatic 86, 3) := by decide +kernel
theorem dX12_start_24 : decode cX12_start 24 = .ok (.ifCond .eq 16, 3) := by decide +kernel
theorem dX12_start_27 : decode cX12_start 27 = .ok (.iload_n 3, 1) := by decide +kernel
theorem dX12_start_28 : decode cX12_start 28 = .ok (.sipush (-300), 3) := by decide +kernel
theorem dX12_start_31 : decode cX12_start 31 = .ok (.sipush 300, 3) := by decide +kernel
theorem dX12_start_34 : decode cX12_start 34 = .ok (.invokestatic 86, 3) := by decide +kernel
theorem dX12_start_37 : decode cX12_start 37 = .ok (.ifCond .ne 10, 3) := by decide +kernel
theorem dX12_start_40 : decode cX12_start 40 = .ok (.aload_n 0, 1) := by decide +kernel
theorem dX12_start_41 : decode cX12_start 41 = .ok (.ldc 90, 2) := by decide +kernel
theorem dX12_start_43 : decode cX12_start 43 = .ok (.invokevirtual 91, 3) := by decide +kernel
theorem dX12_start_46 : decode cX12_start 46 = .ok (.ireturn, 1) := by decide +kernel
theorem dX12_start_47 : decode cX12_start 47 = .ok (.aload_n 0, 1) := by decide +kernel
theorem dX12_start_48 : decode cX12_start 48 = .ok (.iload_n 1, 1) := by decide +kernel
theorem dX12_start_49 : decode cX12_start 49 = .ok (.iconst 3, 1) := by decide +kernel
theorem dX12_start_50 : decode cX12_start 50 = .ok (.invokevirtual 98, 3) := by decide +kernel
theorem dX12_start_53 : decode cX12_start 53 = .ok (.istore 4, 2) := by decide +kernel
theorem dX12_start_55 : decode cX12_start 55 = .ok (.aload_n 0, 1) := by decide +kernel
theorem dX12_start_56 : decode cX12_start 56 = .ok (.iload_n 1, 1) := by decide +kernel
theorem dX12_start_57 : decode cX12_start 57 = .ok (.iconst 3, 1) := by decide +kernel
theorem dX12_start_58 : decode cX12_start 58 = .ok (.iload_n 2, 1) := by decide +kernel
theorem dX12_start_59 : decode cX12_start 59 = .ok (.invokevirtual 101, 3) := by decide +kernel
theorem dX12_start_62 : decode cX12_start 62 = .ok (.aload_n 0, 1) := by decide +kernel
theorem dX12_start_63 : decode cX12_start 63 = .ok (.iload_n 1, 1) := by decide +kernel
theorem dX12_start_64 : decode cX12_start 64 = .ok (.iconst 4, 1) := by decide +kernel
theorem dX12_start_65 : decode cX12_start 65 = .ok (.iload_n 3, 1) := by decide +kernel
theorem dX12_start_66 : decode cX12_start 66 = .ok (.invokevirtual 101, 3) := by decide +kernel
theorem dX12_start_69 : decode cX12_start 69 = .ok (.aload_n 0, 1) := by decide +kernel
theorem dX12_start_70 : decode cX12_start 70 = .ok (.iload_n 1, 1) := by decide +kernel
theorem dX12_start_71 : decode cX12_start 71 = .ok (.iconst 5, 1) := by decide +kernel
theorem dX12_start_72 : decode cX12_start 72 = .ok (.iconst 0, 1) := by decide +kernel
theorem dX12_start_73 : decode cX12_start 73 = .ok (.invokevirtual 101, 3) := by decide +kernel
theorem dX12_start_76 : decode cX12_start 76 = .ok (.iload 4, 2) := by decide +kernel
theorem dX12_start_78 : decode cX12_start 78 = .ok (.ireturn, 1) := by decide +kernel
theorem dX12_steep_0 : decode cX12_steep 0 = .ok (.aload_n 0, 1) := by decide +kernel
theorem dX12_steep_1 : decode cX12_steep 1 = .ok (.iload_n 1, 1) := by decide +kernel
theorem dX12_steep_2 : decode cX12_steep 2 = .ok (.iload_n 2, 1) := by decide +kernel
theorem dX12_steep_3 : decode cX12_steep 3 = .ok (.invokevirtual 118, 3) := by decide +kernel
theorem dX12_steep_6 : decode cX12_steep 6 = .ok (.ifCond .eq 12, 3) := by decide +kernel
theorem dX12_steep_9 : decode cX12_steep 9 = .ok (.aload_n 0, 1) := by decide +kernel
theorem dX12_steep_10 : decode cX12_steep 10 = .ok (.iload_n 1, 1) := by decide +kernel
theorem dX12_steep_11 : decode cX12_steep 11 = .ok (.iload_n 2, 1) := by decide +kernel
theorem dX12_steep_12 : decode cX12_steep 12 = .ok (.invokevirtual 122, 3) := by decide +kernel
theorem dX12_steep_15 : decode cX12_steep 15 = .ok (.goto 9, 3) := by decide +kernel
theorem dX12_steep_18 : decode cX12_steep 18 = .ok (.aload_n 0, 1) := by decide +kernel
theorem dX12_steep_19 : decode cX12_steep 19 = .ok (.ldc 90, 2) := by decide +kernel
theorem dX12_steep_21 : decode cX12_steep 21 = .ok (.invokevirtual 91, 3) := by decide +kernel
theorem dX12_steep_24 : decode cX12_steep 24 = .ok (.ireturn, 1) := by decide +kernel
theorem dX12_steepOf_0 : decode cX12_steepOf 0 = .ok (.iload_n 1, 1) := by decide +kernel
theorem dX12_steepOf_1 : decode cX12_steepOf 1 = .ok (.aload_n 0, 1) := by decide +kernel
theorem dX12_steepOf_2 : decode cX12_steepOf 2 = .ok (.getfield 9, 3) := by decide +kernel
theorem dX12_steepOf_5 : decode cX12_steepOf 5 = .ok (.bipush 7, 2) := by decide +kernel
theorem dX12_steepOf_7 : decode cX12_steepOf 7 = .ok (.iaload, 1) := by decide +kernel
theorem dX12_steepOf_8 : decode cX12_steepOf 8 = .ok (.iconst 1, 1) := by decide +kernel
theorem dX12_steepOf_9 : decode cX12_steepOf 9 = .ok (.isub, 1) := by decide +kernel
theorem dX12_steepOf_10 : decode cX12_steepOf 10 = .ok (.invokestatic 73, 3) := by decide +kernel
theorem dX12_steepOf_13 : decode cX12_steepOf 13 = .ok (.istore_n 3, 1) := by decide +kernel
theorem dX12_steepOf_14 : decode cX12_steepOf 14 = .ok (.aload_n 0, 1) := by decide +kernel
theorem dX12_steepOf_15 : decode cX12_steepOf 15 = .ok (.iload_n 3, 1) := by decide +kernel
theorem dX12_steepOf_16 : decode cX12_steepOf 16 = .ok (.iconst 1, 1) := by decide +kernel
theorem dX12_steepOf_17 : decode cX12_steepOf 17 = .ok (.iadd, 1) := by decide +kernel
theorem dX12_steepOf_18 : decode cX12_steepOf 18 = .ok (.iload_n 2, 1) := by decide +kernel
theorem dX12_steepOf_19 : decode cX12_steepOf 19 = .ok (.invokevirtual 113, 3) := by decide +kernel
theorem dX12_steepOf_22 : decode cX12_steepOf 22 = .ok (.aload_n 0, 1) := by decide +kernel
theorem dX12_steepOf_23 : decode cX12_steepOf 23 = .ok (.iload_n 3, 1) := by decide +kernel
theorem dX12_steepOf_24 : decode cX12_steepOf 24 = .ok (.iload_n 2, 1) := by decide +kernel
theorem dX12_steepOf_25 : decode cX12_steepOf 25 = .ok (.invokevirtual 113, 3) := by decide +kernel
theorem dX12_steepOf_28 : decode cX12_steepOf 28 = .ok (.isub, 1) := by decide +kernel
theorem dX12_steepOf_29 : decode cX12_steepOf 29 = .ok (.ireturn, 1) := by decide +kernel
theorem dX12_strands_0 : decode cX12_strands 0 = .ok (.iload_n 1, 1) := by decide +kernel
theorem dX12_strands_1 : decode cX12_strands 1 = .ok (.invokestatic 247, 3) := by decide +kernel
theorem dX12_strands_4 : decode cX12_strands 4 = .ok (.ifCond .ne 10, 3) := by decide +kernel
theorem dX12_strands_7 : decode cX12_strands 7 = .ok (.aload_n 0, 1) := by decide +kernel
theorem dX12_strands_8 : decode cX12_strands 8 = .ok (.ldc 90, 2) := by decide +kernel
theorem dX12_strands_10 : decode cX12_strands 10 = .ok (.invokevirtual 91, 3) := by decide +kernel
theorem dX12_strands_13 : decode cX12_strands 13 = .ok (.ireturn, 1) := by decide +kernel
theorem dX12_strands_14 : decode cX12_strands 14 = .ok (.aload_n 0, 1) := by decide +kernel
theorem dX12_strands_15 : decode cX12_strands 15 = .ok (.getfield 9, 3) := by decide +kernel
theorem dX12_strands_18 : decode cX12_strands 18 = .ok (.aload_n 0, 1) := by decide +kernel
theorem dX12_strands_19 : decode cX12_strands 19 = .ok (.getfield 16, 3) := by decide +kernel
theorem dX12_strands_22 : decode cX12_strands 22 = .ok (.invokestatic 82, 3) := by decide +kernel
theorem dX12_strands_25 : decode cX12_strands 25 = .ok (.aload_n 0, 1) := by decide +kernel
theorem dX12_strands_26 : decode cX12_strands 26 = .ok (.iload_n 1, 1) := by decide +kernel
theorem dX12_strands_27 : decode cX12_strands 27 = .ok (.invokevirtual 240, 3) := by decide +kernel
theorem dX12_strands_30 : decode cX12_strands 30 = .ok (.aload_n 0, 1) := by decide +kernel
theorem dX12_strands_31 : decode cX12_strands 31 = .ok (.aload_n 0, 1) := by decide +kernel
theorem dX12_strands_32 : decode cX12_strands 32 = .ok (.getfield 9, 3) := by decide +kernel
theorem dX12_strands_35 : decode cX12_strands 35 = .ok (.bipush 15, 2) := by decide +kernel
theorem dX12_strands_37 : decode cX12_strands 37 = .ok (.iaload, 1) := by decide +kernel
theorem dX12_strands_38 : decode cX12_strands 38 = .ok (.invokevirtual 250, 3) := by decide +kernel
theorem dX12_strands_41 : decode cX12_strands 41 = .ok (.ireturn, 1) := by decide +kernel
theorem dX12_sum_0 : decode cX12_sum 0 = .ok (.aload_n 0, 1) := by decide +kernel
theorem dX12_sum_1 : decode cX12_sum 1 = .ok (.invokevirtual 190, 3) := by decide +kernel
theorem dX12_sum_4 : decode cX12_sum 4 = .ok (.aload_n 0, 1) := by decide +kernel
theorem dX12_sum_5 : decode cX12_sum 5 = .ok (.bipush 43, 2) := by decide +kernel
theorem dX12_sum_7 : decode cX12_sum 7 = .ok (.invokevirtual 177, 3) := by decide +kernel
theorem dX12_sum_10 : decode cX12_sum 10 = .ok (.ifCond .eq 9, 3) := by decide +kernel
theorem dX12_sum_13 : decode cX12_sum 13 = .ok (.sipush 20005, 3) := by decide +kernel
theorem dX12_sum_16 : decode cX12_sum 16 = .ok (.goto 19, 3) := by decide +kernel
theorem dX12_sum_19 : decode cX12_sum 19 = .ok (.aload_n 0, 1) := by decide +kernel
theorem dX12_sum_20 : decode cX12_sum 20 = .ok (.bipush 45, 2) := by decide +kernel
theorem dX12_sum_22 : decode cX12_sum 22 = .ok (.invokevirtual 177, 3) := by decide +kernel
theorem dX12_sum_25 : decode cX12_sum 25 = .ok (.ifCond .eq 9, 3) := by decide +kernel
theorem dX12_sum_28 : decode cX12_sum 28 = .ok (.sipush 20006, 3) := by decide +kernel
theorem dX12_sum_31 : decode cX12_sum 31 = .ok (.goto 4, 3) := by decide +kernel
theorem dX12_sum_34 : decode cX12_sum 34 = .ok (.iconst 0, 1) := by decide +kernel
theorem dX12_sum_35 : decode cX12_sum 35 = .ok (.istore_n 1, 1) := by decide +kernel
theorem dX12_sum_36 : decode cX12_sum 36 = .ok (.iload_n 1, 1) := by decide +kernel
theorem dX12_sum_37 : decode cX12_sum 37 = .ok (.ifCond .le 47, 3) := by decide +kernel
theorem dX12_sum_40 : decode cX12_sum 40 = .ok (.aload_n 0, 1) := by decide +kernel
theorem dX12_sum_41 : decode cX12_sum 41 = .ok (.invokevirtual 190, 3) := by decide +kernel
theorem dX12_sum_44 : decode cX12_sum 44 = .ok (.aload_n 0, 1) := by decide +kernel
theorem dX12_sum_45 : decode cX12_sum 45 = .ok (.iload_n 1, 1) := by decide +kernel
theorem dX12_sum_46 : decode cX12_sum 46 = .ok (.invokevirtual 180, 3) := by decide +kernel
theorem dX12_sum_49 : decode cX12_sum 49 = .ok (.aload_n 0, 1) := by decide +kernel
theorem dX12_sum_50 : decode cX12_sum 50 = .ok (.bipush 43, 2) := by decide +kernel
theorem dX12_sum_52 : decode cX12_sum 52 = .ok (.invokevirtual 177, 3) := by decide +kernel
theorem dX12_sum_55 : decode cX12_sum 55 = .ok (.ifCond .eq 9, 3) := by decide +kernel
theorem dX12_sum_58 : decode cX12_sum 58 = .ok (.sipush 20005, 3) := by decide +kernel
theorem dX12_sum_61 : decode cX12_sum 61 = .ok (.goto 19, 3) := by decide +kernel
theorem dX12_sum_64 : decode cX12_sum 64 = .ok (.aload_n 0, 1) := by decide +kernel
theorem dX12_sum_65 : decode cX12_sum 65 = .ok (.bipush 45, 2) := by decide +kernel
theorem dX12_sum_67 : decode cX12_sum 67 = .ok (.invokevirtual 177, 3) := by decide +kernel
theorem dX12_sum_70 : decode cX12_sum 70 = .ok (.ifCond .eq 9, 3) := by decide +kernel
theorem dX12_sum_73 : decode cX12_sum 73 = .ok (.sipush 20006, 3) := by decide +kernel
theorem dX12_sum_76 : decode cX12_sum 76 = .ok (.goto 4, 3) := by decide +kernel
theorem dX12_sum_79 : decode cX12_sum 79 = .ok (.iconst 0, 1) := by decide +kernel
theorem dX12_sum_80 : decode cX12_sum 80 = .ok (.istore_n 1, 1) := by decide +kernel
theorem dX12_sum_81 : decode cX12_sum 81 = .ok (.goto (-45), 3) := by decide +kernel
theorem dX12_sum_84 : decode cX12_sum 84 = .ok (.return_, 1) := by decide +kernel
theorem dX12_takes_0 : decode cX12_takes 0 = .ok (.aload_n 0, 1) := by decide +kernel
theorem dX12_takes_1 : decode cX12_takes 1 = .ok (.invokevirtual 168, 3) := by decide +kernel
theorem dX12_takes_4 : decode cX12_takes 4 = .ok (.iload_n 1, 1) := by decide +kernel
theorem dX12_takes_5 : decode cX12_takes 5 = .ok (.if_icmp .ne 7, 3) := by decide +kernel
theorem dX12_takes_8 : decode cX12_takes 8 = .ok (.iconst 1, 1) := by decide +kernel
theorem dX12_takes_9 : decode cX12_takes 9 = .ok (.goto 4, 3) := by decide +kernel
theorem dX12_takes_12 : decode cX12_takes 12 = .ok (.iconst 0, 1) := by decide +kernel
theorem dX12_takes_13 : decode cX12_takes 13 = .ok (.istore_n 2, 1) := by decide +kernel
theorem dX12_takes_14 : decode cX12_takes 14 = .ok (.aload_n 0, 1) := by decide +kernel
theorem dX12_takes_15 : decode cX12_takes 15 = .ok (.dup, 1) := by decide +kernel
theorem dX12_takes_16 : decode cX12_takes 16 = .ok (.getfield 164, 3) := by decide +kernel
theorem dX12_takes_19 : decode cX12_takes 19 = .ok (.iload_n 2, 1) := by decide +kernel
theorem dX12_takes_20 : decode cX12_takes 20 = .ok (.ifCond .eq 7, 3) := by decide +kernel
theorem dX12_takes_23 : decode cX12_takes 23 = .ok (.iconst 1, 1) := by decide +kernel
theorem dX12_takes_24 : decode cX12_takes 24 = .ok (.goto 4, 3) := by decide +kernel
theorem dX12_takes_27 : decode cX12_takes 27 = .ok (.iconst 0, 1) := by decide +kernel
theorem dX12_takes_28 : decode cX12_takes 28 = .ok (.iadd, 1) := by decide +kernel
theorem dX12_takes_29 : decode cX12_takes 29 = .ok (.putfield 164, 3) := by decide +kernel
theorem dX12_takes_32 : decode cX12_takes 32 = .ok (.iload_n 2, 1) := by decide +kernel
theorem dX12_takes_33 : decode cX12_takes 33 = .ok (.ireturn, 1) := by decide +kernel
theorem dX12_tell_0 : decode cX12_tell 0 = .ok (.aload_n 0, 1) := by decide +kernel
theorem dX12_tell_1 : decode cX12_tell 1 = .ok (.getfield 9, 3) := by decide +kernel
theorem dX12_tell_4 : decode cX12_tell 4 = .ok (.iconst 5, 1) := by decide +kernel
theorem dX12_tell_5 : decode cX12_tell 5 = .ok (.iaload, 1) := by decide +kernel
theorem dX12_tell_6 : decode cX12_tell 6 = .ok (.bipush 20, 2) := by decide +kernel
theorem dX12_tell_8 : decode cX12_tell 8 = .ok (.if_icmp .ne 10, 3) := by decide +kernel
theorem dX12_tell_11 : decode cX12_tell 11 = .ok (.aload_n 0, 1) := by decide +kernel
theorem dX12_tell_12 : decode cX12_tell 12 = .ok (.ldc 138, 2) := by decide +kernel
theorem dX12_tell_14 : decode cX12_tell 14 = .ok (.invokevirtual 91, 3) := by decide +kernel
theorem dX12_tell_17 : decode cX12_tell 17 = .ok (.ireturn, 1) := by decide +kernel
theorem dX12_tell_18 : decode cX12_tell 18 = .ok (.aload_n 0, 1) := by decide +kernel
theorem dX12_tell_19 : decode cX12_tell 19 = .ok (.getfield 9, 3) := by decide +kernel
theorem dX12_tell_22 : decode cX12_tell 22 = .ok (.sipush 148, 3) := by decide +kernel
theorem dX12_tell_25 : decode cX12_tell 25 = .ok (.aload_n 0, 1) := by decide +kernel
theorem dX12_tell_26 : decode cX12_tell 26 = .ok (.getfield 9, 3) := by decide +kernel
theorem dX12_tell_29 : decode cX12_tell 29 = .ok (.iconst 5, 1) := by decide +kernel
theorem dX12_tell_30 : decode cX12_tell 30 = .ok (.iaload, 1) := by decide +kernel
theorem dX12_tell_31 : decode cX12_tell 31 = .ok (.iadd, 1) := by decide +kernel
theorem dX12_tell_32 : decode cX12_tell 32 = .ok (.iload_n 1, 1) := by decide +kernel
theorem dX12_tell_33 : decode cX12_tell 33 = .ok (.iastore, 1) := by decide +kernel
theorem dX12_tell_34 : decode cX12_tell 34 = .ok (.aload_n 0, 1) := by decide +kernel
theorem dX12_tell_35 : decode cX12_tell 35 = .ok (.getfield 9, 3) := by decide +kernel
theorem dX12_tell_38 : decode cX12_tell 38 = .ok (.iconst 5, 1) := by decide +kernel
theorem dX12_tell_39 : decode cX12_tell 39 = .ok (.dup2, 1) := by decide +kernel
theorem dX12_tell_40 : decode cX12_tell 40 = .ok (.iaload, 1) := by decide +kernel
theorem dX12_tell_41 : decode cX12_tell 41 = .ok (.iconst 1, 1) := by decide +kernel
theorem dX12_tell_42 : decode cX12_tell 42 = .ok (.iadd, 1) := by decide +kernel
theorem dX12_tell_43 : decode cX12_tell 43 = .ok (.iastore, 1) := by decide +kernel
theorem dX12_tell_44 : decode cX12_tell 44 = .ok (.aload_n 0, 1) := by decide +kernel
theorem dX12_tell_45 : decode cX12_tell 45 = .ok (.getfield 9, 3) := by decide +kernel
theorem dX12_tell_48 : decode cX12_tell 48 = .ok (.iconst 5, 1) := by decide +kernel
theorem dX12_tell_49 : decode cX12_tell 49 = .ok (.iaload, 1) := by decide +kernel
theorem dX12_tell_50 : decode cX12_tell 50 = .ok (.ireturn, 1) := by decide +kernel
theorem dX12_tells_0 : decode cX12_tells 0 = .ok (.aload_n 0, 1) := by decide +kernel
theorem dX12_tells_1 : decode cX12_tells 1 = .ok (.getfield 9, 3) := by decide +kernel
theorem dX12_tells_4 : decode cX12_tells 4 = .ok (.bipush 16, 2) := by decide +kernel
theorem dX12_tells_6 : decode cX12_tells 6 = .ok (.bipush 7, 2) := by decide +kernel
theorem dX12_tells_8 : decode cX12_tells 8 = .ok (.iload_n 1, 1) := by decide +kernel
theorem dX12_tells_9 : decode cX12_tells 9 = .ok (.imul, 1) := by decide +kernel
theorem dX12_tells_10 : decode cX12_tells 10 = .ok (.iadd, 1) := by decide +kernel
theorem dX12_tells_11 : decode cX12_tells 11 = .ok (.iload_n 2, 1) := by decide +kernel
theorem dX12_tells_12 : decode cX12_tells 12 = .ok (.iadd, 1) := by decide +kernel
theorem dX12_tells_13 : decode cX12_tells 13 = .ok (.iload_n 3, 1) := by decide +kernel
theorem dX12_tells_14 : decode cX12_tells 14 = .ok (.iastore, 1) := by decide +kernel
theorem dX12_tells_15 : decode cX12_tells 15 = .ok (.return_, 1) := by decide +kernel
theorem dX12_text_0 : decode cX12_text 0 = .ok (.iload_n 1, 1) := by decide +kernel
theorem dX12_text_1 : decode cX12_text 1 = .ok (.iconst 0, 1) := by decide +kernel
theorem dX12_text_2 : decode cX12_text 2 = .ok (.iconst 1, 1) := by decide +kernel
theorem dX12_text_3 : decode cX12_text 3 = .ok (.invokestatic 86, 3) := by decide +kernel
theorem dX12_text_6 : decode cX12_text 6 = .ok (.ifCond .ne 10, 3) := by decide +kernel
theorem dX12_text_9 : decode cX12_text 9 = .ok (.aload_n 0, 1) := by decide +kernel
theorem dX12_text_10 : decode cX12_text 10 = .ok (.ldc 90, 2) := by decide +kernel
theorem dX12_text_12 : decode cX12_text 12 = .ok (.invokevirtual 91, 3) := by decide +kernel
theorem dX12_text_15 : decode cX12_text 15 = .ok (.ireturn, 1) := by decide +kernel
theorem dX12_text_16 : decode cX12_text 16 = .ok (.aload_n 0, 1) := by decide +kernel
theorem dX12_text_17 : decode cX12_text 17 = .ok (.iload_n 1, 1) := by decide +kernel
theorem dX12_text_18 : decode cX12_text 18 = .ok (.putfield 196, 3) := by decide +kernel
theorem dX12_text_21 : decode cX12_text 21 = .ok (.aload_n 0, 1) := by decide +kernel
theorem dX12_text_22 : decode cX12_text 22 = .ok (.iconst 0, 1) := by decide +kernel
theorem dX12_text_23 : decode cX12_text 23 = .ok (.putfield 164, 3) := by decide +kernel
theorem dX12_text_26 : decode cX12_text 26 = .ok (.aload_n 0, 1) := by decide +kernel
theorem dX12_text_27 : decode cX12_text 27 = .ok (.iconst 0, 1) := by decide +kernel
theorem dX12_text_28 : decode cX12_text 28 = .ok (.putfield 206, 3) := by decide +kernel
theorem dX12_text_31 : decode cX12_text 31 = .ok (.aload_n 0, 1) := by decide +kernel
theorem dX12_text_32 : decode cX12_text 32 = .ok (.iconst 0, 1) := by decide +kernel
theorem dX12_text_33 : decode cX12_text 33 = .ok (.putfield 160, 3) := by decide +kernel
theorem dX12_text_36 : decode cX12_text 36 = .ok (.aload_n 0, 1) := by decide +kernel
theorem dX12_text_37 : decode cX12_text 37 = .ok (.iconst 0, 1) := by decide +kernel
theorem dX12_text_38 : decode cX12_text 38 = .ok (.putfield 171, 3) := by decide +kernel
theorem dX12_text_41 : decode cX12_text 41 = .ok (.aload_n 0, 1) := by decide +kernel
theorem dX12_text_42 : decode cX12_text 42 = .ok (.invokevirtual 209, 3) := by decide +kernel
theorem dX12_text_45 : decode cX12_text 45 = .ok (.aload_n 0, 1) := by decide +kernel
theorem dX12_text_46 : decode cX12_text 46 = .ok (.aload_n 0, 1) := by decide +kernel
theorem dX12_text_47 : decode cX12_text 47 = .ok (.getfield 160, 3) := by decide +kernel
theorem dX12_text_50 : decode cX12_text 50 = .ok (.ifCond .ne 16, 3) := by decide +kernel
theorem dX12_text_53 : decode cX12_text 53 = .ok (.aload_n 0, 1) := by decide +kernel
theorem dX12_text_54 : decode cX12_text 54 = .ok (.getfield 164, 3) := by decide +kernel
theorem dX12_text_57 : decode cX12_text 57 = .ok (.aload_n 0, 1) := by decide +kernel
theorem dX12_text_58 : decode cX12_text 58 = .ok (.getfield 9, 3) := by decide +kernel
theorem dX12_text_61 : decode cX12_text 61 = .ok (.iconst 4, 1) := by decide +kernel
theorem dX12_text_62 : decode cX12_text 62 = .ok (.iaload, 1) := by decide +kernel
theorem dX12_text_63 : decode cX12_text 63 = .ok (.if_icmp .ge 7, 3) := by decide +kernel
theorem dX12_text_66 : decode cX12_text 66 = .ok (.iconst 1, 1) := by decide +kernel
theorem dX12_text_67 : decode cX12_text 67 = .ok (.goto 4, 3) := by decide +kernel
theorem dX12_text_70 : decode cX12_text 70 = .ok (.iconst 0, 1) := by decide +kernel
theorem dX12_text_71 : decode cX12_text 71 = .ok (.putfield 160, 3) := by decide +kernel
theorem dX12_text_74 : decode cX12_text 74 = .ok (.aload_n 0, 1) := by decide +kernel
theorem dX12_text_75 : decode cX12_text 75 = .ok (.getfield 9, 3) := by decide +kernel
theorem dX12_text_78 : decode cX12_text 78 = .ok (.iconst 4, 1) := by decide +kernel
theorem dX12_text_79 : decode cX12_text 79 = .ok (.iconst 0, 1) := by decide +kernel
theorem dX12_text_80 : decode cX12_text 80 = .ok (.iastore, 1) := by decide +kernel
theorem dX12_text_81 : decode cX12_text 81 = .ok (.aload_n 0, 1) := by decide +kernel
theorem dX12_text_82 : decode cX12_text 82 = .ok (.getfield 160, 3) := by decide +kernel
theorem dX12_text_85 : decode cX12_text 85 = .ok (.ifCond .eq 11, 3) := by decide +kernel
theorem dX12_text_88 : decode cX12_text 88 = .ok (.bipush (-10), 2) := by decide +kernel
theorem dX12_text_90 : decode cX12_text 90 = .ok (.aload_n 0, 1) := by decide +kernel
theorem dX12_text_91 : decode cX12_text 91 = .ok (.getfield 164, 3) := by decide +kernel
theorem dX12_text_94 : decode cX12_text 94 = .ok (.isub, 1) := by decide +kernel
theorem dX12_text_95 : decode cX12_text 95 = .ok (.ireturn, 1) := by decide +kernel
theorem dX12_text_96 : decode cX12_text 96 = .ok (.aload_n 0, 1) := by decide +kernel
theorem dX12_text_97 : decode cX12_text 97 = .ok (.getfield 9, 3) := by decide +kernel
theorem dX12_text_100 : decode cX12_text 100 = .ok (.sipush 168, 3) := by decide +kernel
theorem dX12_text_103 : decode cX12_text 103 = .ok (.bipush 52, 2) := by decide +kernel
theorem dX12_text_105 : decode cX12_text 105 = .ok (.aload_n 0, 1) := by decide +kernel
theorem dX12_text_106 : decode cX12_text 106 = .ok (.getfield 196, 3) := by decide +kernel
theorem dX12_text_109 : decode cX12_text 109 = .ok (.imul, 1) := by decide +kernel
theorem dX12_text_110 : decode cX12_text 110 = .ok (.iadd, 1) := by decide +kernel
theorem dX12_text_111 : decode cX12_text 111 = .ok (.aload_n 0, 1) := by decide +kernel
theorem dX12_text_112 : decode cX12_text 112 = .ok (.getfield 171, 3) := by decide +kernel
theorem dX12_text_115 : decode cX12_text 115 = .ok (.iastore, 1) := by decide +kernel
theorem dX12_text_116 : decode cX12_text 116 = .ok (.iconst 0, 1) := by decide +kernel
theorem dX12_text_117 : decode cX12_text 117 = .ok (.istore_n 2, 1) := by decide +kernel
theorem dX12_text_118 : decode cX12_text 118 = .ok (.iload_n 2, 1) := by decide +kernel
theorem dX12_text_119 : decode cX12_text 119 = .ok (.aload_n 0, 1) := by decide +kernel
theorem dX12_text_120 : decode cX12_text 120 = .ok (.getfield 171, 3) := by decide +kernel
theorem dX12_text_123 : decode cX12_text 123 = .ok (.if_icmp .ge 35, 3) := by decide +kernel
theorem dX12_text_126 : decode cX12_text 126 = .ok (.aload_n 0, 1) := by decide +kernel
theorem dX12_text_127 : decode cX12_text 127 = .ok (.getfield 9, 3) := by decide +kernel
theorem dX12_text_130 : decode cX12_text 130 = .ok (.sipush 168, 3) := by decide +kernel
theorem dX12_text_133 : decode cX12_text 133 = .ok (.bipush 52, 2) := by decide +kernel
theorem dX12_text_135 : decode cX12_text 135 = .ok (.aload_n 0, 1) := by decide +kernel
theorem dX12_text_136 : decode cX12_text 136 = .ok (.getfield 196, 3) := by decide +kernel
theorem dX12_text_139 : decode cX12_text 139 = .ok (.imul, 1) := by decide +kernel
theorem dX12_text_140 : decode cX12_text 140 = .ok (.iadd, 1) := by decide +kernel
theorem dX12_text_141 : decode cX12_text 141 = .ok (.iconst 1, 1) := by decide +kernel
theorem dX12_text_142 : decode cX12_text 142 = .ok (.iadd, 1) := by decide +kernel
theorem dX12_text_143 : decode cX12_text 143 = .ok (.iload_n 2, 1) := by decide +kernel
theorem dX12_text_144 : decode cX12_text 144 = .ok (.iadd, 1) := by decide +kernel
theorem dX12_text_145 : decode cX12_text 145 = .ok (.aload_n 0, 1) := by decide +kernel
theorem dX12_text_146 : decode cX12_text 146 = .ok (.getfield 39, 3) := by decide +kernel
theorem dX12_text_149 : decode cX12_text 149 = .ok (.iload_n 2, 1) := by decide +kernel
theorem dX12_text_150 : decode cX12_text 150 = .ok (.iaload, 1) := by decide +kernel
theorem dX12_text_151 : decode cX12_text 151 = .ok (.iastore, 1) := by decide +kernel
theorem dX12_text_152 : decode cX12_text 152 = .ok (.iinc 2 1, 3) := by decide +kernel
theorem dX12_text_155 : decode cX12_text 155 = .ok (.goto (-37), 3) := by decide +kernel
theorem dX12_text_158 : decode cX12_text 158 = .ok (.iconst 1, 1) := by decide +kernel
theorem dX12_text_159 : decode cX12_text 159 = .ok (.ireturn, 1) := by decide +kernel
theorem dX12_then_0 : decode cX12_then 0 = .ok (.iload_n 1, 1) := by decide +kernel
theorem dX12_then_1 : decode cX12_then 1 = .ok (.invokestatic 247, 3) := by decide +kernel
theorem dX12_then_4 : decode cX12_then 4 = .ok (.ifCond .eq 22, 3) := by decide +kernel
theorem dX12_then_7 : decode cX12_then 7 = .ok (.aload_n 0, 1) := by decide +kernel
theorem dX12_then_8 : decode cX12_then 8 = .ok (.iload_n 2, 1) := by decide +kernel
theorem dX12_then_9 : decode cX12_then 9 = .ok (.iconst 1, 1) := by decide +kernel
theorem dX12_then_10 : decode cX12_then 10 = .ok (.invokevirtual 148, 3) := by decide +kernel
theorem dX12_then_13 : decode cX12_then 13 = .ok (.ifCond .eq 13, 3) := by decide +kernel
theorem dX12_then_16 : decode cX12_then 16 = .ok (.iload_n 3, 1) := by decide +kernel
theorem dX12_then_17 : decode cX12_then 17 = .ok (.iconst 0, 1) := by decide +kernel
theorem dX12_then_18 : decode cX12_then 18 = .ok (.bipush 8, 2) := by decide +kernel
theorem dX12_then_20 : decode cX12_then 20 = .ok (.invokestatic 86, 3) := by decide +kernel
theorem dX12_then_23 : decode cX12_then 23 = .ok (.ifCond .ne 10, 3) := by decide +kernel
theorem dX12_then_26 : decode cX12_then 26 = .ok (.aload_n 0, 1) := by decide +kernel
theorem dX12_then_27 : decode cX12_then 27 = .ok (.ldc 90, 2) := by decide +kernel
theorem dX12_then_29 : decode cX12_then 29 = .ok (.invokevirtual 91, 3) := by decide +kernel
theorem dX12_then_32 : decode cX12_then 32 = .ok (.ireturn, 1) := by decide +kernel
theorem dX12_then_33 : decode cX12_then 33 = .ok (.aload_n 0, 1) := by decide +kernel
theorem dX12_then_34 : decode cX12_then 34 = .ok (.getfield 9, 3) := by decide +kernel
theorem dX12_then_37 : decode cX12_then 37 = .ok (.aload_n 0, 1) := by decide +kernel
theorem dX12_then_38 : decode cX12_then 38 = .ok (.getfield 16, 3) := by decide +kernel
theorem dX12_then_41 : decode cX12_then 41 = .ok (.invokestatic 82, 3) := by decide +kernel
theorem dX12_then_44 : decode cX12_then 44 = .ok (.aload_n 0, 1) := by decide +kernel
theorem dX12_then_45 : decode cX12_then 45 = .ok (.iload_n 1, 1) := by decide +kernel
theorem dX12_then_46 : decode cX12_then 46 = .ok (.invokevirtual 240, 3) := by decide +kernel
theorem dX12_then_49 : decode cX12_then 49 = .ok (.aload_n 0, 1) := by decide +kernel
theorem dX12_then_50 : decode cX12_then 50 = .ok (.aload_n 0, 1) := by decide +kernel
theorem dX12_then_51 : decode cX12_then 51 = .ok (.iload_n 2, 1) := by decide +kernel
theorem dX12_then_52 : decode cX12_then 52 = .ok (.iload_n 3, 1) := by decide +kernel
theorem dX12_then_53 : decode cX12_then 53 = .ok (.invokevirtual 151, 3) := by decide +kernel
theorem dX12_then_56 : decode cX12_then 56 = .ok (.invokevirtual 250, 3) := by decide +kernel
theorem dX12_then_59 : decode cX12_then 59 = .ok (.ireturn, 1) := by decide +kernel
theorem dX12_tick_0 : decode cX12_tick 0 = .ok (.iconst 0, 1) := by decide +kernel
theorem dX12_tick_1 : decode cX12_tick 1 = .ok (.istore_n 1, 1) := by decide +kernel
theorem dX12_tick_2 : decode cX12_tick 2 = .ok (.iload_n 1, 1) := by decide +kernel
theorem dX12_tick_3 : decode cX12_tick 3 = .ok (.aload_n 0, 1) := by decide +kernel
theorem dX12_tick_4 : decode cX12_tick 4 = .ok (.getfield 9, 3) := by decide +kernel
theorem dX12_tick_7 : decode cX12_tick 7 = .ok (.iconst 1, 1) := by decide +kernel
theorem dX12_tick_8 : decode cX12_tick 8 = .ok (.iaload, 1) := by decide +kernel
theorem dX12_tick_9 : decode cX12_tick 9 = .ok (.if_icmp .ge 22, 3) := by decide +kernel
theorem dX12_tick_12 : decode cX12_tick 12 = .ok (.aload_n 0, 1) := by decide +kernel
theorem dX12_tick_13 : decode cX12_tick 13 = .ok (.iload_n 1, 1) := by decide +kernel
theorem dX12_tick_14 : decode cX12_tick 14 = .ok (.invokevirtual 228, 3) := by decide +kernel
theorem dX12_tick_17 : decode cX12_tick 17 = .ok (.ifCond .ne 8, 3) := by decide +kernel
theorem dX12_tick_20 : decode cX12_tick 20 = .ok (.aload_n 0, 1) := by decide +kernel
theorem dX12_tick_21 : decode cX12_tick 21 = .ok (.iload_n 1, 1) := by decide +kernel
theorem dX12_tick_22 : decode cX12_tick 22 = .ok (.invokevirtual 231, 3) := by decide +kernel
theorem dX12_tick_25 : decode cX12_tick 25 = .ok (.iinc 1 1, 3) := by decide +kernel
theorem dX12_tick_28 : decode cX12_tick 28 = .ok (.goto (-26), 3) := by decide +kernel
theorem dX12_tick_31 : decode cX12_tick 31 = .ok (.aload_n 0, 1) := by decide +kernel
theorem dX12_tick_32 : decode cX12_tick 32 = .ok (.getfield 9, 3) := by decide +kernel
theorem dX12_tick_35 : decode cX12_tick 35 = .ok (.iconst 0, 1) := by decide +kernel
theorem dX12_tick_36 : decode cX12_tick 36 = .ok (.dup2, 1) := by decide +kernel
theorem dX12_tick_37 : decode cX12_tick 37 = .ok (.iaload, 1) := by decide +kernel
theorem dX12_tick_38 : decode cX12_tick 38 = .ok (.iconst 1, 1) := by decide +kernel
theorem dX12_tick_39 : decode cX12_tick 39 = .ok (.iadd, 1) := by decide +kernel
theorem dX12_tick_40 : decode cX12_tick 40 = .ok (.iastore, 1) := by decide +kernel
theorem dX12_tick_41 : decode cX12_tick 41 = .ok (.return_, 1) := by decide +kernel
theorem dX12_ticks_0 : decode cX12_ticks 0 = .ok (.aload_n 0, 1) := by decide +kernel
theorem dX12_ticks_1 : decode cX12_ticks 1 = .ok (.iload_n 1, 1) := by decide +kernel
theorem dX12_ticks_2 : decode cX12_ticks 2 = .ok (.invokevirtual 237, 3) := by decide +kernel
theorem dX12_ticks_5 : decode cX12_ticks 5 = .ok (.istore_n 2, 1) := by decide +kernel
theorem dX12_ticks_6 : decode cX12_ticks 6 = .ok (.iload_n 2, 1) := by decide +kernel
theorem dX12_ticks_7 : decode cX12_ticks 7 = .ok (.ifCond .eq 9, 3) := by decide +kernel
theorem dX12_ticks_10 : decode cX12_ticks 10 = .ok (.aload_n 0, 1) := by decide +kernel
theorem dX12_ticks_11 : decode cX12_ticks 11 = .ok (.iload_n 2, 1) := by decide +kernel
theorem dX12_ticks_12 : decode cX12_ticks 12 = .ok (.invokevirtual 91, 3) := by decide +kernel
theorem dX12_ticks_15 : decode cX12_ticks 15 = .ok (.ireturn, 1) := by decide +kernel
theorem dX12_ticks_16 : decode cX12_ticks 16 = .ok (.aload_n 0, 1) := by decide +kernel
theorem dX12_ticks_17 : decode cX12_ticks 17 = .ok (.iload_n 1, 1) := by decide +kernel
theorem dX12_ticks_18 : decode cX12_ticks 18 = .ok (.invokevirtual 240, 3) := by decide +kernel
theorem dX12_ticks_21 : decode cX12_ticks 21 = .ok (.aload_n 0, 1) := by decide +kernel
theorem dX12_ticks_22 : decode cX12_ticks 22 = .ok (.getfield 9, 3) := by decide +kernel
theorem dX12_ticks_25 : decode cX12_ticks 25 = .ok (.iconst 0, 1) := by decide +kernel
theorem dX12_ticks_26 : decode cX12_ticks 26 = .ok (.iaload, 1) := by decide +kernel
theorem dX12_ticks_27 : decode cX12_ticks 27 = .ok (.ireturn, 1) := by decide +kernel
theorem dX12_ticksGo_0 : decode cX12_ticksGo 0 = .ok (.iconst 0, 1) := by decide +kernel
theorem dX12_ticksGo_1 : decode cX12_ticksGo 1 = .ok (.istore_n 2, 1) := by decide +kernel
theorem dX12_ticksGo_2 : decode cX12_ticksGo 2 = .ok (.iload_n 2, 1) := by decide +kernel
theorem dX12_ticksGo_3 : decode cX12_ticksGo 3 = .ok (.iload_n 1, 1) := by decide +kernel
theorem dX12_ticksGo_4 : decode cX12_ticksGo 4 = .ok (.if_icmp .ge 13, 3) := by decide +kernel
theorem dX12_ticksGo_7 : decode cX12_ticksGo 7 = .ok (.aload_n 0, 1) := by decide +kernel
theorem dX12_ticksGo_8 : decode cX12_ticksGo 8 = .ok (.invokevirtual 234, 3) := by decide +kernel
theorem dX12_ticksGo_11 : decode cX12_ticksGo 11 = .ok (.iinc 2 1, 3) := by decide +kernel
theorem dX12_ticksGo_14 : decode cX12_ticksGo 14 = .ok (.goto (-12), 3) := by decide +kernel
theorem dX12_ticksGo_17 : decode cX12_ticksGo 17 = .ok (.return_, 1) := by decide +kernel
theorem dX12_tight_0 : decode cX12_tight 0 = .ok (.aload_n 0, 1) := by decide +kernel
theorem dX12_tight_1 : decode cX12_tight 1 = .ok (.invokevirtual 105, 3) := by decide +kernel
theorem dX12_tight_4 : decode cX12_tight 4 = .ok (.ireturn, 1) := by decide +kernel
theorem dX12_tightOf_0 : decode cX12_tightOf 0 = .ok (.bipush 100, 2) := by decide +kernel
theorem dX12_tightOf_2 : decode cX12_tightOf 2 = .ok (.aload_n 0, 1) := by decide +kernel
theorem dX12_tightOf_3 : decode cX12_tightOf 3 = .ok (.getfield 9, 3) := by decide +kernel
theorem dX12_tightOf_6 : decode cX12_tightOf 6 = .ok (.bipush 9, 2) := by decide +kernel
theorem dX12_tightOf_8 : decode cX12_tightOf 8 = .ok (.iaload, 1) := by decide +kernel
theorem dX12_tightOf_9 : decode cX12_tightOf 9 = .ok (.bipush 10, 2) := by decide +kernel
theorem dX12_tightOf_11 : decode cX12_tightOf 11 = .ok (.aload_n 0, 1) := by decide +kernel
theorem dX12_tightOf_12 : decode cX12_tightOf 12 = .ok (.getfield 9, 3) := by decide +kernel
theorem dX12_tightOf_15 : decode cX12_tightOf 15 = .ok (.bipush 11, 2) := by decide +kernel
theorem dX12_tightOf_17 : decode cX12_tightOf 17 = .ok (.iaload, 1) := by decide +kernel
theorem dX12_tightOf_18 : decode cX12_tightOf 18 = .ok (.imul, 1) := by decide +kernel
theorem dX12_tightOf_19 : decode cX12_tightOf 19 = .ok (.isub, 1) := by decide +kernel
theorem dX12_tightOf_20 : decode cX12_tightOf 20 = .ok (.invokestatic 79, 3) := by decide +kernel
theorem dX12_tightOf_23 : decode cX12_tightOf 23 = .ok (.ireturn, 1) := by decide +kernel
theorem dX12_told_0 : decode cX12_told 0 = .ok (.iload_n 1, 1) := by decide +kernel
theorem dX12_told_1 : decode cX12_told 1 = .ok (.iconst 1, 1) := by decide +kernel
theorem dX12_told_2 : decode cX12_told 2 = .ok (.iconst 5, 1) := by decide +kernel
theorem dX12_told_3 : decode cX12_told 3 = .ok (.invokestatic 86, 3) := by decide +kernel
theorem dX12_told_6 : decode cX12_told 6 = .ok (.ifCond .eq 12, 3) := by decide +kernel
theorem dX12_told_9 : decode cX12_told 9 = .ok (.aload_n 0, 1) := by decide +kernel
theorem dX12_told_10 : decode cX12_told 10 = .ok (.getfield 19, 3) := by decide +kernel
theorem dX12_told_13 : decode cX12_told 13 = .ok (.iload_n 1, 1) := by decide +kernel
theorem dX12_told_14 : decode cX12_told 14 = .ok (.iaload, 1) := by decide +kernel
theorem dX12_told_15 : decode cX12_told 15 = .ok (.goto 9, 3) := by decide +kernel
theorem dX12_told_18 : decode cX12_told 18 = .ok (.aload_n 0, 1) := by decide +kernel
theorem dX12_told_19 : decode cX12_told 19 = .ok (.ldc 90, 2) := by decide +kernel
theorem dX12_told_21 : decode cX12_told 21 = .ok (.invokevirtual 91, 3) := by decide +kernel
theorem dX12_told_24 : decode cX12_told 24 = .ok (.ireturn, 1) := by decide +kernel
theorem dX12_trace_0 : decode cX12_trace 0 = .ok (.iload_n 1, 1) := by decide +kernel
theorem dX12_trace_1 : decode cX12_trace 1 = .ok (.iconst 0, 1) := by decide +kernel
theorem dX12_trace_2 : decode cX12_trace 2 = .ok (.aload_n 0, 1) := by decide +kernel
theorem dX12_trace_3 : decode cX12_trace 3 = .ok (.getfield 282, 3) := by decide +kernel
theorem dX12_trace_6 : decode cX12_trace 6 = .ok (.iconst 1, 1) := by decide +kernel
theorem dX12_trace_7 : decode cX12_trace 7 = .ok (.isub, 1) := by decide +kernel
theorem dX12_trace_8 : decode cX12_trace 8 = .ok (.invokestatic 86, 3) := by decide +kernel
theorem dX12_trace_11 : decode cX12_trace 11 = .ok (.ifCond .eq 12, 3) := by decide +kernel
theorem dX12_trace_14 : decode cX12_trace 14 = .ok (.aload_n 0, 1) := by decide +kernel
theorem dX12_trace_15 : decode cX12_trace 15 = .ok (.getfield 57, 3) := by decide +kernel
theorem dX12_trace_18 : decode cX12_trace 18 = .ok (.iload_n 1, 1) := by decide +kernel
theorem dX12_trace_19 : decode cX12_trace 19 = .ok (.iaload, 1) := by decide +kernel
theorem dX12_trace_20 : decode cX12_trace 20 = .ok (.goto 9, 3) := by decide +kernel
theorem dX12_trace_23 : decode cX12_trace 23 = .ok (.aload_n 0, 1) := by decide +kernel
theorem dX12_trace_24 : decode cX12_trace 24 = .ok (.ldc 132, 2) := by decide +kernel
theorem dX12_trace_26 : decode cX12_trace 26 = .ok (.invokevirtual 91, 3) := by decide +kernel
theorem dX12_trace_29 : decode cX12_trace 29 = .ok (.ireturn, 1) := by decide +kernel
theorem dX12_unload_0 : decode cX12_unload 0 = .ok (.aload_n 0, 1) := by decide +kernel
theorem dX12_unload_1 : decode cX12_unload 1 = .ok (.iconst 3, 1) := by decide +kernel
theorem dX12_unload_2 : decode cX12_unload 2 = .ok (.iconst 0, 1) := by decide +kernel
theorem dX12_unload_3 : decode cX12_unload 3 = .ok (.invokevirtual 95, 3) := by decide +kernel
theorem dX12_unload_6 : decode cX12_unload 6 = .ok (.ireturn, 1) := by decide +kernel
theorem dX12_voice_0 : decode cX12_voice 0 = .ok (.aload_n 0, 1) := by decide +kernel
theorem dX12_voice_1 : decode cX12_voice 1 = .ok (.iload_n 1, 1) := by decide +kernel
theorem dX12_voice_2 : decode cX12_voice 2 = .ok (.iconst 1, 1) := by decide +kernel
theorem dX12_voice_3 : decode cX12_voice 3 = .ok (.invokevirtual 148, 3) := by decide +kernel
theorem dX12_voice_6 : decode cX12_voice 6 = .ok (.ifCond .eq 12, 3) := by decide +kernel
theorem dX12_voice_9 : decode cX12_voice 9 = .ok (.iload_n 2, 1) := by decide +kernel
theorem dX12_voice_10 : decode cX12_voice 10 = .ok (.iconst 0, 1) := by decide +kernel
theorem dX12_voice_11 : decode cX12_voice 11 = .ok (.iconst 3, 1) := by decide +kernel
theorem dX12_voice_12 : decode cX12_voice 12 = .ok (.invokestatic 86, 3) := by decide +kernel
theorem dX12_voice_15 : decode cX12_voice 15 = .ok (.ifCond .ne 10, 3) := by decide +kernel
theorem dX12_voice_18 : decode cX12_voice 18 = .ok (.aload_n 0, 1) := by decide +kernel
theorem dX12_voice_19 : decode cX12_voice 19 = .ok (.ldc 90, 2) := by decide +kernel
theorem dX12_voice_21 : decode cX12_voice 21 = .ok (.invokevirtual 91, 3) := by decide +kernel
theorem dX12_voice_24 : decode cX12_voice 24 = .ok (.ireturn, 1) := by decide +kernel
theorem dX12_voice_25 : decode cX12_voice 25 = .ok (.aload_n 0, 1) := by decide +kernel
theorem dX12_voice_26 : decode cX12_voice 26 = .ok (.iconst 0, 1) := by decide +kernel
theorem dX12_voice_27 : decode cX12_voice 27 = .ok (.putfield 282, 3) := by decide +kernel
theorem dX12_voice_30 : decode cX12_voice 30 = .ok (.aload_n 0, 1) := by decide +kernel
theorem dX12_voice_31 : decode cX12_voice 31 = .ok (.iload_n 1, 1) := by decide +kernel
theorem dX12_voice_32 : decode cX12_voice 32 = .ok (.putfield 285, 3) := by decide +kernel
theorem dX12_voice_35 : decode cX12_voice 35 = .ok (.aload_n 0, 1) := by decide +kernel
theorem dX12_voice_36 : decode cX12_voice 36 = .ok (.iload_n 2, 1) := by decide +kernel
theorem dX12_voice_37 : decode cX12_voice 37 = .ok (.iload_n 3, 1) := by decide +kernel
theorem dX12_voice_38 : decode cX12_voice 38 = .ok (.invokevirtual 300, 3) := by decide +kernel
theorem dX12_voice_41 : decode cX12_voice 41 = .ok (.ireturn, 1) := by decide +kernel
theorem dX12_voiced_0 : decode cX12_voiced 0 = .ok (.aload_n 0, 1) := by decide +kernel
theorem dX12_voiced_1 : decode cX12_voiced 1 = .ok (.aload_n 0, 1) := by decide +kernel
theorem dX12_voiced_2 : decode cX12_voiced 2 = .ok (.aload_n 0, 1) := by decide +kernel
theorem dX12_voiced_3 : decode cX12_voiced 3 = .ok (.getfield 285, 3) := by decide +kernel
theorem dX12_voiced_6 : decode cX12_voiced 6 = .ok (.iconst 0, 1) := by decide +kernel
theorem dX12_voiced_7 : decode cX12_voiced 7 = .ok (.invokevirtual 98, 3) := by decide +kernel
theorem dX12_voiced_10 : decode cX12_voiced 10 = .ok (.iload_n 1, 1) := by decide +kernel
theorem dX12_voiced_11 : decode cX12_voiced 11 = .ok (.iload_n 2, 1) := by decide +kernel
theorem dX12_voiced_12 : decode cX12_voiced 12 = .ok (.invokevirtual 288, 3) := by decide +kernel
theorem dX12_voiced_15 : decode cX12_voiced 15 = .ok (.ireturn, 1) := by decide +kernel
theorem dX12_whyNot_0 : decode cX12_whyNot 0 = .ok (.iload_n 1, 1) := by decide +kernel
theorem dX12_whyNot_1 : decode cX12_whyNot 1 = .ok (.iconst 1, 1) := by decide +kernel
theorem dX12_whyNot_2 : decode cX12_whyNot 2 = .ok (.sipush 200, 3) := by decide +kernel
theorem dX12_whyNot_5 : decode cX12_whyNot 5 = .ok (.invokestatic 86, 3) := by decide +kernel
theorem dX12_whyNot_8 : decode cX12_whyNot 8 = .ok (.ifCond .ne 8, 3) := by decide +kernel
theorem dX12_whyNot_11 : decode cX12_whyNot 11 = .ok (.ldc 90, 2) := by decide +kernel
theorem dX12_whyNot_13 : decode cX12_whyNot 13 = .ok (.goto 22, 3) := by decide +kernel
theorem dX12_whyNot_16 : decode cX12_whyNot 16 = .ok (.aload_n 0, 1) := by decide +kernel
theorem dX12_whyNot_17 : decode cX12_whyNot 17 = .ok (.getfield 9, 3) := by decide +kernel
theorem dX12_whyNot_20 : decode cX12_whyNot 20 = .ok (.iconst 0, 1) := by decide +kernel
theorem dX12_whyNot_21 : decode cX12_whyNot 21 = .ok (.iaload, 1) := by decide +kernel
theorem dX12_whyNot_22 : decode cX12_whyNot 22 = .ok (.iload_n 1, 1) := by decide +kernel
theorem dX12_whyNot_23 : decode cX12_whyNot 23 = .ok (.iadd, 1) := by decide +kernel
theorem dX12_whyNot_24 : decode cX12_whyNot 24 = .ok (.ldc 25, 2) := by decide +kernel
theorem dX12_whyNot_26 : decode cX12_whyNot 26 = .ok (.if_icmp .le 8, 3) := by decide +kernel
theorem dX12_whyNot_29 : decode cX12_whyNot 29 = .ok (.ldc 137, 2) := by decide +kernel
theorem dX12_whyNot_31 : decode cX12_whyNot 31 = .ok (.goto 4, 3) := by decide +kernel
theorem dX12_whyNot_34 : decode cX12_whyNot 34 = .ok (.iconst 0, 1) := by decide +kernel
theorem dX12_whyNot_35 : decode cX12_whyNot 35 = .ok (.ireturn, 1) := by decide +kernel
theorem dX12_wire_0 : decode cX12_wire 0 = .ok (.iload_n 1, 1) := by decide +kernel
theorem dX12_wire_1 : decode cX12_wire 1 = .ok (.iconst 0, 1) := by decide +kernel
theorem dX12_wire_2 : decode cX12_wire 2 = .ok (.bipush 8, 2) := by decide +kernel
theorem dX12_wire_4 : decode cX12_wire 4 = .ok (.invokestatic 86, 3) := by decide +kernel
theorem dX12_wire_7 : decode cX12_wire 7 = .ok (.ifCond .eq 22, 3) := by decide +kernel
theorem dX12_wire_10 : decode cX12_wire 10 = .ok (.iload_n 2, 1) := by decide +kernel
theorem dX12_wire_11 : decode cX12_wire 11 = .ok (.aload_n 0, 1) := by decide +kernel
theorem dX12_wire_12 : decode cX12_wire 12 = .ok (.getfield 22, 3) := by decide +kernel
theorem dX12_wire_15 : decode cX12_wire 15 = .ok (.iload_n 1, 1) := by decide +kernel
theorem dX12_wire_16 : decode cX12_wire 16 = .ok (.iaload, 1) := by decide +kernel
theorem dX12_wire_17 : decode cX12_wire 17 = .ok (.aload_n 0, 1) := by decide +kernel
theorem dX12_wire_18 : decode cX12_wire 18 = .ok (.getfield 26, 3) := by decide +kernel
theorem dX12_wire_21 : decode cX12_wire 21 = .ok (.iload_n 1, 1) := by decide +kernel
theorem dX12_wire_22 : decode cX12_wire 22 = .ok (.iaload, 1) := by decide +kernel
theorem dX12_wire_23 : decode cX12_wire 23 = .ok (.invokestatic 86, 3) := by decide +kernel
theorem dX12_wire_26 : decode cX12_wire 26 = .ok (.ifCond .ne 10, 3) := by decide +kernel
theorem dX12_wire_29 : decode cX12_wire 29 = .ok (.aload_n 0, 1) := by decide +kernel
theorem dX12_wire_30 : decode cX12_wire 30 = .ok (.ldc 90, 2) := by decide +kernel
theorem dX12_wire_32 : decode cX12_wire 32 = .ok (.invokevirtual 91, 3) := by decide +kernel
theorem dX12_wire_35 : decode cX12_wire 35 = .ok (.ireturn, 1) := by decide +kernel
theorem dX12_wire_36 : decode cX12_wire 36 = .ok (.aload_n 0, 1) := by decide +kernel
theorem dX12_wire_37 : decode cX12_wire 37 = .ok (.bipush 7, 2) := by decide +kernel
theorem dX12_wire_39 : decode cX12_wire 39 = .ok (.iload_n 1, 1) := by decide +kernel
theorem dX12_wire_40 : decode cX12_wire 40 = .ok (.iadd, 1) := by decide +kernel
theorem dX12_wire_41 : decode cX12_wire 41 = .ok (.iload_n 2, 1) := by decide +kernel
theorem dX12_wire_42 : decode cX12_wire 42 = .ok (.invokevirtual 95, 3) := by decide +kernel
theorem dX12_wire_45 : decode cX12_wire 45 = .ok (.istore_n 3, 1) := by decide +kernel
theorem dX12_wire_46 : decode cX12_wire 46 = .ok (.iconst 0, 1) := by decide +kernel
theorem dX12_wire_47 : decode cX12_wire 47 = .ok (.istore 4, 2) := by decide +kernel
theorem dX12_wire_49 : decode cX12_wire 49 = .ok (.iload 4, 2) := by decide +kernel
theorem dX12_wire_51 : decode cX12_wire 51 = .ok (.aload_n 0, 1) := by decide +kernel
theorem dX12_wire_52 : decode cX12_wire 52 = .ok (.getfield 9, 3) := by decide +kernel
theorem dX12_wire_55 : decode cX12_wire 55 = .ok (.iconst 1, 1) := by decide +kernel
theorem dX12_wire_56 : decode cX12_wire 56 = .ok (.iaload, 1) := by decide +kernel
theorem dX12_wire_57 : decode cX12_wire 57 = .ok (.if_icmp .ge 36, 3) := by decide +kernel
theorem dX12_wire_60 : decode cX12_wire 60 = .ok (.aload_n 0, 1) := by decide +kernel
theorem dX12_wire_61 : decode cX12_wire 61 = .ok (.iload 4, 2) := by decide +kernel
theorem dX12_wire_63 : decode cX12_wire 63 = .ok (.iconst 3, 1) := by decide +kernel
theorem dX12_wire_64 : decode cX12_wire 64 = .ok (.bipush 10, 2) := by decide +kernel
theorem dX12_wire_66 : decode cX12_wire 66 = .ok (.aload_n 0, 1) := by decide +kernel
theorem dX12_wire_67 : decode cX12_wire 67 = .ok (.getfield 9, 3) := by decide +kernel
theorem dX12_wire_70 : decode cX12_wire 70 = .ok (.bipush 7, 2) := by decide +kernel
theorem dX12_wire_72 : decode cX12_wire 72 = .ok (.iaload, 1) := by decide +kernel
theorem dX12_wire_73 : decode cX12_wire 73 = .ok (.imul, 1) := by decide +kernel
theorem dX12_wire_74 : decode cX12_wire 74 = .ok (.aload_n 0, 1) := by decide +kernel
theorem dX12_wire_75 : decode cX12_wire 75 = .ok (.iload 4, 2) := by decide +kernel
theorem dX12_wire_77 : decode cX12_wire 77 = .ok (.iconst 3, 1) := by decide +kernel
theorem dX12_wire_78 : decode cX12_wire 78 = .ok (.invokevirtual 98, 3) := by decide +kernel
theorem dX12_wire_81 : decode cX12_wire 81 = .ok (.invokestatic 73, 3) := by decide +kernel
theorem dX12_wire_84 : decode cX12_wire 84 = .ok (.invokevirtual 101, 3) := by decide +kernel
theorem dX12_wire_87 : decode cX12_wire 87 = .ok (.iinc 4 1, 3) := by decide +kernel
theorem dX12_wire_90 : decode cX12_wire 90 = .ok (.goto (-41), 3) := by decide +kernel
theorem dX12_wire_93 : decode cX12_wire 93 = .ok (.iload_n 3, 1) := by decide +kernel
theorem dX12_wire_94 : decode cX12_wire 94 = .ok (.ireturn, 1) := by decide +kernel
theorem dX12_within_0 : decode cX12_within 0 = .ok (.iload_n 0, 1) := by decide +kernel
theorem dX12_within_1 : decode cX12_within 1 = .ok (.iload_n 1, 1) := by decide +kernel
theorem dX12_within_2 : decode cX12_within 2 = .ok (.if_icmp .lt 12, 3) := by decide +kernel
theorem dX12_within_5 : decode cX12_within 5 = .ok (.iload_n 0, 1) := by decide +kernel
theorem dX12_within_6 : decode cX12_within 6 = .ok (.iload_n 2, 1) := by decide +kernel
theorem dX12_within_7 : decode cX12_within 7 = .ok (.if_icmp .gt 7, 3) := by decide +kernel
theorem dX12_within_10 : decode cX12_within 10 = .ok (.iconst 1, 1) := by decide +kernel
theorem dX12_within_11 : decode cX12_within 11 = .ok (.goto 4, 3) := by decide +kernel
theorem dX12_within_14 : decode cX12_within 14 = .ok (.iconst 0, 1) := by decide +kernel
theorem dX12_within_15 : decode cX12_within 15 = .ok (.ireturn, 1) := by decide +kernel
theorem dX12_worked_0 : decode cX12_worked 0 = .ok (.iconst 0, 1) := by decide +kernel
theorem dX12_worked_1 : decode cX12_worked 1 = .ok (.istore_n 2, 1) := by decide +kernel
theorem dX12_worked_2 : decode cX12_worked 2 = .ok (.iload_n 1, 1) := by decide +kernel
theorem dX12_worked_3 : decode cX12_worked 3 = .ok (.istore_n 3, 1) := by decide +kernel
theorem dX12_worked_4 : decode cX12_worked 4 = .ok (.iload_n 3, 1) := by decide +kernel
theorem dX12_worked_5 : decode cX12_worked 5 = .ok (.iload_n 1, 1) := by decide +kernel
theorem dX12_worked_6 : decode cX12_worked 6 = .ok (.aload_n 0, 1) := by decide +kernel
theorem dX12_worked_7 : decode cX12_worked 7 = .ok (.getfield 9, 3) := by decide +kernel
theorem dX12_worked_10 : decode cX12_worked 10 = .ok (.iload_n 1, 1) := by decide +kernel
theorem dX12_worked_11 : decode cX12_worked 11 = .ok (.iconst 1, 1) := by decide +kernel
theorem dX12_worked_12 : decode cX12_worked 12 = .ok (.isub, 1) := by decide +kernel
theorem dX12_worked_13 : decode cX12_worked 13 = .ok (.iaload, 1) := by decide +kernel
theorem dX12_worked_14 : decode cX12_worked 14 = .ok (.iadd, 1) := by decide +kernel
theorem dX12_worked_15 : decode cX12_worked 15 = .ok (.if_icmp .ge 126, 3) := by decide +kernel
theorem dX12_worked_18 : decode cX12_worked 18 = .ok (.aload_n 0, 1) := by decide +kernel
theorem dX12_worked_19 : decode cX12_worked 19 = .ok (.getfield 9, 3) := by decide +kernel
theorem dX12_worked_22 : decode cX12_worked 22 = .ok (.iload_n 3, 1) := by decide +kernel
theorem dX12_worked_23 : decode cX12_worked 23 = .ok (.iaload, 1) := by decide +kernel
theorem dX12_worked_24 : decode cX12_worked 24 = .ok (.istore 4, 2) := by decide +kernel
theorem dX12_worked_26 : decode cX12_worked 26 = .ok (.iload 4, 2) := by decide +kernel
theorem dX12_worked_28 : decode cX12_worked 28 = .ok (.sipush 20000, 3) := by decide +kernel
theorem dX12_worked_31 : decode cX12_worked 31 = .ok (.if_icmp .ge 39, 3) := by decide +kernel
theorem dX12_worked_34 : decode cX12_worked 34 = .ok (.aload_n 0, 1) := by decide +kernel
theorem dX12_worked_35 : decode cX12_worked 35 = .ok (.getfield 45, 3) := by decide +kernel
theorem dX12_worked_38 : decode cX12_worked 38 = .ok (.iload_n 2, 1) := by decide +kernel
theorem dX12_worked_39 : decode cX12_worked 39 = .ok (.iload 4, 2) := by decide +kernel
theorem dX12_worked_41 : decode cX12_worked 41 = .ok (.sipush 10000, 3) := by decide +kernel
theorem dX12_worked_44 : decode cX12_worked 44 = .ok (.if_icmp .ge 8, 3) := by decide +kernel
theorem dX12_worked_47 : decode cX12_worked 47 = .ok (.iload 4, 2) := by decide +kernel
theorem dX12_worked_49 : decode cX12_worked 49 = .ok (.goto 14, 3) := by decide +kernel
theorem dX12_worked_52 : decode cX12_worked 52 = .ok (.aload_n 0, 1) := by decide +kernel
theorem dX12_worked_53 : decode cX12_worked 53 = .ok (.getfield 42, 3) := by decide +kernel
theorem dX12_worked_56 : decode cX12_worked 56 = .ok (.iload 4, 2) := by decide +kernel
theorem dX12_worked_58 : decode cX12_worked 58 = .ok (.sipush 10000, 3) := by decide +kernel
theorem dX12_worked_61 : decode cX12_worked 61 = .ok (.isub, 1) := by decide +kernel
theorem dX12_worked_62 : decode cX12_worked 62 = .ok (.iaload, 1) := by decide +kernel
theorem dX12_worked_63 : decode cX12_worked 63 = .ok (.iastore, 1) := by decide +kernel
theorem dX12_worked_64 : decode cX12_worked 64 = .ok (.iinc 2 1, 3) := by decide +kernel
theorem dX12_worked_67 : decode cX12_worked 67 = .ok (.goto 68, 3) := by decide +kernel
theorem dX12_worked_70 : decode cX12_worked 70 = .ok (.iload 4, 2) := by decide +kernel
theorem dX12_worked_72 : decode cX12_worked 72 = .ok (.sipush 20010, 3) := by decide +kernel
theorem dX12_worked_75 : decode cX12_worked 75 = .ok (.if_icmp .ne 30, 3) := by decide +kernel
theorem dX12_worked_78 : decode cX12_worked 78 = .ok (.aload_n 0, 1) := by decide +kernel
theorem dX12_worked_79 : decode cX12_worked 79 = .ok (.getfield 45, 3) := by decide +kernel
theorem dX12_worked_82 : decode cX12_worked 82 = .ok (.iload_n 2, 1) := by decide +kernel
theorem dX12_worked_83 : decode cX12_worked 83 = .ok (.iconst 1, 1) := by decide +kernel
theorem dX12_worked_84 : decode cX12_worked 84 = .ok (.isub, 1) := by decide +kernel
theorem dX12_worked_85 : decode cX12_worked 85 = .ok (.aload_n 0, 1) := by decide +kernel
theorem dX12_worked_86 : decode cX12_worked 86 = .ok (.getfield 45, 3) := by decide +kernel
theorem dX12_worked_89 : decode cX12_worked 89 = .ok (.iload_n 2, 1) := by decide +kernel
theorem dX12_worked_90 : decode cX12_worked 90 = .ok (.iconst 1, 1) := by decide +kernel
theorem dX12_worked_91 : decode cX12_worked 91 = .ok (.isub, 1) := by decide +kernel
theorem dX12_worked_92 : decode cX12_worked 92 = .ok (.iaload, 1) := by decide +kernel
theorem dX12_worked_93 : decode cX12_worked 93 = .ok (.ifCond .ne 7, 3) := by decide +kernel
theorem dX12_worked_96 : decode cX12_worked 96 = .ok (.iconst 1, 1) := by decide +kernel
theorem dX12_worked_97 : decode cX12_worked 97 = .ok (.goto 4, 3) := by decide +kernel
theorem dX12_worked_100 : decode cX12_worked 100 = .ok (.iconst 0, 1) := by decide +kernel
theorem dX12_worked_101 : decode cX12_worked 101 = .ok (.iastore, 1) := by decide +kernel
theorem dX12_worked_102 : decode cX12_worked 102 = .ok (.goto 33, 3) := by decide +kernel
theorem dX12_worked_105 : decode cX12_worked 105 = .ok (.iinc 2 (-1), 3) := by decide +kernel
theorem dX12_worked_108 : decode cX12_worked 108 = .ok (.aload_n 0, 1) := by decide +kernel
theorem dX12_worked_109 : decode cX12_worked 109 = .ok (.getfield 45, 3) := by decide +kernel
theorem dX12_worked_112 : decode cX12_worked 112 = .ok (.iload_n 2, 1) := by decide +kernel
theorem dX12_worked_113 : decode cX12_worked 113 = .ok (.iconst 1, 1) := by decide +kernel
theorem dX12_worked_114 : decode cX12_worked 114 = .ok (.isub, 1) := by decide +kernel
theorem dX12_worked_115 : decode cX12_worked 115 = .ok (.iload 4, 2) := by decide +kernel
theorem dX12_worked_117 : decode cX12_worked 117 = .ok (.aload_n 0, 1) := by decide +kernel
theorem dX12_worked_118 : decode cX12_worked 118 = .ok (.getfield 45, 3) := by decide +kernel
theorem dX12_worked_121 : decode cX12_worked 121 = .ok (.iload_n 2, 1) := by decide +kernel
theorem dX12_worked_122 : decode cX12_worked 122 = .ok (.iconst 1, 1) := by decide +kernel
theorem dX12_worked_123 : decode cX12_worked 123 = .ok (.isub, 1) := by decide +kernel
theorem dX12_worked_124 : decode cX12_worked 124 = .ok (.iaload, 1) := by decide +kernel
theorem dX12_worked_125 : decode cX12_worked 125 = .ok (.aload_n 0, 1) := by decide +kernel
theorem dX12_worked_126 : decode cX12_worked 126 = .ok (.getfield 45, 3) := by decide +kernel
theorem dX12_worked_129 : decode cX12_worked 129 = .ok (.iload_n 2, 1) := by decide +kernel
theorem dX12_worked_130 : decode cX12_worked 130 = .ok (.iaload, 1) := by decide +kernel
theorem dX12_worked_131 : decode cX12_worked 131 = .ok (.invokestatic 215, 3) := by decide +kernel
theorem dX12_worked_134 : decode cX12_worked 134 = .ok (.iastore, 1) := by decide +kernel
theorem dX12_worked_135 : decode cX12_worked 135 = .ok (.iinc 3 1, 3) := by decide +kernel
theorem dX12_worked_138 : decode cX12_worked 138 = .ok (.goto (-134), 3) := by decide +kernel
theorem dX12_worked_141 : decode cX12_worked 141 = .ok (.aload_n 0, 1) := by decide +kernel
theorem dX12_worked_142 : decode cX12_worked 142 = .ok (.getfield 45, 3) := by decide +kernel
theorem dX12_worked_145 : decode cX12_worked 145 = .ok (.iconst 0, 1) := by decide +kernel
theorem dX12_worked_146 : decode cX12_worked 146 = .ok (.iaload, 1) := by decide +kernel
theorem dX12_worked_147 : decode cX12_worked 147 = .ok (.ireturn, 1) := by decide +kernel
theorem dX1_hangs_0 : decode cX1_hangs 0 = .ok (.aload_n 0, 1) := by decide +kernel
theorem dX1_hangs_1 : decode cX1_hangs 1 = .ok (.getfield 11, 3) := by decide +kernel
theorem dX1_hangs_4 : decode cX1_hangs 4 = .ok (.bipush 70, 2) := by decide +kernel
theorem dX1_hangs_6 : decode cX1_hangs 6 = .ok (.invokevirtual 17, 3) := by decide +kernel
theorem dX1_hangs_9 : decode cX1_hangs 9 = .ok (.aload_n 0, 1) := by decide +kernel
theorem dX1_hangs_10 : decode cX1_hangs 10 = .ok (.iload_n 1, 1) := by decide +kernel
theorem dX1_hangs_11 : decode cX1_hangs 11 = .ok (.iconst 1, 1) := by decide +kernel
theorem dX1_hangs_12 : decode cX1_hangs 12 = .ok (.iadd, 1) := by decide +kernel
theorem dX1_hangs_13 : decode cX1_hangs 13 = .ok (.invokespecial 23, 3) := by decide +kernel
theorem dX1_hangs_16 : decode cX1_hangs 16 = .ok (.ireturn, 1) := by decide +kernel
theorem dX1_init_0 : decode cX1_init 0 = .ok (.aload_n 0, 1) := by decide +kernel
theorem dX1_init_1 : decode cX1_init 1 = .ok (.iload_n 1, 1) := by decide +kernel
theorem dX1_init_2 : decode cX1_init 2 = .ok (.iload_n 2, 1) := by decide +kernel
theorem dX1_init_3 : decode cX1_init 3 = .ok (.iload_n 3, 1) := by decide +kernel
theorem dX1_init_4 : decode cX1_init 4 = .ok (.iload 4, 2) := by decide +kernel
theorem dX1_init_6 : decode cX1_init 6 = .ok (.aload 5, 2) := by decide +kernel
theorem dX1_init_8 : decode cX1_init 8 = .ok (.invokespecial 1, 3) := by decide +kernel
theorem dX1_init_11 : decode cX1_init 11 = .ok (.return_, 1) := by decide +kernel
theorem dX1_rubs_0 : decode cX1_rubs 0 = .ok (.aload_n 0, 1) := by decide +kernel
theorem dX1_rubs_1 : decode cX1_rubs 1 = .ok (.aload_n 1, 1) := by decide +kernel
theorem dX1_rubs_2 : decode cX1_rubs 2 = .ok (.invokespecial 7, 3) := by decide +kernel
theorem dX1_rubs_5 : decode cX1_rubs 5 = .ok (.iconst 2, 1) := by decide +kernel
theorem dX1_rubs_6 : decode cX1_rubs 6 = .ok (.idiv, 1) := by decide +kernel
theorem dX1_rubs_7 : decode cX1_rubs 7 = .ok (.ireturn, 1) := by decide +kernel
theorem dX1_wears_0 : decode cX1_wears 0 = .ok (.aload_n 0, 1) := by decide +kernel
theorem dX1_wears_1 : decode cX1_wears 1 = .ok (.getfield 11, 3) := by decide +kernel
theorem dX1_wears_4 : decode cX1_wears 4 = .ok (.bipush 71, 2) := by decide +kernel
theorem dX1_wears_6 : decode cX1_wears 6 = .ok (.invokevirtual 17, 3) := by decide +kernel
theorem dX1_wears_9 : decode cX1_wears 9 = .ok (.aload_n 0, 1) := by decide +kernel
theorem dX1_wears_10 : decode cX1_wears 10 = .ok (.iload_n 1, 1) := by decide +kernel
theorem dX1_wears_11 : decode cX1_wears 11 = .ok (.invokevirtual 27, 3) := by decide +kernel
theorem dX1_wears_14 : decode cX1_wears 14 = .ok (.aload_n 0, 1) := by decide +kernel
theorem dX1_wears_15 : decode cX1_wears 15 = .ok (.iload_n 1, 1) := by decide +kernel
theorem dX1_wears_16 : decode cX1_wears 16 = .ok (.invokespecial 30, 3) := by decide +kernel
theorem dX1_wears_19 : decode cX1_wears 19 = .ok (.isub, 1) := by decide +kernel
theorem dX1_wears_20 : decode cX1_wears 20 = .ok (.ireturn, 1) := by decide +kernel
theorem dX2_gainOfKind_0 : decode cX2_gainOfKind 0 = .ok (.aload_n 0, 1) := by decide +kernel
theorem dX2_gainOfKind_1 : decode cX2_gainOfKind 1 = .ok (.getfield 7, 3) := by decide +kernel
theorem dX2_gainOfKind_4 : decode cX2_gainOfKind 4 = .ok (.ireturn, 1) := by decide +kernel
theorem dX2_hangs_0 : decode cX2_hangs 0 = .ok (.aload_n 0, 1) := by decide +kernel
theorem dX2_hangs_1 : decode cX2_hangs 1 = .ok (.getfield 13, 3) := by decide +kernel
theorem dX2_hangs_4 : decode cX2_hangs 4 = .ok (.bipush 30, 2) := by decide +kernel
theorem dX2_hangs_6 : decode cX2_hangs 6 = .ok (.invokevirtual 17, 3) := by decide +kernel
theorem dX2_hangs_9 : decode cX2_hangs 9 = .ok (.aload_n 0, 1) := by decide +kernel
theorem dX2_hangs_10 : decode cX2_hangs 10 = .ok (.iload_n 1, 1) := by decide +kernel
theorem dX2_hangs_11 : decode cX2_hangs 11 = .ok (.invokespecial 23, 3) := by decide +kernel
theorem dX2_hangs_14 : decode cX2_hangs 14 = .ok (.iconst 3, 1) := by decide +kernel
theorem dX2_hangs_15 : decode cX2_hangs 15 = .ok (.imul, 1) := by decide +kernel
theorem dX2_hangs_16 : decode cX2_hangs 16 = .ok (.ireturn, 1) := by decide +kernel
theorem dX2_init_0 : decode cX2_init 0 = .ok (.aload_n 0, 1) := by decide +kernel
theorem dX2_init_1 : decode cX2_init 1 = .ok (.iload_n 1, 1) := by decide +kernel
theorem dX2_init_2 : decode cX2_init 2 = .ok (.iload_n 2, 1) := by decide +kernel
theorem dX2_init_3 : decode cX2_init 3 = .ok (.iload_n 3, 1) := by decide +kernel
theorem dX2_init_4 : decode cX2_init 4 = .ok (.iload 4, 2) := by decide +kernel
theorem dX2_init_6 : decode cX2_init 6 = .ok (.aload 5, 2) := by decide +kernel
theorem dX2_init_8 : decode cX2_init 8 = .ok (.invokespecial 1, 3) := by decide +kernel
theorem dX2_init_11 : decode cX2_init 11 = .ok (.return_, 1) := by decide +kernel
theorem dX3_brakesAt_0 : decode cX3_brakesAt 0 = .ok (.iload_n 2, 1) := by decide +kernel
theorem dX3_brakesAt_1 : decode cX3_brakesAt 1 = .ok (.bipush 8, 2) := by decide +kernel
theorem dX3_brakesAt_3 : decode cX3_brakesAt 3 = .ok (.aload_n 1, 1) := by decide +kernel
theorem dX3_brakesAt_4 : decode cX3_brakesAt 4 = .ok (.iconst 0, 1) := by decide +kernel
theorem dX3_brakesAt_5 : decode cX3_brakesAt 5 = .ok (.invokevirtual 9, 3) := by decide +kernel
theorem dX3_brakesAt_8 : decode cX3_brakesAt 8 = .ok (.imul, 1) := by decide +kernel
theorem dX3_brakesAt_9 : decode cX3_brakesAt 9 = .ok (.if_icmp .lt 7, 3) := by decide +kernel
theorem dX3_brakesAt_12 : decode cX3_brakesAt 12 = .ok (.iconst 1, 1) := by decide +kernel
theorem dX3_brakesAt_13 : decode cX3_brakesAt 13 = .ok (.goto 4, 3) := by decide +kernel
theorem dX3_brakesAt_16 : decode cX3_brakesAt 16 = .ok (.iconst 0, 1) := by decide +kernel
theorem dX3_brakesAt_17 : decode cX3_brakesAt 17 = .ok (.ireturn, 1) := by decide +kernel
theorem dX3_init_0 : decode cX3_init 0 = .ok (.aload_n 0, 1) := by decide +kernel
theorem dX3_init_1 : decode cX3_init 1 = .ok (.iload_n 1, 1) := by decide +kernel
theorem dX3_init_2 : decode cX3_init 2 = .ok (.iload_n 2, 1) := by decide +kernel
theorem dX3_init_3 : decode cX3_init 3 = .ok (.iload_n 3, 1) := by decide +kernel
theorem dX3_init_4 : decode cX3_init 4 = .ok (.iload 4, 2) := by decide +kernel
theorem dX3_init_6 : decode cX3_init 6 = .ok (.aload 5, 2) := by decide +kernel
theorem dX3_init_8 : decode cX3_init 8 = .ok (.invokespecial 3, 3) := by decide +kernel
theorem dX3_init_11 : decode cX3_init 11 = .ok (.return_, 1) := by decide +kernel
theorem dX3_rolls_0 : decode cX3_rolls 0 = .ok (.aload_n 0, 1) := by decide +kernel
theorem dX3_rolls_1 : decode cX3_rolls 1 = .ok (.getfield 15, 3) := by decide +kernel
theorem dX3_rolls_4 : decode cX3_rolls 4 = .ok (.bipush 60, 2) := by decide +kernel
theorem dX3_rolls_6 : decode cX3_rolls 6 = .ok (.invokevirtual 21, 3) := by decide +kernel
theorem dX3_rolls_9 : decode cX3_rolls 9 = .ok (.aload_n 0, 1) := by decide +kernel
theorem dX3_rolls_10 : decode cX3_rolls 10 = .ok (.iload_n 1, 1) := by decide +kernel
theorem dX3_rolls_11 : decode cX3_rolls 11 = .ok (.invokespecial 27, 3) := by decide +kernel
theorem dX3_rolls_14 : decode cX3_rolls 14 = .ok (.aload_n 0, 1) := by decide +kernel
theorem dX3_rolls_15 : decode cX3_rolls 15 = .ok (.getfield 30, 3) := by decide +kernel
theorem dX3_rolls_18 : decode cX3_rolls 18 = .ok (.ixor, 1) := by decide +kernel
theorem dX3_rolls_19 : decode cX3_rolls 19 = .ok (.ireturn, 1) := by decide +kernel
theorem dX4_both_0 : decode cX4_both 0 = .ok (.aload_n 0, 1) := by decide +kernel
theorem dX4_both_1 : decode cX4_both 1 = .ok (.iload_n 1, 1) := by decide +kernel
theorem dX4_both_2 : decode cX4_both 2 = .ok (.invokevirtual 77, 3) := by decide +kernel
theorem dX4_both_5 : decode cX4_both 5 = .ok (.istore_n 2, 1) := by decide +kernel
theorem dX4_both_6 : decode cX4_both 6 = .ok (.iconst 0, 1) := by decide +kernel
theorem dX4_both_7 : decode cX4_both 7 = .ok (.istore_n 3, 1) := by decide +kernel
theorem dX4_both_8 : decode cX4_both 8 = .ok (.iload_n 3, 1) := by decide +kernel
theorem dX4_both_9 : decode cX4_both 9 = .ok (.bipush 50, 2) := by decide +kernel
theorem dX4_both_11 : decode cX4_both 11 = .ok (.if_icmp .ge 43, 3) := by decide +kernel
theorem dX4_both_14 : decode cX4_both 14 = .ok (.aload_n 0, 1) := by decide +kernel
theorem dX4_both_15 : decode cX4_both 15 = .ok (.bipush 38, 2) := by decide +kernel
theorem dX4_both_17 : decode cX4_both 17 = .ok (.invokevirtual 69, 3) := by decide +kernel
theorem dX4_both_20 : decode cX4_both 20 = .ok (.ifCond .eq 34, 3) := by decide +kernel
theorem dX4_both_23 : decode cX4_both 23 = .ok (.aload_n 0, 1) := by decide +kernel
theorem dX4_both_24 : decode cX4_both 24 = .ok (.iload_n 1, 1) := by decide +kernel
theorem dX4_both_25 : decode cX4_both 25 = .ok (.invokevirtual 77, 3) := by decide +kernel
theorem dX4_both_28 : decode cX4_both 28 = .ok (.istore 4, 2) := by decide +kernel
theorem dX4_both_30 : decode cX4_both 30 = .ok (.iload_n 2, 1) := by decide +kernel
theorem dX4_both_31 : decode cX4_both 31 = .ok (.ifCond .eq 12, 3) := by decide +kernel
theorem dX4_both_34 : decode cX4_both 34 = .ok (.iload 4, 2) := by decide +kernel
theorem dX4_both_36 : decode cX4_both 36 = .ok (.ifCond .eq 7, 3) := by decide +kernel
theorem dX4_both_39 : decode cX4_both 39 = .ok (.iconst 1, 1) := by decide +kernel
theorem dX4_both_40 : decode cX4_both 40 = .ok (.goto 4, 3) := by decide +kernel
theorem dX4_both_43 : decode cX4_both 43 = .ok (.iconst 0, 1) := by decide +kernel
theorem dX4_both_44 : decode cX4_both 44 = .ok (.invokestatic 73, 3) := by decide +kernel
theorem dX4_both_47 : decode cX4_both 47 = .ok (.istore_n 2, 1) := by decide +kernel
theorem dX4_both_48 : decode cX4_both 48 = .ok (.iinc 3 1, 3) := by decide +kernel
theorem dX4_both_51 : decode cX4_both 51 = .ok (.goto (-43), 3) := by decide +kernel
theorem dX4_both_54 : decode cX4_both 54 = .ok (.iload_n 2, 1) := by decide +kernel
theorem dX4_both_55 : decode cX4_both 55 = .ok (.ireturn, 1) := by decide +kernel
theorem dX4_compared_0 : decode cX4_compared 0 = .ok (.aload_n 0, 1) := by decide +kernel
theorem dX4_compared_1 : decode cX4_compared 1 = .ok (.iload_n 1, 1) := by decide +kernel
theorem dX4_compared_2 : decode cX4_compared 2 = .ok (.invokevirtual 80, 3) := by decide +kernel
theorem dX4_compared_5 : decode cX4_compared 5 = .ok (.istore_n 2, 1) := by decide +kernel
theorem dX4_compared_6 : decode cX4_compared 6 = .ok (.aload_n 0, 1) := by decide +kernel
theorem dX4_compared_7 : decode cX4_compared 7 = .ok (.bipush 60, 2) := by decide +kernel
theorem dX4_compared_9 : decode cX4_compared 9 = .ok (.invokevirtual 69, 3) := by decide +kernel
theorem dX4_compared_12 : decode cX4_compared 12 = .ok (.ifCond .eq 21, 3) := by decide +kernel
theorem dX4_compared_15 : decode cX4_compared 15 = .ok (.iload_n 2, 1) := by decide +kernel
theorem dX4_compared_16 : decode cX4_compared 16 = .ok (.aload_n 0, 1) := by decide +kernel
theorem dX4_compared_17 : decode cX4_compared 17 = .ok (.iload_n 1, 1) := by decide +kernel
theorem dX4_compared_18 : decode cX4_compared 18 = .ok (.invokevirtual 80, 3) := by decide +kernel
theorem dX4_compared_21 : decode cX4_compared 21 = .ok (.if_icmp .ge 7, 3) := by decide +kernel
theorem dX4_compared_24 : decode cX4_compared 24 = .ok (.iconst 1, 1) := by decide +kernel
theorem dX4_compared_25 : decode cX4_compared 25 = .ok (.goto 4, 3) := by decide +kernel
theorem dX4_compared_28 : decode cX4_compared 28 = .ok (.iconst 0, 1) := by decide +kernel
theorem dX4_compared_29 : decode cX4_compared 29 = .ok (.invokestatic 73, 3) := by decide +kernel
theorem dX4_compared_32 : decode cX4_compared 32 = .ok (.ireturn, 1) := by decide +kernel
theorem dX4_compared_33 : decode cX4_compared 33 = .ok (.aload_n 0, 1) := by decide +kernel
theorem dX4_compared_34 : decode cX4_compared 34 = .ok (.bipush 61, 2) := by decide +kernel
theorem dX4_compared_36 : decode cX4_compared 36 = .ok (.invokevirtual 69, 3) := by decide +kernel
theorem dX4_compared_39 : decode cX4_compared 39 = .ok (.ifCond .eq 21, 3) := by decide +kernel
theorem dX4_compared_42 : decode cX4_compared 42 = .ok (.iload_n 2, 1) := by decide +kernel
theorem dX4_compared_43 : decode cX4_compared 43 = .ok (.aload_n 0, 1) := by decide +kernel
theorem dX4_compared_44 : decode cX4_compared 44 = .ok (.iload_n 1, 1) := by decide +kernel
theorem dX4_compared_45 : decode cX4_compared 45 = .ok (.invokevirtual 80, 3) := by decide +kernel
theorem dX4_compared_48 : decode cX4_compared 48 = .ok (.if_icmp .ne 7, 3) := by decide +kernel
theorem dX4_compared_51 : decode cX4_compared 51 = .ok (.iconst 1, 1) := by decide +kernel
theorem dX4_compared_52 : decode cX4_compared 52 = .ok (.goto 4, 3) := by decide +kernel
theorem dX4_compared_55 : decode cX4_compared 55 = .ok (.iconst 0, 1) := by decide +kernel
theorem dX4_compared_56 : decode cX4_compared 56 = .ok (.invokestatic 73, 3) := by decide +kernel
theorem dX4_compared_59 : decode cX4_compared 59 = .ok (.ireturn, 1) := by decide +kernel
theorem dX4_compared_60 : decode cX4_compared 60 = .ok (.aload_n 0, 1) := by decide +kernel
theorem dX4_compared_61 : decode cX4_compared 61 = .ok (.bipush 62, 2) := by decide +kernel
theorem dX4_compared_63 : decode cX4_compared 63 = .ok (.invokevirtual 69, 3) := by decide +kernel
theorem dX4_compared_66 : decode cX4_compared 66 = .ok (.ifCond .eq 21, 3) := by decide +kernel
theorem dX4_compared_69 : decode cX4_compared 69 = .ok (.iload_n 2, 1) := by decide +kernel
theorem dX4_compared_70 : decode cX4_compared 70 = .ok (.aload_n 0, 1) := by decide +kernel
theorem dX4_compared_71 : decode cX4_compared 71 = .ok (.iload_n 1, 1) := by decide +kernel
theorem dX4_compared_72 : decode cX4_compared 72 = .ok (.invokevirtual 80, 3) := by decide +kernel
theorem dX4_compared_75 : decode cX4_compared 75 = .ok (.if_icmp .le 7, 3) := by decide +kernel
theorem dX4_compared_78 : decode cX4_compared 78 = .ok (.iconst 1, 1) := by decide +kernel
theorem dX4_compared_79 : decode cX4_compared 79 = .ok (.goto 4, 3) := by decide +kernel
theorem dX4_compared_82 : decode cX4_compared 82 = .ok (.iconst 0, 1) := by decide +kernel
theorem dX4_compared_83 : decode cX4_compared 83 = .ok (.invokestatic 73, 3) := by decide +kernel
theorem dX4_compared_86 : decode cX4_compared 86 = .ok (.ireturn, 1) := by decide +kernel
theorem dX4_compared_87 : decode cX4_compared 87 = .ok (.iload_n 2, 1) := by decide +kernel
theorem dX4_compared_88 : decode cX4_compared 88 = .ok (.ireturn, 1) := by decide +kernel
theorem dX4_either_0 : decode cX4_either 0 = .ok (.aload_n 0, 1) := by decide +kernel
theorem dX4_either_1 : decode cX4_either 1 = .ok (.iload_n 1, 1) := by decide +kernel
theorem dX4_either_2 : decode cX4_either 2 = .ok (.invokevirtual 66, 3) := by decide +kernel
theorem dX4_either_5 : decode cX4_either 5 = .ok (.istore_n 2, 1) := by decide +kernel
theorem dX4_either_6 : decode cX4_either 6 = .ok (.iconst 0, 1) := by decide +kernel
theorem dX4_either_7 : decode cX4_either 7 = .ok (.istore_n 3, 1) := by decide +kernel
theorem dX4_either_8 : decode cX4_either 8 = .ok (.iload_n 3, 1) := by decide +kernel
theorem dX4_either_9 : decode cX4_either 9 = .ok (.bipush 50, 2) := by decide +kernel
theorem dX4_either_11 : decode cX4_either 11 = .ok (.if_icmp .ge 43, 3) := by decide +kernel
theorem dX4_either_14 : decode cX4_either 14 = .ok (.aload_n 0, 1) := by decide +kernel
theorem dX4_either_15 : decode cX4_either 15 = .ok (.bipush 124, 2) := by decide +kernel
theorem dX4_either_17 : decode cX4_either 17 = .ok (.invokevirtual 69, 3) := by decide +kernel
theorem dX4_either_20 : decode cX4_either 20 = .ok (.ifCond .eq 34, 3) := by decide +kernel
theorem dX4_either_23 : decode cX4_either 23 = .ok (.aload_n 0, 1) := by decide +kernel
theorem dX4_either_24 : decode cX4_either 24 = .ok (.iload_n 1, 1) := by decide +kernel
theorem dX4_either_25 : decode cX4_either 25 = .ok (.invokevirtual 66, 3) := by decide +kernel
theorem dX4_either_28 : decode cX4_either 28 = .ok (.istore 4, 2) := by decide +kernel
theorem dX4_either_30 : decode cX4_either 30 = .ok (.iload_n 2, 1) := by decide +kernel
theorem dX4_either_31 : decode cX4_either 31 = .ok (.ifCond .ne 8, 3) := by decide +kernel
theorem dX4_either_34 : decode cX4_either 34 = .ok (.iload 4, 2) := by decide +kernel
theorem dX4_either_36 : decode cX4_either 36 = .ok (.ifCond .eq 7, 3) := by decide +kernel
theorem dX4_either_39 : decode cX4_either 39 = .ok (.iconst 1, 1) := by decide +kernel
theorem dX4_either_40 : decode cX4_either 40 = .ok (.goto 4, 3) := by decide +kernel
theorem dX4_either_43 : decode cX4_either 43 = .ok (.iconst 0, 1) := by decide +kernel
theorem dX4_either_44 : decode cX4_either 44 = .ok (.invokestatic 73, 3) := by decide +kernel
theorem dX4_either_47 : decode cX4_either 47 = .ok (.istore_n 2, 1) := by decide +kernel
theorem dX4_either_48 : decode cX4_either 48 = .ok (.iinc 3 1, 3) := by decide +kernel
theorem dX4_either_51 : decode cX4_either 51 = .ok (.goto (-43), 3) := by decide +kernel
theorem dX4_either_54 : decode cX4_either 54 = .ok (.iload_n 2, 1) := by decide +kernel
theorem dX4_either_55 : decode cX4_either 55 = .ok (.ireturn, 1) := by decide +kernel
theorem dX4_faultOf_0 : decode cX4_faultOf 0 = .ok (.aload_n 0, 1) := by decide +kernel
theorem dX4_faultOf_1 : decode cX4_faultOf 1 = .ok (.aload_n 1, 1) := by decide +kernel
theorem dX4_faultOf_2 : decode cX4_faultOf 2 = .ok (.iload_n 2, 1) := by decide +kernel
theorem dX4_faultOf_3 : decode cX4_faultOf 3 = .ok (.iconst 0, 1) := by decide +kernel
theorem dX4_faultOf_4 : decode cX4_faultOf 4 = .ok (.iconst 0, 1) := by decide +kernel
theorem dX4_faultOf_5 : decode cX4_faultOf 5 = .ok (.iconst 0, 1) := by decide +kernel
theorem dX4_faultOf_6 : decode cX4_faultOf 6 = .ok (.iconst 0, 1) := by decide +kernel
theorem dX4_faultOf_7 : decode cX4_faultOf 7 = .ok (.invokevirtual 37, 3) := by decide +kernel
theorem dX4_faultOf_10 : decode cX4_faultOf 10 = .ok (.pop, 1) := by decide +kernel
theorem dX4_faultOf_11 : decode cX4_faultOf 11 = .ok (.aload_n 0, 1) := by decide +kernel
theorem dX4_faultOf_12 : decode cX4_faultOf 12 = .ok (.getfield 34, 3) := by decide +kernel
theorem dX4_faultOf_15 : decode cX4_faultOf 15 = .ok (.ireturn, 1) := by decide +kernel
theorem dX4_gives_0 : decode cX4_gives 0 = .ok (.aload_n 0, 1) := by decide +kernel
theorem dX4_gives_1 : decode cX4_gives 1 = .ok (.aload_n 1, 1) := by decide +kernel
theorem dX4_gives_2 : decode cX4_gives 2 = .ok (.putfield 20, 3) := by decide +kernel
theorem dX4_gives_5 : decode cX4_gives 5 = .ok (.aload_n 0, 1) := by decide +kernel
theorem dX4_gives_6 : decode cX4_gives 6 = .ok (.iload_n 2, 1) := by decide +kernel
theorem dX4_gives_7 : decode cX4_gives 7 = .ok (.ifCond .ne 8, 3) := by decide +kernel
theorem dX4_gives_10 : decode cX4_gives 10 = .ok (.ldc 41, 2) := by decide +kernel
theorem dX4_gives_12 : decode cX4_gives 12 = .ok (.goto 5, 3) := by decide +kernel
theorem dX4_gives_15 : decode cX4_gives 15 = .ok (.ldc 43, 2) := by decide +kernel
theorem dX4_gives_17 : decode cX4_gives 17 = .ok (.putfield 26, 3) := by decide +kernel
theorem dX4_gives_20 : decode cX4_gives 20 = .ok (.aload_n 0, 1) := by decide +kernel
theorem dX4_gives_21 : decode cX4_gives 21 = .ok (.getfield 9, 3) := by decide +kernel
theorem dX4_gives_24 : decode cX4_gives 24 = .ok (.iconst 0, 1) := by decide +kernel
theorem dX4_gives_25 : decode cX4_gives 25 = .ok (.iload_n 3, 1) := by decide +kernel
theorem dX4_gives_26 : decode cX4_gives 26 = .ok (.iastore, 1) := by decide +kernel
theorem dX4_gives_27 : decode cX4_gives 27 = .ok (.aload_n 0, 1) := by decide +kernel
theorem dX4_gives_28 : decode cX4_gives 28 = .ok (.getfield 9, 3) := by decide +kernel
theorem dX4_gives_31 : decode cX4_gives 31 = .ok (.iconst 1, 1) := by decide +kernel
theorem dX4_gives_32 : decode cX4_gives 32 = .ok (.iload 4, 2) := by decide +kernel
theorem dX4_gives_34 : decode cX4_gives 34 = .ok (.iastore, 1) := by decide +kernel
theorem dX4_gives_35 : decode cX4_gives 35 = .ok (.aload_n 0, 1) := by decide +kernel
theorem dX4_gives_36 : decode cX4_gives 36 = .ok (.getfield 9, 3) := by decide +kernel
theorem dX4_gives_39 : decode cX4_gives 39 = .ok (.iconst 2, 1) := by decide +kernel
theorem dX4_gives_40 : decode cX4_gives 40 = .ok (.iload 5, 2) := by decide +kernel
theorem dX4_gives_42 : decode cX4_gives 42 = .ok (.iastore, 1) := by decide +kernel
theorem dX4_gives_43 : decode cX4_gives 43 = .ok (.aload_n 0, 1) := by decide +kernel
theorem dX4_gives_44 : decode cX4_gives 44 = .ok (.getfield 9, 3) := by decide +kernel
theorem dX4_gives_47 : decode cX4_gives 47 = .ok (.iconst 3, 1) := by decide +kernel
theorem dX4_gives_48 : decode cX4_gives 48 = .ok (.iload 6, 2) := by decide +kernel
theorem dX4_gives_50 : decode cX4_gives 50 = .ok (.iastore, 1) := by decide +kernel
theorem dX4_gives_51 : decode cX4_gives 51 = .ok (.aload_n 0, 1) := by decide +kernel
theorem dX4_gives_52 : decode cX4_gives 52 = .ok (.iconst 0, 1) := by decide +kernel
theorem dX4_gives_53 : decode cX4_gives 53 = .ok (.putfield 30, 3) := by decide +kernel
theorem dX4_gives_56 : decode cX4_gives 56 = .ok (.aload_n 0, 1) := by decide +kernel
theorem dX4_gives_57 : decode cX4_gives 57 = .ok (.iconst (-1), 1) := by decide +kernel
theorem dX4_gives_58 : decode cX4_gives 58 = .ok (.putfield 34, 3) := by decide +kernel
theorem dX4_gives_61 : decode cX4_gives 61 = .ok (.aload_n 0, 1) := by decide +kernel
theorem dX4_gives_62 : decode cX4_gives 62 = .ok (.iconst 0, 1) := by decide +kernel
theorem dX4_gives_63 : decode cX4_gives 63 = .ok (.invokevirtual 45, 3) := by decide +kernel
theorem dX4_gives_66 : decode cX4_gives 66 = .ok (.istore 7, 2) := by decide +kernel
theorem dX4_gives_68 : decode cX4_gives 68 = .ok (.aload_n 0, 1) := by decide +kernel
theorem dX4_gives_69 : decode cX4_gives 69 = .ok (.invokevirtual 49, 3) := by decide +kernel
theorem dX4_gives_72 : decode cX4_gives 72 = .ok (.iconst (-1), 1) := by decide +kernel
theorem dX4_gives_73 : decode cX4_gives 73 = .ok (.if_icmp .eq 8, 3) := by decide +kernel
theorem dX4_gives_76 : decode cX4_gives 76 = .ok (.aload_n 0, 1) := by decide +kernel
theorem dX4_gives_77 : decode cX4_gives 77 = .ok (.invokevirtual 53, 3) := by decide +kernel
theorem dX4_gives_80 : decode cX4_gives 80 = .ok (.pop, 1) := by decide +kernel
theorem dX4_gives_81 : decode cX4_gives 81 = .ok (.iload_n 2, 1) := by decide +kernel
theorem dX4_gives_82 : decode cX4_gives 82 = .ok (.ifCond .ne 14, 3) := by decide +kernel
theorem dX4_gives_85 : decode cX4_gives 85 = .ok (.iload 7, 2) := by decide +kernel
theorem dX4_gives_87 : decode cX4_gives 87 = .ok (.iconst 0, 1) := by decide +kernel
theorem dX4_gives_88 : decode cX4_gives 88 = .ok (.bipush 99, 2) := by decide +kernel
theorem dX4_gives_90 : decode cX4_gives 90 = .ok (.invokestatic 56, 3) := by decide +kernel
theorem dX4_gives_93 : decode cX4_gives 93 = .ok (.goto 5, 3) := by decide +kernel
theorem dX4_gives_96 : decode cX4_gives 96 = .ok (.iload 7, 2) := by decide +kernel
theorem dX4_gives_98 : decode cX4_gives 98 = .ok (.ireturn, 1) := by decide +kernel
theorem dX4_init_0 : decode cX4_init 0 = .ok (.aload_n 0, 1) := by decide +kernel
theorem dX4_init_1 : decode cX4_init 1 = .ok (.invokespecial 3, 3) := by decide +kernel
theorem dX4_init_4 : decode cX4_init 4 = .ok (.aload_n 0, 1) := by decide +kernel
theorem dX4_init_5 : decode cX4_init 5 = .ok (.iconst 4, 1) := by decide +kernel
theorem dX4_init_6 : decode cX4_init 6 = .ok (.newarray .int, 2) := by decide +kernel
theorem dX4_init_8 : decode cX4_init 8 = .ok (.putfield 9, 3) := by decide +kernel
theorem dX4_init_11 : decode cX4_init 11 = .ok (.aload_n 0, 1) := by decide +kernel
theorem dX4_init_12 : decode cX4_init 12 = .ok (.new 15, 3) := by decide +kernel
theorem dX4_init_15 : decode cX4_init 15 = .ok (.dup, 1) := by decide +kernel
theorem dX4_init_16 : decode cX4_init 16 = .ok (.iconst 0, 1) := by decide +kernel
theorem dX4_init_17 : decode cX4_init 17 = .ok (.invokespecial 17, 3) := by decide +kernel
theorem dX4_init_20 : decode cX4_init 20 = .ok (.putfield 20, 3) := by decide +kernel
theorem dX4_init_23 : decode cX4_init 23 = .ok (.aload_n 0, 1) := by decide +kernel
theorem dX4_init_24 : decode cX4_init 24 = .ok (.ldc 24, 2) := by decide +kernel
theorem dX4_init_26 : decode cX4_init 26 = .ok (.putfield 26, 3) := by decide +kernel
theorem dX4_init_29 : decode cX4_init 29 = .ok (.aload_n 0, 1) := by decide +kernel
theorem dX4_init_30 : decode cX4_init 30 = .ok (.iconst 0, 1) := by decide +kernel
theorem dX4_init_31 : decode cX4_init 31 = .ok (.putfield 30, 3) := by decide +kernel
theorem dX4_init_34 : decode cX4_init 34 = .ok (.aload_n 0, 1) := by decide +kernel
theorem dX4_init_35 : decode cX4_init 35 = .ok (.iconst (-1), 1) := by decide +kernel
theorem dX4_init_36 : decode cX4_init 36 = .ok (.putfield 34, 3) := by decide +kernel
theorem dX4_init_39 : decode cX4_init 39 = .ok (.return_, 1) := by decide +kernel
theorem dX4_next_0 : decode cX4_next 0 = .ok (.aload_n 0, 1) := by decide +kernel
theorem dX4_next_1 : decode cX4_next 1 = .ok (.getfield 34, 3) := by decide +kernel
theorem dX4_next_4 : decode cX4_next 4 = .ok (.ifCond .ge 32, 3) := by decide +kernel
theorem dX4_next_7 : decode cX4_next 7 = .ok (.aload_n 0, 1) := by decide +kernel
theorem dX4_next_8 : decode cX4_next 8 = .ok (.getfield 30, 3) := by decide +kernel
theorem dX4_next_11 : decode cX4_next 11 = .ok (.aload_n 0, 1) := by decide +kernel
theorem dX4_next_12 : decode cX4_next 12 = .ok (.getfield 20, 3) := by decide +kernel
theorem dX4_next_15 : decode cX4_next 15 = .ok (.getfield 60, 3) := by decide +kernel
theorem dX4_next_18 : decode cX4_next 18 = .ok (.if_icmp .ge 18, 3) := by decide +kernel
theorem dX4_next_21 : decode cX4_next 21 = .ok (.aload_n 0, 1) := by decide +kernel
theorem dX4_next_22 : decode cX4_next 22 = .ok (.getfield 20, 3) := by decide +kernel
theorem dX4_next_25 : decode cX4_next 25 = .ok (.getfield 63, 3) := by decide +kernel
theorem dX4_next_28 : decode cX4_next 28 = .ok (.aload_n 0, 1) := by decide +kernel
theorem dX4_next_29 : decode cX4_next 29 = .ok (.getfield 30, 3) := by decide +kernel
theorem dX4_next_32 : decode cX4_next 32 = .ok (.iaload, 1) := by decide +kernel
theorem dX4_next_33 : decode cX4_next 33 = .ok (.goto 4, 3) := by decide +kernel
theorem dX4_next_36 : decode cX4_next 36 = .ok (.iconst (-1), 1) := by decide +kernel
theorem dX4_next_37 : decode cX4_next 37 = .ok (.ireturn, 1) := by decide +kernel
theorem dX4_number_0 : decode cX4_number 0 = .ok (.iconst 0, 1) := by decide +kernel
theorem dX4_number_1 : decode cX4_number 1 = .ok (.istore_n 1, 1) := by decide +kernel
theorem dX4_number_2 : decode cX4_number 2 = .ok (.iconst 0, 1) := by decide +kernel
theorem dX4_number_3 : decode cX4_number 3 = .ok (.istore_n 2, 1) := by decide +kernel
theorem dX4_number_4 : decode cX4_number 4 = .ok (.iload_n 2, 1) := by decide +kernel
theorem dX4_number_5 : decode cX4_number 5 = .ok (.iconst 4, 1) := by decide +kernel
theorem dX4_number_6 : decode cX4_number 6 = .ok (.if_icmp .ge 46, 3) := by decide +kernel
theorem dX4_number_9 : decode cX4_number 9 = .ok (.aload_n 0, 1) := by decide +kernel
theorem dX4_number_10 : decode cX4_number 10 = .ok (.invokevirtual 49, 3) := by decide +kernel
theorem dX4_number_13 : decode cX4_number 13 = .ok (.bipush 48, 2) := by decide +kernel
theorem dX4_number_15 : decode cX4_number 15 = .ok (.bipush 57, 2) := by decide +kernel
theorem dX4_number_17 : decode cX4_number 17 = .ok (.invokestatic 89, 3) := by decide +kernel
theorem dX4_number_20 : decode cX4_number 20 = .ok (.ifCond .eq 32, 3) := by decide +kernel
theorem dX4_number_23 : decode cX4_number 23 = .ok (.bipush 10, 2) := by decide +kernel
theorem dX4_number_25 : decode cX4_number 25 = .ok (.iload_n 1, 1) := by decide +kernel
theorem dX4_number_26 : decode cX4_number 26 = .ok (.imul, 1) := by decide +kernel
theorem dX4_number_27 : decode cX4_number 27 = .ok (.aload_n 0, 1) := by decide +kernel
theorem dX4_number_28 : decode cX4_number 28 = .ok (.invokevirtual 49, 3) := by decide +kernel
theorem dX4_number_31 : decode cX4_number 31 = .ok (.iadd, 1) := by decide +kernel
theorem dX4_number_32 : decode cX4_number 32 = .ok (.bipush 48, 2) := by decide +kernel
theorem dX4_number_34 : decode cX4_number 34 = .ok (.isub, 1) := by decide +kernel
theorem dX4_number_35 : decode cX4_number 35 = .ok (.istore_n 1, 1) := by decide +kernel
theorem dX4_number_36 : decode cX4_number 36 = .ok (.aload_n 0, 1) := by decide +kernel
theorem dX4_number_37 : decode cX4_number 37 = .ok (.dup, 1) := by decide +kernel
theorem dX4_number_38 : decode cX4_number 38 = .ok (.getfield 30, 3) := by decide +kernel
theorem dX4_number_41 : decode cX4_number 41 = .ok (.iconst 1, 1) := by decide +kernel
theorem dX4_number_42 : decode cX4_number 42 = .ok (.iadd, 1) := by decide +kernel
theorem dX4_number_43 : decode cX4_number 43 = .ok (.putfield 30, 3) := by decide +kernel
theorem dX4_number_46 : decode cX4_number 46 = .ok (.iinc 2 1, 3) := by decide +kernel
theorem dX4_number_49 : decode cX4_number 49 = .ok (.goto (-45), 3) := by decide +kernel
theorem dX4_number_52 : decode cX4_number 52 = .ok (.iload_n 1, 1) := by decide +kernel
theorem dX4_number_53 : decode cX4_number 53 = .ok (.ireturn, 1) := by decide +kernel
theorem dX4_opened_0 : decode cX4_opened 0 = .ok (.aload_n 0, 1) := by decide +kernel
theorem dX4_opened_1 : decode cX4_opened 1 = .ok (.bipush 33, 2) := by decide +kernel
theorem dX4_opened_3 : decode cX4_opened 3 = .ok (.invokevirtual 69, 3) := by decide +kernel
theorem dX4_opened_6 : decode cX4_opened 6 = .ok (.ifCond .eq 20, 3) := by decide +kernel
theorem dX4_opened_9 : decode cX4_opened 9 = .ok (.aload_n 0, 1) := by decide +kernel
theorem dX4_opened_10 : decode cX4_opened 10 = .ok (.iload_n 1, 1) := by decide +kernel
theorem dX4_opened_11 : decode cX4_opened 11 = .ok (.invokevirtual 86, 3) := by decide +kernel
theorem dX4_opened_14 : decode cX4_opened 14 = .ok (.ifCond .ne 7, 3) := by decide +kernel
theorem dX4_opened_17 : decode cX4_opened 17 = .ok (.iconst 1, 1) := by decide +kernel
theorem dX4_opened_18 : decode cX4_opened 18 = .ok (.goto 4, 3) := by decide +kernel
theorem dX4_opened_21 : decode cX4_opened 21 = .ok (.iconst 0, 1) := by decide +kernel
theorem dX4_opened_22 : decode cX4_opened 22 = .ok (.invokestatic 73, 3) := by decide +kernel
theorem dX4_opened_25 : decode cX4_opened 25 = .ok (.ireturn, 1) := by decide +kernel
theorem dX4_opened_26 : decode cX4_opened 26 = .ok (.aload_n 0, 1) := by decide +kernel
theorem dX4_opened_27 : decode cX4_opened 27 = .ok (.dup, 1) := by decide +kernel
theorem dX4_opened_28 : decode cX4_opened 28 = .ok (.getfield 30, 3) := by decide +kernel
theorem dX4_opened_31 : decode cX4_opened 31 = .ok (.iconst 1, 1) := by decide +kernel
theorem dX4_opened_32 : decode cX4_opened 32 = .ok (.iadd, 1) := by decide +kernel
theorem dX4_opened_33 : decode cX4_opened 33 = .ok (.putfield 30, 3) := by decide +kernel
theorem dX4_opened_36 : decode cX4_opened 36 = .ok (.aload_n 0, 1) := by decide +kernel
theorem dX4_opened_37 : decode cX4_opened 37 = .ok (.iload_n 1, 1) := by decide +kernel
theorem dX4_opened_38 : decode cX4_opened 38 = .ok (.invokevirtual 45, 3) := by decide +kernel
theorem dX4_opened_41 : decode cX4_opened 41 = .ok (.istore_n 2, 1) := by decide +kernel
theorem dX4_opened_42 : decode cX4_opened 42 = .ok (.aload_n 0, 1) := by decide +kernel
theorem dX4_opened_43 : decode cX4_opened 43 = .ok (.bipush 41, 2) := by decide +kernel
theorem dX4_opened_45 : decode cX4_opened 45 = .ok (.invokevirtual 69, 3) := by decide +kernel
theorem dX4_opened_48 : decode cX4_opened 48 = .ok (.ifCond .eq 7, 3) := by decide +kernel
theorem dX4_opened_51 : decode cX4_opened 51 = .ok (.iload_n 2, 1) := by decide +kernel
theorem dX4_opened_52 : decode cX4_opened 52 = .ok (.goto 7, 3) := by decide +kernel
theorem dX4_opened_55 : decode cX4_opened 55 = .ok (.aload_n 0, 1) := by decide +kernel
theorem dX4_opened_56 : decode cX4_opened 56 = .ok (.invokevirtual 53, 3) := by decide +kernel
theorem dX4_opened_59 : decode cX4_opened 59 = .ok (.ireturn, 1) := by decide +kernel
theorem dX4_product_0 : decode cX4_product 0 = .ok (.aload_n 0, 1) := by decide +kernel
theorem dX4_product_1 : decode cX4_product 1 = .ok (.iload_n 1, 1) := by decide +kernel
theorem dX4_product_2 : decode cX4_product 2 = .ok (.invokevirtual 86, 3) := by decide +kernel
theorem dX4_product_5 : decode cX4_product 5 = .ok (.istore_n 2, 1) := by decide +kernel
theorem dX4_product_6 : decode cX4_product 6 = .ok (.iconst 0, 1) := by decide +kernel
theorem dX4_product_7 : decode cX4_product 7 = .ok (.istore_n 3, 1) := by decide +kernel
theorem dX4_product_8 : decode cX4_product 8 = .ok (.iload_n 3, 1) := by decide +kernel
theorem dX4_product_9 : decode cX4_product 9 = .ok (.bipush 50, 2) := by decide +kernel
theorem dX4_product_11 : decode cX4_product 11 = .ok (.if_icmp .ge 92, 3) := by decide +kernel
theorem dX4_product_14 : decode cX4_product 14 = .ok (.aload_n 0, 1) := by decide +kernel
theorem dX4_product_15 : decode cX4_product 15 = .ok (.bipush 42, 2) := by decide +kernel
theorem dX4_product_17 : decode cX4_product 17 = .ok (.invokevirtual 69, 3) := by decide +kernel
theorem dX4_product_20 : decode cX4_product 20 = .ok (.ifCond .eq 14, 3) := by decide +kernel
theorem dX4_product_23 : decode cX4_product 23 = .ok (.iload_n 2, 1) := by decide +kernel
theorem dX4_product_24 : decode cX4_product 24 = .ok (.aload_n 0, 1) := by decide +kernel
theorem dX4_product_25 : decode cX4_product 25 = .ok (.iload_n 1, 1) := by decide +kernel
theorem dX4_product_26 : decode cX4_product 26 = .ok (.invokevirtual 86, 3) := by decide +kernel
theorem dX4_product_29 : decode cX4_product 29 = .ok (.imul, 1) := by decide +kernel
theorem dX4_product_30 : decode cX4_product 30 = .ok (.istore_n 2, 1) := by decide +kernel
theorem dX4_product_31 : decode cX4_product 31 = .ok (.goto 66, 3) := by decide +kernel
theorem dX4_product_34 : decode cX4_product 34 = .ok (.aload_n 0, 1) := by decide +kernel
theorem dX4_product_35 : decode cX4_product 35 = .ok (.bipush 47, 2) := by decide +kernel
theorem dX4_product_37 : decode cX4_product 37 = .ok (.invokevirtual 69, 3) := by decide +kernel
theorem dX4_product_40 : decode cX4_product 40 = .ok (.ifCond .eq 27, 3) := by decide +kernel
theorem dX4_product_43 : decode cX4_product 43 = .ok (.aload_n 0, 1) := by decide +kernel
theorem dX4_product_44 : decode cX4_product 44 = .ok (.iload_n 1, 1) := by decide +kernel
theorem dX4_product_45 : decode cX4_product 45 = .ok (.invokevirtual 86, 3) := by decide +kernel
theorem dX4_product_48 : decode cX4_product 48 = .ok (.istore 4, 2) := by decide +kernel
theorem dX4_product_50 : decode cX4_product 50 = .ok (.iload 4, 2) := by decide +kernel
theorem dX4_product_52 : decode cX4_product 52 = .ok (.ifCond .ne 7, 3) := by decide +kernel
theorem dX4_product_55 : decode cX4_product 55 = .ok (.iconst 0, 1) := by decide +kernel
theorem dX4_product_56 : decode cX4_product 56 = .ok (.goto 7, 3) := by decide +kernel
theorem dX4_product_59 : decode cX4_product 59 = .ok (.iload_n 2, 1) := by decide +kernel
theorem dX4_product_60 : decode cX4_product 60 = .ok (.iload 4, 2) := by decide +kernel
theorem dX4_product_62 : decode cX4_product 62 = .ok (.idiv, 1) := by decide +kernel
theorem dX4_product_63 : decode cX4_product 63 = .ok (.istore_n 2, 1) := by decide +kernel
theorem dX4_product_64 : decode cX4_product 64 = .ok (.goto 33, 3) := by decide +kernel
theorem dX4_product_67 : decode cX4_product 67 = .ok (.aload_n 0, 1) := by decide +kernel
theorem dX4_product_68 : decode cX4_product 68 = .ok (.bipush 37, 2) := by decide +kernel
theorem dX4_product_70 : decode cX4_product 70 = .ok (.invokevirtual 69, 3) := by decide +kernel
theorem dX4_product_73 : decode cX4_product 73 = .ok (.ifCond .eq 30, 3) := by decide +kernel
theorem dX4_product_76 : decode cX4_product 76 = .ok (.aload_n 0, 1) := by decide +kernel
theorem dX4_product_77 : decode cX4_product 77 = .ok (.iload_n 1, 1) := by decide +kernel
theorem dX4_product_78 : decode cX4_product 78 = .ok (.invokevirtual 86, 3) := by decide +kernel
theorem dX4_product_81 : decode cX4_product 81 = .ok (.istore 4, 2) := by decide +kernel
theorem dX4_product_83 : decode cX4_product 83 = .ok (.iload 4, 2) := by decide +kernel
theorem dX4_product_85 : decode cX4_product 85 = .ok (.ifCond .ne 7, 3) := by decide +kernel
theorem dX4_product_88 : decode cX4_product 88 = .ok (.iconst 0, 1) := by decide +kernel
theorem dX4_product_89 : decode cX4_product 89 = .ok (.goto 7, 3) := by decide +kernel
theorem dX4_product_92 : decode cX4_product 92 = .ok (.iload_n 2, 1) := by decide +kernel
theorem dX4_product_93 : decode cX4_product 93 = .ok (.iload 4, 2) := by decide +kernel
theorem dX4_product_95 : decode cX4_product 95 = .ok (.irem, 1) := by decide +kernel
theorem dX4_product_96 : decode cX4_product 96 = .ok (.istore_n 2, 1) := by decide +kernel
theorem dX4_product_97 : decode cX4_product 97 = .ok (.iinc 3 1, 3) := by decide +kernel
theorem dX4_product_100 : decode cX4_product 100 = .ok (.goto (-92), 3) := by decide +kernel
theorem dX4_product_103 : decode cX4_product 103 = .ok (.iload_n 2, 1) := by decide +kernel
theorem dX4_product_104 : decode cX4_product 104 = .ok (.ireturn, 1) := by decide +kernel
theorem dX4_single_0 : decode cX4_single 0 = .ok (.aload_n 0, 1) := by decide +kernel
theorem dX4_single_1 : decode cX4_single 1 = .ok (.invokevirtual 49, 3) := by decide +kernel
theorem dX4_single_4 : decode cX4_single 4 = .ok (.istore_n 2, 1) := by decide +kernel
theorem dX4_single_5 : decode cX4_single 5 = .ok (.iload_n 2, 1) := by decide +kernel
theorem dX4_single_6 : decode cX4_single 6 = .ok (.bipush 48, 2) := by decide +kernel
theorem dX4_single_8 : decode cX4_single 8 = .ok (.bipush 57, 2) := by decide +kernel
theorem dX4_single_10 : decode cX4_single 10 = .ok (.invokestatic 89, 3) := by decide +kernel
theorem dX4_single_13 : decode cX4_single 13 = .ok (.ifCond .eq 8, 3) := by decide +kernel
theorem dX4_single_16 : decode cX4_single 16 = .ok (.aload_n 0, 1) := by decide +kernel
theorem dX4_single_17 : decode cX4_single 17 = .ok (.invokevirtual 93, 3) := by decide +kernel
theorem dX4_single_20 : decode cX4_single 20 = .ok (.ireturn, 1) := by decide +kernel
theorem dX4_single_21 : decode cX4_single 21 = .ok (.iload_n 2, 1) := by decide +kernel
theorem dX4_single_22 : decode cX4_single 22 = .ok (.bipush 33, 2) := by decide +kernel
theorem dX4_single_24 : decode cX4_single 24 = .ok (.if_icmp .eq 9, 3) := by decide +kernel
theorem dX4_single_27 : decode cX4_single 27 = .ok (.iload_n 2, 1) := by decide +kernel
theorem dX4_single_28 : decode cX4_single 28 = .ok (.bipush 40, 2) := by decide +kernel
theorem dX4_single_30 : decode cX4_single 30 = .ok (.if_icmp .ne 23, 3) := by decide +kernel
theorem dX4_single_33 : decode cX4_single 33 = .ok (.iload_n 1, 1) := by decide +kernel
theorem dX4_single_34 : decode cX4_single 34 = .ok (.iconst 5, 1) := by decide +kernel
theorem dX4_single_35 : decode cX4_single 35 = .ok (.if_icmp .ge 13, 3) := by decide +kernel
theorem dX4_single_38 : decode cX4_single 38 = .ok (.aload_n 0, 1) := by decide +kernel
theorem dX4_single_39 : decode cX4_single 39 = .ok (.iload_n 1, 1) := by decide +kernel
theorem dX4_single_40 : decode cX4_single 40 = .ok (.iconst 1, 1) := by decide +kernel
theorem dX4_single_41 : decode cX4_single 41 = .ok (.iadd, 1) := by decide +kernel
theorem dX4_single_42 : decode cX4_single 42 = .ok (.invokevirtual 96, 3) := by decide +kernel
theorem dX4_single_45 : decode cX4_single 45 = .ok (.goto 7, 3) := by decide +kernel
theorem dX4_single_48 : decode cX4_single 48 = .ok (.aload_n 0, 1) := by decide +kernel
theorem dX4_single_49 : decode cX4_single 49 = .ok (.invokevirtual 53, 3) := by decide +kernel
theorem dX4_single_52 : decode cX4_single 52 = .ok (.ireturn, 1) := by decide +kernel
theorem dX4_single_53 : decode cX4_single 53 = .ok (.iload_n 2, 1) := by decide +kernel
theorem dX4_single_54 : decode cX4_single 54 = .ok (.iconst (-1), 1) := by decide +kernel
theorem dX4_single_55 : decode cX4_single 55 = .ok (.if_icmp .ne 7, 3) := by decide +kernel
theorem dX4_single_58 : decode cX4_single 58 = .ok (.iconst (-1), 1) := by decide +kernel
theorem dX4_single_59 : decode cX4_single 59 = .ok (.goto 12, 3) := by decide +kernel
theorem dX4_single_62 : decode cX4_single 62 = .ok (.aload_n 0, 1) := by decide +kernel
theorem dX4_single_63 : decode cX4_single 63 = .ok (.getfield 26, 3) := by decide +kernel
theorem dX4_single_66 : decode cX4_single 66 = .ok (.iload_n 2, 1) := by decide +kernel
theorem dX4_single_67 : decode cX4_single 67 = .ok (.i2c, 1) := by decide +kernel
theorem dX4_single_68 : decode cX4_single 68 = .ok (.invokevirtual 99, 3) := by decide +kernel
theorem dX4_single_71 : decode cX4_single 71 = .ok (.istore_n 3, 1) := by decide +kernel
theorem dX4_single_72 : decode cX4_single 72 = .ok (.iload_n 3, 1) := by decide +kernel
theorem dX4_single_73 : decode cX4_single 73 = .ok (.iconst 0, 1) := by decide +kernel
theorem dX4_single_74 : decode cX4_single 74 = .ok (.aload_n 0, 1) := by decide +kernel
theorem dX4_single_75 : decode cX4_single 75 = .ok (.getfield 9, 3) := by decide +kernel
theorem dX4_single_78 : decode cX4_single 78 = .ok (.arraylength, 1) := by decide +kernel
theorem dX4_single_79 : decode cX4_single 79 = .ok (.iconst 1, 1) := by decide +kernel
theorem dX4_single_80 : decode cX4_single 80 = .ok (.isub, 1) := by decide +kernel
theorem dX4_single_81 : decode cX4_single 81 = .ok (.invokestatic 89, 3) := by decide +kernel
theorem dX4_single_84 : decode cX4_single 84 = .ok (.ifCond .ne 8, 3) := by decide +kernel
theorem dX4_single_87 : decode cX4_single 87 = .ok (.aload_n 0, 1) := by decide +kernel
theorem dX4_single_88 : decode cX4_single 88 = .ok (.invokevirtual 53, 3) := by decide +kernel
theorem dX4_single_91 : decode cX4_single 91 = .ok (.ireturn, 1) := by decide +kernel
theorem dX4_single_92 : decode cX4_single 92 = .ok (.aload_n 0, 1) := by decide +kernel
theorem dX4_single_93 : decode cX4_single 93 = .ok (.dup, 1) := by decide +kernel
theorem dX4_single_94 : decode cX4_single 94 = .ok (.getfield 30, 3) := by decide +kernel
theorem dX4_single_97 : decode cX4_single 97 = .ok (.iconst 1, 1) := by decide +kernel
theorem dX4_single_98 : decode cX4_single 98 = .ok (.iadd, 1) := by decide +kernel
theorem dX4_single_99 : decode cX4_single 99 = .ok (.putfield 30, 3) := by decide +kernel
theorem dX4_single_102 : decode cX4_single 102 = .ok (.aload_n 0, 1) := by decide +kernel
theorem dX4_single_103 : decode cX4_single 103 = .ok (.getfield 9, 3) := by decide +kernel
theorem dX4_single_106 : decode cX4_single 106 = .ok (.iload_n 3, 1) := by decide +kernel
theorem dX4_single_107 : decode cX4_single 107 = .ok (.iaload, 1) := by decide +kernel
theorem dX4_single_108 : decode cX4_single 108 = .ok (.ireturn, 1) := by decide +kernel
theorem dX4_stopHere_0 : decode cX4_stopHere 0 = .ok (.aload_n 0, 1) := by decide +kernel
theorem dX4_stopHere_1 : decode cX4_stopHere 1 = .ok (.getfield 34, 3) := by decide +kernel
theorem dX4_stopHere_4 : decode cX4_stopHere 4 = .ok (.ifCond .ge 11, 3) := by decide +kernel
theorem dX4_stopHere_7 : decode cX4_stopHere 7 = .ok (.aload_n 0, 1) := by decide +kernel
theorem dX4_stopHere_8 : decode cX4_stopHere 8 = .ok (.aload_n 0, 1) := by decide +kernel
theorem dX4_stopHere_9 : decode cX4_stopHere 9 = .ok (.getfield 30, 3) := by decide +kernel
theorem dX4_stopHere_12 : decode cX4_stopHere 12 = .ok (.putfield 34, 3) := by decide +kernel
theorem dX4_stopHere_15 : decode cX4_stopHere 15 = .ok (.iconst 0, 1) := by decide +kernel
theorem dX4_stopHere_16 : decode cX4_stopHere 16 = .ok (.ireturn, 1) := by decide +kernel
theorem dX4_sum_0 : decode cX4_sum 0 = .ok (.aload_n 0, 1) := by decide +kernel
theorem dX4_sum_1 : decode cX4_sum 1 = .ok (.iload_n 1, 1) := by decide +kernel
theorem dX4_sum_2 : decode cX4_sum 2 = .ok (.invokevirtual 83, 3) := by decide +kernel
theorem dX4_sum_5 : decode cX4_sum 5 = .ok (.istore_n 2, 1) := by decide +kernel
theorem dX4_sum_6 : decode cX4_sum 6 = .ok (.iconst 0, 1) := by decide +kernel
theorem dX4_sum_7 : decode cX4_sum 7 = .ok (.istore_n 3, 1) := by decide +kernel
theorem dX4_sum_8 : decode cX4_sum 8 = .ok (.iload_n 3, 1) := by decide +kernel
theorem dX4_sum_9 : decode cX4_sum 9 = .ok (.bipush 50, 2) := by decide +kernel
theorem dX4_sum_11 : decode cX4_sum 11 = .ok (.if_icmp .ge 46, 3) := by decide +kernel
theorem dX4_sum_14 : decode cX4_sum 14 = .ok (.aload_n 0, 1) := by decide +kernel
theorem dX4_sum_15 : decode cX4_sum 15 = .ok (.bipush 43, 2) := by decide +kernel
theorem dX4_sum_17 : decode cX4_sum 17 = .ok (.invokevirtual 69, 3) := by decide +kernel
theorem dX4_sum_20 : decode cX4_sum 20 = .ok (.ifCond .eq 14, 3) := by decide +kernel
theorem dX4_sum_23 : decode cX4_sum 23 = .ok (.iload_n 2, 1) := by decide +kernel
theorem dX4_sum_24 : decode cX4_sum 24 = .ok (.aload_n 0, 1) := by decide +kernel
theorem dX4_sum_25 : decode cX4_sum 25 = .ok (.iload_n 1, 1) := by decide +kernel
theorem dX4_sum_26 : decode cX4_sum 26 = .ok (.invokevirtual 83, 3) := by decide +kernel
theorem dX4_sum_29 : decode cX4_sum 29 = .ok (.iadd, 1) := by decide +kernel
theorem dX4_sum_30 : decode cX4_sum 30 = .ok (.istore_n 2, 1) := by decide +kernel
theorem dX4_sum_31 : decode cX4_sum 31 = .ok (.goto 20, 3) := by decide +kernel
theorem dX4_sum_34 : decode cX4_sum 34 = .ok (.aload_n 0, 1) := by decide +kernel
theorem dX4_sum_35 : decode cX4_sum 35 = .ok (.bipush 45, 2) := by decide +kernel
theorem dX4_sum_37 : decode cX4_sum 37 = .ok (.invokevirtual 69, 3) := by decide +kernel
theorem dX4_sum_40 : decode cX4_sum 40 = .ok (.ifCond .eq 17, 3) := by decide +kernel
theorem dX4_sum_43 : decode cX4_sum 43 = .ok (.iload_n 2, 1) := by decide +kernel
theorem dX4_sum_44 : decode cX4_sum 44 = .ok (.aload_n 0, 1) := by decide +kernel
theorem dX4_sum_45 : decode cX4_sum 45 = .ok (.iload_n 1, 1) := by decide +kernel
theorem dX4_sum_46 : decode cX4_sum 46 = .ok (.invokevirtual 83, 3) := by decide +kernel
theorem dX4_sum_49 : decode cX4_sum 49 = .ok (.isub, 1) := by decide +kernel
theorem dX4_sum_50 : decode cX4_sum 50 = .ok (.istore_n 2, 1) := by decide +kernel
theorem dX4_sum_51 : decode cX4_sum 51 = .ok (.iinc 3 1, 3) := by decide +kernel
theorem dX4_sum_54 : decode cX4_sum 54 = .ok (.goto (-46), 3) := by decide +kernel
theorem dX4_sum_57 : decode cX4_sum 57 = .ok (.iload_n 2, 1) := by decide +kernel
theorem dX4_sum_58 : decode cX4_sum 58 = .ok (.ireturn, 1) := by decide +kernel
theorem dX4_takes_0 : decode cX4_takes 0 = .ok (.aload_n 0, 1) := by decide +kernel
theorem dX4_takes_1 : decode cX4_takes 1 = .ok (.invokevirtual 49, 3) := by decide +kernel
theorem dX4_takes_4 : decode cX4_takes 4 = .ok (.iload_n 1, 1) := by decide +kernel
theorem dX4_takes_5 : decode cX4_takes 5 = .ok (.if_icmp .ne 7, 3) := by decide +kernel
theorem dX4_takes_8 : decode cX4_takes 8 = .ok (.iconst 1, 1) := by decide +kernel
theorem dX4_takes_9 : decode cX4_takes 9 = .ok (.goto 4, 3) := by decide +kernel
theorem dX4_takes_12 : decode cX4_takes 12 = .ok (.iconst 0, 1) := by decide +kernel
theorem dX4_takes_13 : decode cX4_takes 13 = .ok (.istore_n 2, 1) := by decide +kernel
theorem dX4_takes_14 : decode cX4_takes 14 = .ok (.iload_n 2, 1) := by decide +kernel
theorem dX4_takes_15 : decode cX4_takes 15 = .ok (.ifCond .eq 13, 3) := by decide +kernel
theorem dX4_takes_18 : decode cX4_takes 18 = .ok (.aload_n 0, 1) := by decide +kernel
theorem dX4_takes_19 : decode cX4_takes 19 = .ok (.dup, 1) := by decide +kernel
theorem dX4_takes_20 : decode cX4_takes 20 = .ok (.getfield 30, 3) := by decide +kernel
theorem dX4_takes_23 : decode cX4_takes 23 = .ok (.iconst 1, 1) := by decide +kernel
theorem dX4_takes_24 : decode cX4_takes 24 = .ok (.iadd, 1) := by decide +kernel
theorem dX4_takes_25 : decode cX4_takes 25 = .ok (.putfield 30, 3) := by decide +kernel
theorem dX4_takes_28 : decode cX4_takes 28 = .ok (.iload_n 2, 1) := by decide +kernel
theorem dX4_takes_29 : decode cX4_takes 29 = .ok (.ireturn, 1) := by decide +kernel
theorem dX4_truth_0 : decode cX4_truth 0 = .ok (.iload_n 0, 1) := by decide +kernel
theorem dX4_truth_1 : decode cX4_truth 1 = .ok (.ifCond .eq 7, 3) := by decide +kernel
theorem dX4_truth_4 : decode cX4_truth 4 = .ok (.iconst 1, 1) := by decide +kernel
theorem dX4_truth_5 : decode cX4_truth 5 = .ok (.goto 4, 3) := by decide +kernel
theorem dX4_truth_8 : decode cX4_truth 8 = .ok (.iconst 0, 1) := by decide +kernel
theorem dX4_truth_9 : decode cX4_truth 9 = .ok (.ireturn, 1) := by decide +kernel
theorem dX5_bears_0 : decode cX5_bears 0 = .ok (.aload_n 0, 1) := by decide +kernel
theorem dX5_bears_1 : decode cX5_bears 1 = .ok (.getfield 24, 3) := by decide +kernel
theorem dX5_bears_4 : decode cX5_bears 4 = .ok (.bipush 12, 2) := by decide +kernel
theorem dX5_bears_6 : decode cX5_bears 6 = .ok (.invokevirtual 42, 3) := by decide +kernel
theorem dX5_bears_9 : decode cX5_bears 9 = .ok (.iload_n 1, 1) := by decide +kernel
theorem dX5_bears_10 : decode cX5_bears 10 = .ok (.aload_n 0, 1) := by decide +kernel
theorem dX5_bears_11 : decode cX5_bears 11 = .ok (.getfield 21, 3) := by decide +kernel
theorem dX5_bears_14 : decode cX5_bears 14 = .ok (.isub, 1) := by decide +kernel
theorem dX5_bears_15 : decode cX5_bears 15 = .ok (.ireturn, 1) := by decide +kernel
theorem dX5_gain_0 : decode cX5_gain 0 = .ok (.aload_n 1, 1) := by decide +kernel
theorem dX5_gain_1 : decode cX5_gain 1 = .ok (.iload_n 2, 1) := by decide +kernel
theorem dX5_gain_2 : decode cX5_gain 2 = .ok (.bipush 10, 2) := by decide +kernel
theorem dX5_gain_4 : decode cX5_gain 4 = .ok (.idiv, 1) := by decide +kernel
theorem dX5_gain_5 : decode cX5_gain 5 = .ok (.aload_n 0, 1) := by decide +kernel
theorem dX5_gain_6 : decode cX5_gain 6 = .ok (.getfield 18, 3) := by decide +kernel
theorem dX5_gain_9 : decode cX5_gain 9 = .ok (.invokevirtual 28, 3) := by decide +kernel
theorem dX5_gain_12 : decode cX5_gain 12 = .ok (.bipush 50, 2) := by decide +kernel
theorem dX5_gain_14 : decode cX5_gain 14 = .ok (.idiv, 1) := by decide +kernel
theorem dX5_gain_15 : decode cX5_gain 15 = .ok (.aload_n 0, 1) := by decide +kernel
theorem dX5_gain_16 : decode cX5_gain 16 = .ok (.aload_n 1, 1) := by decide +kernel
theorem dX5_gain_17 : decode cX5_gain 17 = .ok (.iload_n 2, 1) := by decide +kernel
theorem dX5_gain_18 : decode cX5_gain 18 = .ok (.iload_n 3, 1) := by decide +kernel
theorem dX5_gain_19 : decode cX5_gain 19 = .ok (.invokevirtual 34, 3) := by decide +kernel
theorem dX5_gain_22 : decode cX5_gain 22 = .ok (.iadd, 1) := by decide +kernel
theorem dX5_gain_23 : decode cX5_gain 23 = .ok (.ireturn, 1) := by decide +kernel
theorem dX5_gainOfKind_0 : decode cX5_gainOfKind 0 = .ok (.iconst 0, 1) := by decide +kernel
theorem dX5_gainOfKind_1 : decode cX5_gainOfKind 1 = .ok (.ireturn, 1) := by decide +kernel
theorem dX5_hangs_0 : decode cX5_hangs 0 = .ok (.aload_n 0, 1) := by decide +kernel
theorem dX5_hangs_1 : decode cX5_hangs 1 = .ok (.getfield 24, 3) := by decide +kernel
theorem dX5_hangs_4 : decode cX5_hangs 4 = .ok (.bipush 10, 2) := by decide +kernel
theorem dX5_hangs_6 : decode cX5_hangs 6 = .ok (.invokevirtual 42, 3) := by decide +kernel
theorem dX5_hangs_9 : decode cX5_hangs 9 = .ok (.iload_n 1, 1) := by decide +kernel
theorem dX5_hangs_10 : decode cX5_hangs 10 = .ok (.aload_n 0, 1) := by decide +kernel
theorem dX5_hangs_11 : decode cX5_hangs 11 = .ok (.getfield 15, 3) := by decide +kernel
theorem dX5_hangs_14 : decode cX5_hangs 14 = .ok (.iadd, 1) := by decide +kernel
theorem dX5_hangs_15 : decode cX5_hangs 15 = .ok (.ireturn, 1) := by decide +kernel
theorem dX5_init_0 : decode cX5_init 0 = .ok (.aload_n 0, 1) := by decide +kernel
theorem dX5_init_1 : decode cX5_init 1 = .ok (.invokespecial 3, 3) := by decide +kernel
theorem dX5_init_4 : decode cX5_init 4 = .ok (.aload_n 0, 1) := by decide +kernel
theorem dX5_init_5 : decode cX5_init 5 = .ok (.iload_n 1, 1) := by decide +kernel
theorem dX5_init_6 : decode cX5_init 6 = .ok (.putfield 9, 3) := by decide +kernel
theorem dX5_init_9 : decode cX5_init 9 = .ok (.aload_n 0, 1) := by decide +kernel
theorem dX5_init_10 : decode cX5_init 10 = .ok (.iload_n 2, 1) := by decide +kernel
theorem dX5_init_11 : decode cX5_init 11 = .ok (.putfield 15, 3) := by decide +kernel
theorem dX5_init_14 : decode cX5_init 14 = .ok (.aload_n 0, 1) := by decide +kernel
theorem dX5_init_15 : decode cX5_init 15 = .ok (.iload_n 3, 1) := by decide +kernel
theorem dX5_init_16 : decode cX5_init 16 = .ok (.putfield 18, 3) := by decide +kernel
theorem dX5_init_19 : decode cX5_init 19 = .ok (.aload_n 0, 1) := by decide +kernel
theorem dX5_init_20 : decode cX5_init 20 = .ok (.iload 4, 2) := by decide +kernel
theorem dX5_init_22 : decode cX5_init 22 = .ok (.putfield 21, 3) := by decide +kernel
theorem dX5_init_25 : decode cX5_init 25 = .ok (.aload_n 0, 1) := by decide +kernel
theorem dX5_init_26 : decode cX5_init 26 = .ok (.aload 5, 2) := by decide +kernel
theorem dX5_init_28 : decode cX5_init 28 = .ok (.putfield 24, 3) := by decide +kernel
theorem dX5_init_31 : decode cX5_init 31 = .ok (.return_, 1) := by decide +kernel
theorem dX5_rolls_0 : decode cX5_rolls 0 = .ok (.aload_n 0, 1) := by decide +kernel
theorem dX5_rolls_1 : decode cX5_rolls 1 = .ok (.getfield 24, 3) := by decide +kernel
theorem dX5_rolls_4 : decode cX5_rolls 4 = .ok (.bipush 11, 2) := by decide +kernel
theorem dX5_rolls_6 : decode cX5_rolls 6 = .ok (.invokevirtual 42, 3) := by decide +kernel
theorem dX5_rolls_9 : decode cX5_rolls 9 = .ok (.aload_n 0, 1) := by decide +kernel
theorem dX5_rolls_10 : decode cX5_rolls 10 = .ok (.iload_n 1, 1) := by decide +kernel
theorem dX5_rolls_11 : decode cX5_rolls 11 = .ok (.invokevirtual 48, 3) := by decide +kernel
theorem dX5_rolls_14 : decode cX5_rolls 14 = .ok (.iconst 2, 1) := by decide +kernel
theorem dX5_rolls_15 : decode cX5_rolls 15 = .ok (.imul, 1) := by decide +kernel
theorem dX5_rolls_16 : decode cX5_rolls 16 = .ok (.ireturn, 1) := by decide +kernel
theorem dX5_rubs_0 : decode cX5_rubs 0 = .ok (.aload_n 1, 1) := by decide +kernel
theorem dX5_rubs_1 : decode cX5_rubs 1 = .ok (.bipush 6, 2) := by decide +kernel
theorem dX5_rubs_3 : decode cX5_rubs 3 = .ok (.invokevirtual 38, 3) := by decide +kernel
theorem dX5_rubs_6 : decode cX5_rubs 6 = .ok (.ireturn, 1) := by decide +kernel
theorem dX5_wears_0 : decode cX5_wears 0 = .ok (.aload_n 0, 1) := by decide +kernel
theorem dX5_wears_1 : decode cX5_wears 1 = .ok (.getfield 24, 3) := by decide +kernel
theorem dX5_wears_4 : decode cX5_wears 4 = .ok (.bipush 13, 2) := by decide +kernel
theorem dX5_wears_6 : decode cX5_wears 6 = .ok (.invokevirtual 42, 3) := by decide +kernel
theorem dX5_wears_9 : decode cX5_wears 9 = .ok (.aload_n 0, 1) := by decide +kernel
theorem dX5_wears_10 : decode cX5_wears 10 = .ok (.iload_n 1, 1) := by decide +kernel
theorem dX5_wears_11 : decode cX5_wears 11 = .ok (.invokevirtual 51, 3) := by decide +kernel
theorem dX5_wears_14 : decode cX5_wears 14 = .ok (.aload_n 0, 1) := by decide +kernel
theorem dX5_wears_15 : decode cX5_wears 15 = .ok (.iload_n 1, 1) := by decide +kernel
theorem dX5_wears_16 : decode cX5_wears 16 = .ok (.invokevirtual 54, 3) := by decide +kernel
theorem dX5_wears_19 : decode cX5_wears 19 = .ok (.ixor, 1) := by decide +kernel
theorem dX5_wears_20 : decode cX5_wears 20 = .ok (.ireturn, 1) := by decide +kernel
theorem dX6_gainOfKind_0 : decode cX6_gainOfKind 0 = .ok (.aload_n 1, 1) := by decide +kernel
theorem dX6_gainOfKind_1 : decode cX6_gainOfKind 1 = .ok (.iconst 4, 1) := by decide +kernel
theorem dX6_gainOfKind_2 : decode cX6_gainOfKind 2 = .ok (.invokevirtual 9, 3) := by decide +kernel
theorem dX6_gainOfKind_5 : decode cX6_gainOfKind 5 = .ok (.ifCond .le 7, 3) := by decide +kernel
theorem dX6_gainOfKind_8 : decode cX6_gainOfKind 8 = .ok (.iconst 1, 1) := by decide +kernel
theorem dX6_gainOfKind_9 : decode cX6_gainOfKind 9 = .ok (.goto 4, 3) := by decide +kernel
theorem dX6_gainOfKind_12 : decode cX6_gainOfKind 12 = .ok (.iconst 0, 1) := by decide +kernel
theorem dX6_gainOfKind_13 : decode cX6_gainOfKind 13 = .ok (.ireturn, 1) := by decide +kernel
theorem dX6_init_0 : decode cX6_init 0 = .ok (.aload_n 0, 1) := by decide +kernel
theorem dX6_init_1 : decode cX6_init 1 = .ok (.iload_n 1, 1) := by decide +kernel
theorem dX6_init_2 : decode cX6_init 2 = .ok (.iload_n 2, 1) := by decide +kernel
theorem dX6_init_3 : decode cX6_init 3 = .ok (.iload_n 3, 1) := by decide +kernel
theorem dX6_init_4 : decode cX6_init 4 = .ok (.iload 4, 2) := by decide +kernel
theorem dX6_init_6 : decode cX6_init 6 = .ok (.aload 5, 2) := by decide +kernel
theorem dX6_init_8 : decode cX6_init 8 = .ok (.invokespecial 3, 3) := by decide +kernel
theorem dX6_init_11 : decode cX6_init 11 = .ok (.return_, 1) := by decide +kernel
theorem dX6_rolls_0 : decode cX6_rolls 0 = .ok (.aload_n 0, 1) := by decide +kernel
theorem dX6_rolls_1 : decode cX6_rolls 1 = .ok (.getfield 15, 3) := by decide +kernel
theorem dX6_rolls_4 : decode cX6_rolls 4 = .ok (.bipush 20, 2) := by decide +kernel
theorem dX6_rolls_6 : decode cX6_rolls 6 = .ok (.invokevirtual 21, 3) := by decide +kernel
theorem dX6_rolls_9 : decode cX6_rolls 9 = .ok (.aload_n 0, 1) := by decide +kernel
theorem dX6_rolls_10 : decode cX6_rolls 10 = .ok (.iload_n 1, 1) := by decide +kernel
theorem dX6_rolls_11 : decode cX6_rolls 11 = .ok (.invokespecial 27, 3) := by decide +kernel
theorem dX6_rolls_14 : decode cX6_rolls 14 = .ok (.aload_n 0, 1) := by decide +kernel
theorem dX6_rolls_15 : decode cX6_rolls 15 = .ok (.iconst 1, 1) := by decide +kernel
theorem dX6_rolls_16 : decode cX6_rolls 16 = .ok (.invokevirtual 30, 3) := by decide +kernel
theorem dX6_rolls_19 : decode cX6_rolls 19 = .ok (.isub, 1) := by decide +kernel
theorem dX6_rolls_20 : decode cX6_rolls 20 = .ok (.ireturn, 1) := by decide +kernel
theorem dX7_add_0 : decode cX7_add 0 = .ok (.aload_n 0, 1) := by decide +kernel
theorem dX7_add_1 : decode cX7_add 1 = .ok (.getfield 7, 3) := by decide +kernel
theorem dX7_add_4 : decode cX7_add 4 = .ok (.aload_n 0, 1) := by decide +kernel
theorem dX7_add_5 : decode cX7_add 5 = .ok (.getfield 19, 3) := by decide +kernel
theorem dX7_add_8 : decode cX7_add 8 = .ok (.arraylength, 1) := by decide +kernel
theorem dX7_add_9 : decode cX7_add 9 = .ok (.if_icmp .ge 23, 3) := by decide +kernel
theorem dX7_add_12 : decode cX7_add 12 = .ok (.aload_n 0, 1) := by decide +kernel
theorem dX7_add_13 : decode cX7_add 13 = .ok (.getfield 19, 3) := by decide +kernel
theorem dX7_add_16 : decode cX7_add 16 = .ok (.aload_n 0, 1) := by decide +kernel
theorem dX7_add_17 : decode cX7_add 17 = .ok (.getfield 7, 3) := by decide +kernel
theorem dX7_add_20 : decode cX7_add 20 = .ok (.iload_n 1, 1) := by decide +kernel
theorem dX7_add_21 : decode cX7_add 21 = .ok (.iastore, 1) := by decide +kernel
theorem dX7_add_22 : decode cX7_add 22 = .ok (.aload_n 0, 1) := by decide +kernel
theorem dX7_add_23 : decode cX7_add 23 = .ok (.dup, 1) := by decide +kernel
theorem dX7_add_24 : decode cX7_add 24 = .ok (.getfield 7, 3) := by decide +kernel
theorem dX7_add_27 : decode cX7_add 27 = .ok (.iconst 1, 1) := by decide +kernel
theorem dX7_add_28 : decode cX7_add 28 = .ok (.iadd, 1) := by decide +kernel
theorem dX7_add_29 : decode cX7_add 29 = .ok (.putfield 7, 3) := by decide +kernel
theorem dX7_add_32 : decode cX7_add 32 = .ok (.return_, 1) := by decide +kernel
theorem dX7_addSigns_0 : decode cX7_addSigns 0 = .ok (.iconst 0, 1) := by decide +kernel
theorem dX7_addSigns_1 : decode cX7_addSigns 1 = .ok (.istore_n 2, 1) := by decide +kernel
theorem dX7_addSigns_2 : decode cX7_addSigns 2 = .ok (.iload_n 2, 1) := by decide +kernel
theorem dX7_addSigns_3 : decode cX7_addSigns 3 = .ok (.aload_n 1, 1) := by decide +kernel
theorem dX7_addSigns_4 : decode cX7_addSigns 4 = .ok (.invokevirtual 23, 3) := by decide +kernel
theorem dX7_addSigns_7 : decode cX7_addSigns 7 = .ok (.if_icmp .ge 18, 3) := by decide +kernel
theorem dX7_addSigns_10 : decode cX7_addSigns 10 = .ok (.aload_n 0, 1) := by decide +kernel
theorem dX7_addSigns_11 : decode cX7_addSigns 11 = .ok (.aload_n 1, 1) := by decide +kernel
theorem dX7_addSigns_12 : decode cX7_addSigns 12 = .ok (.iload_n 2, 1) := by decide +kernel
theorem dX7_addSigns_13 : decode cX7_addSigns 13 = .ok (.invokevirtual 29, 3) := by decide +kernel
theorem dX7_addSigns_16 : decode cX7_addSigns 16 = .ok (.invokevirtual 33, 3) := by decide +kernel
theorem dX7_addSigns_19 : decode cX7_addSigns 19 = .ok (.iinc 2 1, 3) := by decide +kernel
theorem dX7_addSigns_22 : decode cX7_addSigns 22 = .ok (.goto (-20), 3) := by decide +kernel
theorem dX7_addSigns_25 : decode cX7_addSigns 25 = .ok (.return_, 1) := by decide +kernel
theorem dX7_at_0 : decode cX7_at 0 = .ok (.iload_n 1, 1) := by decide +kernel
theorem dX7_at_1 : decode cX7_at 1 = .ok (.iconst 0, 1) := by decide +kernel
theorem dX7_at_2 : decode cX7_at 2 = .ok (.aload_n 0, 1) := by decide +kernel
theorem dX7_at_3 : decode cX7_at 3 = .ok (.getfield 7, 3) := by decide +kernel
theorem dX7_at_6 : decode cX7_at 6 = .ok (.iconst 1, 1) := by decide +kernel
theorem dX7_at_7 : decode cX7_at 7 = .ok (.isub, 1) := by decide +kernel
theorem dX7_at_8 : decode cX7_at 8 = .ok (.invokestatic 37, 3) := by decide +kernel
theorem dX7_at_11 : decode cX7_at 11 = .ok (.ifCond .eq 12, 3) := by decide +kernel
theorem dX7_at_14 : decode cX7_at 14 = .ok (.aload_n 0, 1) := by decide +kernel
theorem dX7_at_15 : decode cX7_at 15 = .ok (.getfield 19, 3) := by decide +kernel
theorem dX7_at_18 : decode cX7_at 18 = .ok (.iload_n 1, 1) := by decide +kernel
theorem dX7_at_19 : decode cX7_at 19 = .ok (.iaload, 1) := by decide +kernel
theorem dX7_at_20 : decode cX7_at 20 = .ok (.goto 4, 3) := by decide +kernel
theorem dX7_at_23 : decode cX7_at 23 = .ok (.iconst 0, 1) := by decide +kernel
theorem dX7_at_24 : decode cX7_at 24 = .ok (.ireturn, 1) := by decide +kernel
theorem dX7_becomes_0 : decode cX7_becomes 0 = .ok (.iload_n 1, 1) := by decide +kernel
theorem dX7_becomes_1 : decode cX7_becomes 1 = .ok (.iconst 0, 1) := by decide +kernel
theorem dX7_becomes_2 : decode cX7_becomes 2 = .ok (.aload_n 0, 1) := by decide +kernel
theorem dX7_becomes_3 : decode cX7_becomes 3 = .ok (.getfield 7, 3) := by decide +kernel
theorem dX7_becomes_6 : decode cX7_becomes 6 = .ok (.iconst 1, 1) := by decide +kernel
theorem dX7_becomes_7 : decode cX7_becomes 7 = .ok (.isub, 1) := by decide +kernel
theorem dX7_becomes_8 : decode cX7_becomes 8 = .ok (.invokestatic 37, 3) := by decide +kernel
theorem dX7_becomes_11 : decode cX7_becomes 11 = .ok (.ifCond .eq 10, 3) := by decide +kernel
theorem dX7_becomes_14 : decode cX7_becomes 14 = .ok (.aload_n 0, 1) := by decide +kernel
theorem dX7_becomes_15 : decode cX7_becomes 15 = .ok (.getfield 19, 3) := by decide +kernel
theorem dX7_becomes_18 : decode cX7_becomes 18 = .ok (.iload_n 1, 1) := by decide +kernel
theorem dX7_becomes_19 : decode cX7_becomes 19 = .ok (.iload_n 2, 1) := by decide +kernel
theorem dX7_becomes_20 : decode cX7_becomes 20 = .ok (.iastore, 1) := by decide +kernel
theorem dX7_becomes_21 : decode cX7_becomes 21 = .ok (.return_, 1) := by decide +kernel
theorem dX7_becomesZeros_0 : decode cX7_becomesZeros 0 = .ok (.aload_n 0, 1) := by decide +kernel
theorem dX7_becomesZeros_1 : decode cX7_becomesZeros 1 = .ok (.iload_n 1, 1) := by decide +kernel
theorem dX7_becomesZeros_2 : decode cX7_becomesZeros 2 = .ok (.iconst 0, 1) := by decide +kernel
theorem dX7_becomesZeros_3 : decode cX7_becomesZeros 3 = .ok (.aload_n 0, 1) := by decide +kernel
theorem dX7_becomesZeros_4 : decode cX7_becomesZeros 4 = .ok (.getfield 19, 3) := by decide +kernel
theorem dX7_becomesZeros_7 : decode cX7_becomesZeros 7 = .ok (.arraylength, 1) := by decide +kernel
theorem dX7_becomesZeros_8 : decode cX7_becomesZeros 8 = .ok (.invokestatic 43, 3) := by decide +kernel
theorem dX7_becomesZeros_11 : decode cX7_becomesZeros 11 = .ok (.putfield 7, 3) := by decide +kernel
theorem dX7_becomesZeros_14 : decode cX7_becomesZeros 14 = .ok (.iconst 0, 1) := by decide +kernel
theorem dX7_becomesZeros_15 : decode cX7_becomesZeros 15 = .ok (.istore_n 2, 1) := by decide +kernel
theorem dX7_becomesZeros_16 : decode cX7_becomesZeros 16 = .ok (.iload_n 2, 1) := by decide +kernel
theorem dX7_becomesZeros_17 : decode cX7_becomesZeros 17 = .ok (.aload_n 0, 1) := by decide +kernel
theorem dX7_becomesZeros_18 : decode cX7_becomesZeros 18 = .ok (.getfield 7, 3) := by decide +kernel
theorem dX7_becomesZeros_21 : decode cX7_becomesZeros 21 = .ok (.if_icmp .ge 16, 3) := by decide +kernel
theorem dX7_becomesZeros_24 : decode cX7_becomesZeros 24 = .ok (.aload_n 0, 1) := by decide +kernel
theorem dX7_becomesZeros_25 : decode cX7_becomesZeros 25 = .ok (.getfield 19, 3) := by decide +kernel
theorem dX7_becomesZeros_28 : decode cX7_becomesZeros 28 = .ok (.iload_n 2, 1) := by decide +kernel
theorem dX7_becomesZeros_29 : decode cX7_becomesZeros 29 = .ok (.iconst 0, 1) := by decide +kernel
theorem dX7_becomesZeros_30 : decode cX7_becomesZeros 30 = .ok (.iastore, 1) := by decide +kernel
theorem dX7_becomesZeros_31 : decode cX7_becomesZeros 31 = .ok (.iinc 2 1, 3) := by decide +kernel
theorem dX7_becomesZeros_34 : decode cX7_becomesZeros 34 = .ok (.goto (-18), 3) := by decide +kernel
theorem dX7_becomesZeros_37 : decode cX7_becomesZeros 37 = .ok (.return_, 1) := by decide +kernel
theorem dX7_clear_0 : decode cX7_clear 0 = .ok (.aload_n 0, 1) := by decide +kernel
theorem dX7_clear_1 : decode cX7_clear 1 = .ok (.iconst 0, 1) := by decide +kernel
theorem dX7_clear_2 : decode cX7_clear 2 = .ok (.putfield 7, 3) := by decide +kernel
theorem dX7_clear_5 : decode cX7_clear 5 = .ok (.return_, 1) := by decide +kernel
theorem dX7_copyFrom_0 : decode cX7_copyFrom 0 = .ok (.aload_n 0, 1) := by decide +kernel
theorem dX7_copyFrom_1 : decode cX7_copyFrom 1 = .ok (.aload_n 1, 1) := by decide +kernel
theorem dX7_copyFrom_2 : decode cX7_copyFrom 2 = .ok (.getfield 7, 3) := by decide +kernel
theorem dX7_copyFrom_5 : decode cX7_copyFrom 5 = .ok (.aload_n 0, 1) := by decide +kernel
theorem dX7_copyFrom_6 : decode cX7_copyFrom 6 = .ok (.getfield 19, 3) := by decide +kernel
theorem dX7_copyFrom_9 : decode cX7_copyFrom 9 = .ok (.arraylength, 1) := by decide +kernel
theorem dX7_copyFrom_10 : decode cX7_copyFrom 10 = .ok (.invokestatic 47, 3) := by decide +kernel
theorem dX7_copyFrom_13 : decode cX7_copyFrom 13 = .ok (.putfield 7, 3) := by decide +kernel
theorem dX7_copyFrom_16 : decode cX7_copyFrom 16 = .ok (.aload_n 1, 1) := by decide +kernel
theorem dX7_copyFrom_17 : decode cX7_copyFrom 17 = .ok (.getfield 19, 3) := by decide +kernel
theorem dX7_copyFrom_20 : decode cX7_copyFrom 20 = .ok (.iconst 0, 1) := by decide +kernel
theorem dX7_copyFrom_21 : decode cX7_copyFrom 21 = .ok (.aload_n 0, 1) := by decide +kernel
theorem dX7_copyFrom_22 : decode cX7_copyFrom 22 = .ok (.getfield 19, 3) := by decide +kernel
theorem dX7_copyFrom_25 : decode cX7_copyFrom 25 = .ok (.iconst 0, 1) := by decide +kernel
theorem dX7_copyFrom_26 : decode cX7_copyFrom 26 = .ok (.aload_n 0, 1) := by decide +kernel
theorem dX7_copyFrom_27 : decode cX7_copyFrom 27 = .ok (.getfield 7, 3) := by decide +kernel
theorem dX7_copyFrom_30 : decode cX7_copyFrom 30 = .ok (.invokestatic 50, 3) := by decide +kernel
theorem dX7_copyFrom_33 : decode cX7_copyFrom 33 = .ok (.return_, 1) := by decide +kernel
theorem dX7_holds_0 : decode cX7_holds 0 = .ok (.iload_n 1, 1) := by decide +kernel
theorem dX7_holds_1 : decode cX7_holds 1 = .ok (.ifCond .lt 21, 3) := by decide +kernel
theorem dX7_holds_4 : decode cX7_holds 4 = .ok (.iload_n 2, 1) := by decide +kernel
theorem dX7_holds_5 : decode cX7_holds 5 = .ok (.ifCond .lt 17, 3) := by decide +kernel
theorem dX7_holds_8 : decode cX7_holds 8 = .ok (.iload_n 1, 1) := by decide +kernel
theorem dX7_holds_9 : decode cX7_holds 9 = .ok (.aload_n 0, 1) := by decide +kernel
theorem dX7_holds_10 : decode cX7_holds 10 = .ok (.getfield 7, 3) := by decide +kernel
theorem dX7_holds_13 : decode cX7_holds 13 = .ok (.iload_n 2, 1) := by decide +kernel
theorem dX7_holds_14 : decode cX7_holds 14 = .ok (.isub, 1) := by decide +kernel
theorem dX7_holds_15 : decode cX7_holds 15 = .ok (.if_icmp .gt 7, 3) := by decide +kernel
theorem dX7_holds_18 : decode cX7_holds 18 = .ok (.iconst 1, 1) := by decide +kernel
theorem dX7_holds_19 : decode cX7_holds 19 = .ok (.goto 4, 3) := by decide +kernel
theorem dX7_holds_22 : decode cX7_holds 22 = .ok (.iconst 0, 1) := by decide +kernel
theorem dX7_holds_23 : decode cX7_holds 23 = .ok (.ireturn, 1) := by decide +kernel
theorem dX7_init_0 : decode cX7_init 0 = .ok (.aload_n 0, 1) := by decide +kernel
theorem dX7_init_1 : decode cX7_init 1 = .ok (.invokespecial 1, 3) := by decide +kernel
theorem dX7_init_4 : decode cX7_init 4 = .ok (.aload_n 0, 1) := by decide +kernel
theorem dX7_init_5 : decode cX7_init 5 = .ok (.iconst 0, 1) := by decide +kernel
theorem dX7_init_6 : decode cX7_init 6 = .ok (.putfield 7, 3) := by decide +kernel
theorem dX7_init_9 : decode cX7_init 9 = .ok (.aload_n 0, 1) := by decide +kernel
theorem dX7_init_10 : decode cX7_init 10 = .ok (.iconst 0, 1) := by decide +kernel
theorem dX7_init_11 : decode cX7_init 11 = .ok (.iload_n 1, 1) := by decide +kernel
theorem dX7_init_12 : decode cX7_init 12 = .ok (.invokestatic 13, 3) := by decide +kernel
theorem dX7_init_15 : decode cX7_init 15 = .ok (.newarray .int, 2) := by decide +kernel
theorem dX7_init_17 : decode cX7_init 17 = .ok (.putfield 19, 3) := by decide +kernel
theorem dX7_init_20 : decode cX7_init 20 = .ok (.return_, 1) := by decide +kernel
theorem dX7_isFull_0 : decode cX7_isFull 0 = .ok (.aload_n 0, 1) := by decide +kernel
theorem dX7_isFull_1 : decode cX7_isFull 1 = .ok (.getfield 7, 3) := by decide +kernel
theorem dX7_isFull_4 : decode cX7_isFull 4 = .ok (.aload_n 0, 1) := by decide +kernel
theorem dX7_isFull_5 : decode cX7_isFull 5 = .ok (.getfield 19, 3) := by decide +kernel
theorem dX7_isFull_8 : decode cX7_isFull 8 = .ok (.arraylength, 1) := by decide +kernel
theorem dX7_isFull_9 : decode cX7_isFull 9 = .ok (.if_icmp .lt 7, 3) := by decide +kernel
theorem dX7_isFull_12 : decode cX7_isFull 12 = .ok (.iconst 1, 1) := by decide +kernel
theorem dX7_isFull_13 : decode cX7_isFull 13 = .ok (.goto 4, 3) := by decide +kernel
theorem dX7_isFull_16 : decode cX7_isFull 16 = .ok (.iconst 0, 1) := by decide +kernel
theorem dX7_isFull_17 : decode cX7_isFull 17 = .ok (.ireturn, 1) := by decide +kernel
theorem dX8_addRide_0 : decode cX8_addRide 0 = .ok (.aload_n 0, 1) := by decide +kernel
theorem dX8_addRide_1 : decode cX8_addRide 1 = .ok (.getfield 38, 3) := by decide +kernel
theorem dX8_addRide_4 : decode cX8_addRide 4 = .ok (.istore_n 2, 1) := by decide +kernel
theorem dX8_addRide_5 : decode cX8_addRide 5 = .ok (.aload_n 0, 1) := by decide +kernel
theorem dX8_addRide_6 : decode cX8_addRide 6 = .ok (.getfield 20, 3) := by decide +kernel
theorem dX8_addRide_9 : decode cX8_addRide 9 = .ok (.iload_n 2, 1) := by decide +kernel
theorem dX8_addRide_10 : decode cX8_addRide 10 = .ok (.aload_n 1, 1) := by decide +kernel
theorem dX8_addRide_11 : decode cX8_addRide 11 = .ok (.aastore, 1) := by decide +kernel
theorem dX8_addRide_12 : decode cX8_addRide 12 = .ok (.aload_n 0, 1) := by decide +kernel
theorem dX8_addRide_13 : decode cX8_addRide 13 = .ok (.getfield 24, 3) := by decide +kernel
theorem dX8_addRide_16 : decode cX8_addRide 16 = .ok (.iload_n 2, 1) := by decide +kernel
theorem dX8_addRide_17 : decode cX8_addRide 17 = .ok (.iconst 0, 1) := by decide +kernel
theorem dX8_addRide_18 : decode cX8_addRide 18 = .ok (.iastore, 1) := by decide +kernel
theorem dX8_addRide_19 : decode cX8_addRide 19 = .ok (.aload_n 0, 1) := by decide +kernel
theorem dX8_addRide_20 : decode cX8_addRide 20 = .ok (.getfield 28, 3) := by decide +kernel
theorem dX8_addRide_23 : decode cX8_addRide 23 = .ok (.iload_n 2, 1) := by decide +kernel
theorem dX8_addRide_24 : decode cX8_addRide 24 = .ok (.iconst 0, 1) := by decide +kernel
theorem dX8_addRide_25 : decode cX8_addRide 25 = .ok (.iastore, 1) := by decide +kernel
theorem dX8_addRide_26 : decode cX8_addRide 26 = .ok (.aload_n 0, 1) := by decide +kernel
theorem dX8_addRide_27 : decode cX8_addRide 27 = .ok (.getfield 31, 3) := by decide +kernel
theorem dX8_addRide_30 : decode cX8_addRide 30 = .ok (.iload_n 2, 1) := by decide +kernel
theorem dX8_addRide_31 : decode cX8_addRide 31 = .ok (.iconst 0, 1) := by decide +kernel
theorem dX8_addRide_32 : decode cX8_addRide 32 = .ok (.iastore, 1) := by decide +kernel
theorem dX8_addRide_33 : decode cX8_addRide 33 = .ok (.aload_n 0, 1) := by decide +kernel
theorem dX8_addRide_34 : decode cX8_addRide 34 = .ok (.getfield 34, 3) := by decide +kernel
theorem dX8_addRide_37 : decode cX8_addRide 37 = .ok (.iload_n 2, 1) := by decide +kernel
theorem dX8_addRide_38 : decode cX8_addRide 38 = .ok (.iconst 0, 1) := by decide +kernel
theorem dX8_addRide_39 : decode cX8_addRide 39 = .ok (.bastore, 1) := by decide +kernel
theorem dX8_addRide_40 : decode cX8_addRide 40 = .ok (.aload_n 0, 1) := by decide +kernel
theorem dX8_addRide_41 : decode cX8_addRide 41 = .ok (.dup, 1) := by decide +kernel
theorem dX8_addRide_42 : decode cX8_addRide 42 = .ok (.getfield 38, 3) := by decide +kernel
theorem dX8_addRide_45 : decode cX8_addRide 45 = .ok (.iconst 1, 1) := by decide +kernel
theorem dX8_addRide_46 : decode cX8_addRide 46 = .ok (.iadd, 1) := by decide +kernel
theorem dX8_addRide_47 : decode cX8_addRide 47 = .ok (.putfield 38, 3) := by decide +kernel
theorem dX8_addRide_50 : decode cX8_addRide 50 = .ok (.iload_n 2, 1) := by decide +kernel
theorem dX8_addRide_51 : decode cX8_addRide 51 = .ok (.ireturn, 1) := by decide +kernel
theorem dX8_comeIn_0 : decode cX8_comeIn 0 = .ok (.aload_n 0, 1) := by decide +kernel
theorem dX8_comeIn_1 : decode cX8_comeIn 1 = .ok (.getfield 24, 3) := by decide +kernel
theorem dX8_comeIn_4 : decode cX8_comeIn 4 = .ok (.iload_n 1, 1) := by decide +kernel
theorem dX8_comeIn_5 : decode cX8_comeIn 5 = .ok (.aload_n 0, 1) := by decide +kernel
theorem dX8_comeIn_6 : decode cX8_comeIn 6 = .ok (.getfield 12, 3) := by decide +kernel
theorem dX8_comeIn_9 : decode cX8_comeIn 9 = .ok (.invokevirtual 126, 3) := by decide +kernel
theorem dX8_comeIn_12 : decode cX8_comeIn 12 = .ok (.iastore, 1) := by decide +kernel
theorem dX8_comeIn_13 : decode cX8_comeIn 13 = .ok (.aload_n 0, 1) := by decide +kernel
theorem dX8_comeIn_14 : decode cX8_comeIn 14 = .ok (.getfield 31, 3) := by decide +kernel
theorem dX8_comeIn_17 : decode cX8_comeIn 17 = .ok (.iload_n 1, 1) := by decide +kernel
theorem dX8_comeIn_18 : decode cX8_comeIn 18 = .ok (.aload_n 0, 1) := by decide +kernel
theorem dX8_comeIn_19 : decode cX8_comeIn 19 = .ok (.getfield 28, 3) := by decide +kernel
theorem dX8_comeIn_22 : decode cX8_comeIn 22 = .ok (.iload_n 1, 1) := by decide +kernel
theorem dX8_comeIn_23 : decode cX8_comeIn 23 = .ok (.iaload, 1) := by decide +kernel
theorem dX8_comeIn_24 : decode cX8_comeIn 24 = .ok (.iastore, 1) := by decide +kernel
theorem dX8_comeIn_25 : decode cX8_comeIn 25 = .ok (.aload_n 0, 1) := by decide +kernel
theorem dX8_comeIn_26 : decode cX8_comeIn 26 = .ok (.getfield 28, 3) := by decide +kernel
theorem dX8_comeIn_29 : decode cX8_comeIn 29 = .ok (.iload_n 1, 1) := by decide +kernel
theorem dX8_comeIn_30 : decode cX8_comeIn 30 = .ok (.iconst 0, 1) := by decide +kernel
theorem dX8_comeIn_31 : decode cX8_comeIn 31 = .ok (.iastore, 1) := by decide +kernel
theorem dX8_comeIn_32 : decode cX8_comeIn 32 = .ok (.aload_n 0, 1) := by decide +kernel
theorem dX8_comeIn_33 : decode cX8_comeIn 33 = .ok (.getfield 34, 3) := by decide +kernel
theorem dX8_comeIn_36 : decode cX8_comeIn 36 = .ok (.iload_n 1, 1) := by decide +kernel
theorem dX8_comeIn_37 : decode cX8_comeIn 37 = .ok (.iconst 1, 1) := by decide +kernel
theorem dX8_comeIn_38 : decode cX8_comeIn 38 = .ok (.bastore, 1) := by decide +kernel
theorem dX8_comeIn_39 : decode cX8_comeIn 39 = .ok (.return_, 1) := by decide +kernel
theorem dX8_comesWithin_0 : decode cX8_comesWithin 0 = .ok (.iconst 1, 1) := by decide +kernel
theorem dX8_comesWithin_1 : decode cX8_comesWithin 1 = .ok (.istore_n 3, 1) := by decide +kernel
theorem dX8_comesWithin_2 : decode cX8_comesWithin 2 = .ok (.iload_n 3, 1) := by decide +kernel
theorem dX8_comesWithin_3 : decode cX8_comesWithin 3 = .ok (.iload_n 2, 1) := by decide +kernel
theorem dX8_comesWithin_4 : decode cX8_comesWithin 4 = .ok (.if_icmp .gt 30, 3) := by decide +kernel
theorem dX8_comesWithin_7 : decode cX8_comesWithin 7 = .ok (.aload_n 0, 1) := by decide +kernel
theorem dX8_comesWithin_8 : decode cX8_comesWithin 8 = .ok (.iload_n 1, 1) := by decide +kernel
theorem dX8_comesWithin_9 : decode cX8_comesWithin 9 = .ok (.invokevirtual 137, 3) := by decide +kernel
theorem dX8_comesWithin_12 : decode cX8_comesWithin 12 = .ok (.ifCond .ne 5, 3) := by decide +kernel
theorem dX8_comesWithin_15 : decode cX8_comesWithin 15 = .ok (.iconst 0, 1) := by decide +kernel
theorem dX8_comesWithin_16 : decode cX8_comesWithin 16 = .ok (.ireturn, 1) := by decide +kernel
theorem dX8_comesWithin_17 : decode cX8_comesWithin 17 = .ok (.aload_n 0, 1) := by decide +kernel
theorem dX8_comesWithin_18 : decode cX8_comesWithin 18 = .ok (.getfield 34, 3) := by decide +kernel
theorem dX8_comesWithin_21 : decode cX8_comesWithin 21 = .ok (.iload_n 1, 1) := by decide +kernel
theorem dX8_comesWithin_22 : decode cX8_comesWithin 22 = .ok (.baload, 1) := by decide +kernel
theorem dX8_comesWithin_23 : decode cX8_comesWithin 23 = .ok (.ifCond .eq 5, 3) := by decide +kernel
theorem dX8_comesWithin_26 : decode cX8_comesWithin 26 = .ok (.iload_n 3, 1) := by decide +kernel
theorem dX8_comesWithin_27 : decode cX8_comesWithin 27 = .ok (.ireturn, 1) := by decide +kernel
theorem dX8_comesWithin_28 : decode cX8_comesWithin 28 = .ok (.iinc 3 1, 3) := by decide +kernel
theorem dX8_comesWithin_31 : decode cX8_comesWithin 31 = .ok (.goto (-29), 3) := by decide +kernel
theorem dX8_comesWithin_34 : decode cX8_comesWithin 34 = .ok (.iconst 0, 1) := by decide +kernel
theorem dX8_comesWithin_35 : decode cX8_comesWithin 35 = .ok (.ireturn, 1) := by decide +kernel
theorem dX8_copyFrom_0 : decode cX8_copyFrom 0 = .ok (.aload_n 0, 1) := by decide +kernel
theorem dX8_copyFrom_1 : decode cX8_copyFrom 1 = .ok (.getfield 12, 3) := by decide +kernel
theorem dX8_copyFrom_4 : decode cX8_copyFrom 4 = .ok (.aload_n 1, 1) := by decide +kernel
theorem dX8_copyFrom_5 : decode cX8_copyFrom 5 = .ok (.getfield 12, 3) := by decide +kernel
theorem dX8_copyFrom_8 : decode cX8_copyFrom 8 = .ok (.invokevirtual 90, 3) := by decide +kernel
theorem dX8_copyFrom_11 : decode cX8_copyFrom 11 = .ok (.iconst 0, 1) := by decide +kernel
theorem dX8_copyFrom_12 : decode cX8_copyFrom 12 = .ok (.istore_n 2, 1) := by decide +kernel
theorem dX8_copyFrom_13 : decode cX8_copyFrom 13 = .ok (.iload_n 2, 1) := by decide +kernel
theorem dX8_copyFrom_14 : decode cX8_copyFrom 14 = .ok (.bipush 8, 2) := by decide +kernel
theorem dX8_copyFrom_16 : decode cX8_copyFrom 16 = .ok (.if_icmp .ge 15, 3) := by decide +kernel
theorem dX8_copyFrom_19 : decode cX8_copyFrom 19 = .ok (.aload_n 0, 1) := by decide +kernel
theorem dX8_copyFrom_20 : decode cX8_copyFrom 20 = .ok (.aload_n 1, 1) := by decide +kernel
theorem dX8_copyFrom_21 : decode cX8_copyFrom 21 = .ok (.iload_n 2, 1) := by decide +kernel
theorem dX8_copyFrom_22 : decode cX8_copyFrom 22 = .ok (.invokevirtual 94, 3) := by decide +kernel
theorem dX8_copyFrom_25 : decode cX8_copyFrom 25 = .ok (.iinc 2 1, 3) := by decide +kernel
theorem dX8_copyFrom_28 : decode cX8_copyFrom 28 = .ok (.goto (-15), 3) := by decide +kernel
theorem dX8_copyFrom_31 : decode cX8_copyFrom 31 = .ok (.aload_n 0, 1) := by decide +kernel
theorem dX8_copyFrom_32 : decode cX8_copyFrom 32 = .ok (.aload_n 1, 1) := by decide +kernel
theorem dX8_copyFrom_33 : decode cX8_copyFrom 33 = .ok (.getfield 38, 3) := by decide +kernel
theorem dX8_copyFrom_36 : decode cX8_copyFrom 36 = .ok (.putfield 38, 3) := by decide +kernel
theorem dX8_copyFrom_39 : decode cX8_copyFrom 39 = .ok (.aload_n 0, 1) := by decide +kernel
theorem dX8_copyFrom_40 : decode cX8_copyFrom 40 = .ok (.aload_n 1, 1) := by decide +kernel
theorem dX8_copyFrom_41 : decode cX8_copyFrom 41 = .ok (.getfield 42, 3) := by decide +kernel
theorem dX8_copyFrom_44 : decode cX8_copyFrom 44 = .ok (.putfield 42, 3) := by decide +kernel
theorem dX8_copyFrom_47 : decode cX8_copyFrom 47 = .ok (.aload_n 0, 1) := by decide +kernel
theorem dX8_copyFrom_48 : decode cX8_copyFrom 48 = .ok (.aload_n 1, 1) := by decide +kernel
theorem dX8_copyFrom_49 : decode cX8_copyFrom 49 = .ok (.getfield 45, 3) := by decide +kernel
theorem dX8_copyFrom_52 : decode cX8_copyFrom 52 = .ok (.putfield 45, 3) := by decide +kernel
theorem dX8_copyFrom_55 : decode cX8_copyFrom 55 = .ok (.aload_n 0, 1) := by decide +kernel
theorem dX8_copyFrom_56 : decode cX8_copyFrom 56 = .ok (.getfield 53, 3) := by decide +kernel
theorem dX8_copyFrom_59 : decode cX8_copyFrom 59 = .ok (.aload_n 1, 1) := by decide +kernel
theorem dX8_copyFrom_60 : decode cX8_copyFrom 60 = .ok (.getfield 53, 3) := by decide +kernel
theorem dX8_copyFrom_63 : decode cX8_copyFrom 63 = .ok (.invokevirtual 98, 3) := by decide +kernel
theorem dX8_copyFrom_66 : decode cX8_copyFrom 66 = .ok (.aload_n 0, 1) := by decide +kernel
theorem dX8_copyFrom_67 : decode cX8_copyFrom 67 = .ok (.getfield 57, 3) := by decide +kernel
theorem dX8_copyFrom_70 : decode cX8_copyFrom 70 = .ok (.aload_n 1, 1) := by decide +kernel
theorem dX8_copyFrom_71 : decode cX8_copyFrom 71 = .ok (.getfield 57, 3) := by decide +kernel
theorem dX8_copyFrom_74 : decode cX8_copyFrom 74 = .ok (.invokevirtual 98, 3) := by decide +kernel
theorem dX8_copyFrom_77 : decode cX8_copyFrom 77 = .ok (.aload_n 0, 1) := by decide +kernel
theorem dX8_copyFrom_78 : decode cX8_copyFrom 78 = .ok (.getfield 60, 3) := by decide +kernel
theorem dX8_copyFrom_81 : decode cX8_copyFrom 81 = .ok (.aload_n 1, 1) := by decide +kernel
theorem dX8_copyFrom_82 : decode cX8_copyFrom 82 = .ok (.getfield 60, 3) := by decide +kernel
theorem dX8_copyFrom_85 : decode cX8_copyFrom 85 = .ok (.invokevirtual 98, 3) := by decide +kernel
theorem dX8_copyFrom_88 : decode cX8_copyFrom 88 = .ok (.aload_n 0, 1) := by decide +kernel
theorem dX8_copyFrom_89 : decode cX8_copyFrom 89 = .ok (.getfield 63, 3) := by decide +kernel
theorem dX8_copyFrom_92 : decode cX8_copyFrom 92 = .ok (.aload_n 1, 1) := by decide +kernel
theorem dX8_copyFrom_93 : decode cX8_copyFrom 93 = .ok (.getfield 63, 3) := by decide +kernel
theorem dX8_copyFrom_96 : decode cX8_copyFrom 96 = .ok (.invokevirtual 98, 3) := by decide +kernel
theorem dX8_copyFrom_99 : decode cX8_copyFrom 99 = .ok (.aload_n 0, 1) := by decide +kernel
theorem dX8_copyFrom_100 : decode cX8_copyFrom 100 = .ok (.getfield 66, 3) := by decide +kernel
theorem dX8_copyFrom_103 : decode cX8_copyFrom 103 = .ok (.aload_n 1, 1) := by decide +kernel
theorem dX8_copyFrom_104 : decode cX8_copyFrom 104 = .ok (.getfield 66, 3) := by decide +kernel
theorem dX8_copyFrom_107 : decode cX8_copyFrom 107 = .ok (.invokevirtual 98, 3) := by decide +kernel
theorem dX8_copyFrom_110 : decode cX8_copyFrom 110 = .ok (.aload_n 0, 1) := by decide +kernel
theorem dX8_copyFrom_111 : decode cX8_copyFrom 111 = .ok (.getfield 69, 3) := by decide +kernel
theorem dX8_copyFrom_114 : decode cX8_copyFrom 114 = .ok (.aload_n 1, 1) := by decide +kernel
theorem dX8_copyFrom_115 : decode cX8_copyFrom 115 = .ok (.getfield 69, 3) := by decide +kernel
theorem dX8_copyFrom_118 : decode cX8_copyFrom 118 = .ok (.invokevirtual 98, 3) := by decide +kernel
theorem dX8_copyFrom_121 : decode cX8_copyFrom 121 = .ok (.aload_n 0, 1) := by decide +kernel
theorem dX8_copyFrom_122 : decode cX8_copyFrom 122 = .ok (.getfield 72, 3) := by decide +kernel
theorem dX8_copyFrom_125 : decode cX8_copyFrom 125 = .ok (.aload_n 1, 1) := by decide +kernel
theorem dX8_copyFrom_126 : decode cX8_copyFrom 126 = .ok (.getfield 72, 3) := by decide +kernel
theorem dX8_copyFrom_129 : decode cX8_copyFrom 129 = .ok (.invokevirtual 98, 3) := by decide +kernel
theorem dX8_copyFrom_132 : decode cX8_copyFrom 132 = .ok (.aload_n 0, 1) := by decide +kernel
theorem dX8_copyFrom_133 : decode cX8_copyFrom 133 = .ok (.getfield 75, 3) := by decide +kernel
theorem dX8_copyFrom_136 : decode cX8_copyFrom 136 = .ok (.aload_n 1, 1) := by decide +kernel
theorem dX8_copyFrom_137 : decode cX8_copyFrom 137 = .ok (.getfield 75, 3) := by decide +kernel
theorem dX8_copyFrom_140 : decode cX8_copyFrom 140 = .ok (.invokevirtual 98, 3) := by decide +kernel
theorem dX8_copyFrom_143 : decode cX8_copyFrom 143 = .ok (.return_, 1) := by decide +kernel
theorem dX8_copyRide_0 : decode cX8_copyRide 0 = .ok (.aload_n 0, 1) := by decide +kernel
theorem dX8_copyRide_1 : decode cX8_copyRide 1 = .ok (.getfield 20, 3) := by decide +kernel
theorem dX8_copyRide_4 : decode cX8_copyRide 4 = .ok (.iload_n 2, 1) := by decide +kernel
theorem dX8_copyRide_5 : decode cX8_copyRide 5 = .ok (.aload_n 1, 1) := by decide +kernel
theorem dX8_copyRide_6 : decode cX8_copyRide 6 = .ok (.getfield 20, 3) := by decide +kernel
theorem dX8_copyRide_9 : decode cX8_copyRide 9 = .ok (.iload_n 2, 1) := by decide +kernel
theorem dX8_copyRide_10 : decode cX8_copyRide 10 = .ok (.aaload, 1) := by decide +kernel
theorem dX8_copyRide_11 : decode cX8_copyRide 11 = .ok (.aastore, 1) := by decide +kernel
theorem dX8_copyRide_12 : decode cX8_copyRide 12 = .ok (.aload_n 0, 1) := by decide +kernel
theorem dX8_copyRide_13 : decode cX8_copyRide 13 = .ok (.getfield 24, 3) := by decide +kernel
theorem dX8_copyRide_16 : decode cX8_copyRide 16 = .ok (.iload_n 2, 1) := by decide +kernel
theorem dX8_copyRide_17 : decode cX8_copyRide 17 = .ok (.aload_n 1, 1) := by decide +kernel
theorem dX8_copyRide_18 : decode cX8_copyRide 18 = .ok (.getfield 24, 3) := by decide +kernel
theorem dX8_copyRide_21 : decode cX8_copyRide 21 = .ok (.iload_n 2, 1) := by decide +kernel
theorem dX8_copyRide_22 : decode cX8_copyRide 22 = .ok (.iaload, 1) := by decide +kernel
theorem dX8_copyRide_23 : decode cX8_copyRide 23 = .ok (.iastore, 1) := by decide +kernel
theorem dX8_copyRide_24 : decode cX8_copyRide 24 = .ok (.aload_n 0, 1) := by decide +kernel
theorem dX8_copyRide_25 : decode cX8_copyRide 25 = .ok (.getfield 28, 3) := by decide +kernel
theorem dX8_copyRide_28 : decode cX8_copyRide 28 = .ok (.iload_n 2, 1) := by decide +kernel
theorem dX8_copyRide_29 : decode cX8_copyRide 29 = .ok (.aload_n 1, 1) := by decide +kernel
theorem dX8_copyRide_30 : decode cX8_copyRide 30 = .ok (.getfield 28, 3) := by decide +kernel
theorem dX8_copyRide_33 : decode cX8_copyRide 33 = .ok (.iload_n 2, 1) := by decide +kernel
theorem dX8_copyRide_34 : decode cX8_copyRide 34 = .ok (.iaload, 1) := by decide +kernel
theorem dX8_copyRide_35 : decode cX8_copyRide 35 = .ok (.iastore, 1) := by decide +kernel
theorem dX8_copyRide_36 : decode cX8_copyRide 36 = .ok (.aload_n 0, 1) := by decide +kernel
theorem dX8_copyRide_37 : decode cX8_copyRide 37 = .ok (.getfield 31, 3) := by decide +kernel
theorem dX8_copyRide_40 : decode cX8_copyRide 40 = .ok (.iload_n 2, 1) := by decide +kernel
theorem dX8_copyRide_41 : decode cX8_copyRide 41 = .ok (.aload_n 1, 1) := by decide +kernel
theorem dX8_copyRide_42 : decode cX8_copyRide 42 = .ok (.getfield 31, 3) := by decide +kernel
theorem dX8_copyRide_45 : decode cX8_copyRide 45 = .ok (.iload_n 2, 1) := by decide +kernel
theorem dX8_copyRide_46 : decode cX8_copyRide 46 = .ok (.iaload, 1) := by decide +kernel
theorem dX8_copyRide_47 : decode cX8_copyRide 47 = .ok (.iastore, 1) := by decide +kernel
theorem dX8_copyRide_48 : decode cX8_copyRide 48 = .ok (.aload_n 0, 1) := by decide +kernel
theorem dX8_copyRide_49 : decode cX8_copyRide 49 = .ok (.getfield 34, 3) := by decide +kernel
theorem dX8_copyRide_52 : decode cX8_copyRide 52 = .ok (.iload_n 2, 1) := by decide +kernel
theorem dX8_copyRide_53 : decode cX8_copyRide 53 = .ok (.aload_n 1, 1) := by decide +kernel
theorem dX8_copyRide_54 : decode cX8_copyRide 54 = .ok (.getfield 34, 3) := by decide +kernel
theorem dX8_copyRide_57 : decode cX8_copyRide 57 = .ok (.iload_n 2, 1) := by decide +kernel
theorem dX8_copyRide_58 : decode cX8_copyRide 58 = .ok (.baload, 1) := by decide +kernel
theorem dX8_copyRide_59 : decode cX8_copyRide 59 = .ok (.bastore, 1) := by decide +kernel
theorem dX8_copyRide_60 : decode cX8_copyRide 60 = .ok (.return_, 1) := by decide +kernel
theorem dX8_draw_0 : decode cX8_draw 0 = .ok (.aload_n 0, 1) := by decide +kernel
theorem dX8_draw_1 : decode cX8_draw 1 = .ok (.aload_n 0, 1) := by decide +kernel
theorem dX8_draw_2 : decode cX8_draw 2 = .ok (.getfield 45, 3) := by decide +kernel
theorem dX8_draw_5 : decode cX8_draw 5 = .ok (.ldc 136, 2) := by decide +kernel
theorem dX8_draw_7 : decode cX8_draw 7 = .ok (.imul, 1) := by decide +kernel
theorem dX8_draw_8 : decode cX8_draw 8 = .ok (.sipush 12345, 3) := by decide +kernel
theorem dX8_draw_11 : decode cX8_draw 11 = .ok (.iadd, 1) := by decide +kernel
theorem dX8_draw_12 : decode cX8_draw 12 = .ok (.putfield 45, 3) := by decide +kernel
theorem dX8_draw_15 : decode cX8_draw 15 = .ok (.aload_n 0, 1) := by decide +kernel
theorem dX8_draw_16 : decode cX8_draw 16 = .ok (.getfield 45, 3) := by decide +kernel
theorem dX8_draw_19 : decode cX8_draw 19 = .ok (.bipush 8, 2) := by decide +kernel
theorem dX8_draw_21 : decode cX8_draw 21 = .ok (.iushr, 1) := by decide +kernel
theorem dX8_draw_22 : decode cX8_draw 22 = .ok (.ireturn, 1) := by decide +kernel
theorem dX8_factOf_0 : decode cX8_factOf 0 = .ok (.aload_n 0, 1) := by decide +kernel
theorem dX8_factOf_1 : decode cX8_factOf 1 = .ok (.iload_n 1, 1) := by decide +kernel
theorem dX8_factOf_2 : decode cX8_factOf 2 = .ok (.invokevirtual 105, 3) := by decide +kernel
theorem dX8_factOf_5 : decode cX8_factOf 5 = .ok (.astore_n 3, 1) := by decide +kernel
theorem dX8_factOf_6 : decode cX8_factOf 6 = .ok (.aload_n 3, 1) := by decide +kernel
theorem dX8_factOf_7 : decode cX8_factOf 7 = .ok (.ifnonnull 5, 3) := by decide +kernel
theorem dX8_factOf_10 : decode cX8_factOf 10 = .ok (.iconst 0, 1) := by decide +kernel
theorem dX8_factOf_11 : decode cX8_factOf 11 = .ok (.ireturn, 1) := by decide +kernel
theorem dX8_factOf_12 : decode cX8_factOf 12 = .ok (.iload_n 2, 1) := by decide +kernel
theorem dX8_factOf_13 : decode cX8_factOf 13 = .ok (.tableswitch 119 0 7 #[47, 52, 57, 62, 69, 76, 91, 98], 47) := by decide +kernel
theorem dX8_factOf_60 : decode cX8_factOf 60 = .ok (.aload_n 3, 1) := by decide +kernel
theorem dX8_factOf_61 : decode cX8_factOf 61 = .ok (.getfield 109, 3) := by decide +kernel
theorem dX8_factOf_64 : decode cX8_factOf 64 = .ok (.ireturn, 1) := by decide +kernel
theorem dX8_factOf_65 : decode cX8_factOf 65 = .ok (.aload_n 3, 1) := by decide +kernel
theorem dX8_factOf_66 : decode cX8_factOf 66 = .ok (.getfield 112, 3) := by decide +kernel
theorem dX8_factOf_69 : decode cX8_factOf 69 = .ok (.ireturn, 1) := by decide +kernel
theorem dX8_factOf_70 : decode cX8_factOf 70 = .ok (.aload_n 3, 1) := by decide +kernel
theorem dX8_factOf_71 : decode cX8_factOf 71 = .ok (.getfield 115, 3) := by decide +kernel
theorem dX8_factOf_74 : decode cX8_factOf 74 = .ok (.ireturn, 1) := by decide +kernel
theorem dX8_factOf_75 : decode cX8_factOf 75 = .ok (.aload_n 0, 1) := by decide +kernel
theorem dX8_factOf_76 : decode cX8_factOf 76 = .ok (.getfield 24, 3) := by decide +kernel
theorem dX8_factOf_79 : decode cX8_factOf 79 = .ok (.iload_n 1, 1) := by decide +kernel
theorem dX8_factOf_80 : decode cX8_factOf 80 = .ok (.iaload, 1) := by decide +kernel
theorem dX8_factOf_81 : decode cX8_factOf 81 = .ok (.ireturn, 1) := by decide +kernel
theorem dX8_factOf_82 : decode cX8_factOf 82 = .ok (.aload_n 0, 1) := by decide +kernel
theorem dX8_factOf_83 : decode cX8_factOf 83 = .ok (.getfield 28, 3) := by decide +kernel
theorem dX8_factOf_86 : decode cX8_factOf 86 = .ok (.iload_n 1, 1) := by decide +kernel
theorem dX8_factOf_87 : decode cX8_factOf 87 = .ok (.iaload, 1) := by decide +kernel
theorem dX8_factOf_88 : decode cX8_factOf 88 = .ok (.ireturn, 1) := by decide +kernel
theorem dX8_factOf_89 : decode cX8_factOf 89 = .ok (.aload_n 0, 1) := by decide +kernel
theorem dX8_factOf_90 : decode cX8_factOf 90 = .ok (.getfield 34, 3) := by decide +kernel
theorem dX8_factOf_93 : decode cX8_factOf 93 = .ok (.iload_n 1, 1) := by decide +kernel
theorem dX8_factOf_94 : decode cX8_factOf 94 = .ok (.baload, 1) := by decide +kernel
theorem dX8_factOf_95 : decode cX8_factOf 95 = .ok (.ifCond .eq 7, 3) := by decide +kernel
theorem dX8_factOf_98 : decode cX8_factOf 98 = .ok (.iconst 1, 1) := by decide +kernel
theorem dX8_factOf_99 : decode cX8_factOf 99 = .ok (.goto 4, 3) := by decide +kernel
theorem dX8_factOf_102 : decode cX8_factOf 102 = .ok (.iconst 0, 1) := by decide +kernel
theorem dX8_factOf_103 : decode cX8_factOf 103 = .ok (.ireturn, 1) := by decide +kernel
theorem dX8_factOf_104 : decode cX8_factOf 104 = .ok (.aload_n 0, 1) := by decide +kernel
theorem dX8_factOf_105 : decode cX8_factOf 105 = .ok (.getfield 31, 3) := by decide +kernel
theorem dX8_factOf_108 : decode cX8_factOf 108 = .ok (.iload_n 1, 1) := by decide +kernel
theorem dX8_factOf_109 : decode cX8_factOf 109 = .ok (.iaload, 1) := by decide +kernel
theorem dX8_factOf_110 : decode cX8_factOf 110 = .ok (.ireturn, 1) := by decide +kernel
theorem dX8_factOf_111 : decode cX8_factOf 111 = .ok (.aload_n 3, 1) := by decide +kernel
theorem dX8_factOf_112 : decode cX8_factOf 112 = .ok (.aload_n 0, 1) := by decide +kernel
theorem dX8_factOf_113 : decode cX8_factOf 113 = .ok (.getfield 12, 3) := by decide +kernel
theorem dX8_factOf_116 : decode cX8_factOf 116 = .ok (.aload_n 0, 1) := by decide +kernel
theorem dX8_factOf_117 : decode cX8_factOf 117 = .ok (.getfield 24, 3) := by decide +kernel
theorem dX8_factOf_120 : decode cX8_factOf 120 = .ok (.iload_n 1, 1) := by decide +kernel
theorem dX8_factOf_121 : decode cX8_factOf 121 = .ok (.iaload, 1) := by decide +kernel
theorem dX8_factOf_122 : decode cX8_factOf 122 = .ok (.aload_n 0, 1) := by decide +kernel
theorem dX8_factOf_123 : decode cX8_factOf 123 = .ok (.getfield 28, 3) := by decide +kernel
theorem dX8_factOf_126 : decode cX8_factOf 126 = .ok (.iload_n 1, 1) := by decide +kernel
theorem dX8_factOf_127 : decode cX8_factOf 127 = .ok (.iaload, 1) := by decide +kernel
theorem dX8_factOf_128 : decode cX8_factOf 128 = .ok (.invokevirtual 118, 3) := by decide +kernel
theorem dX8_factOf_131 : decode cX8_factOf 131 = .ok (.ireturn, 1) := by decide +kernel
theorem dX8_factOf_132 : decode cX8_factOf 132 = .ok (.aload_n 3, 1) := by decide +kernel
theorem dX8_factOf_133 : decode cX8_factOf 133 = .ok (.aload_n 0, 1) := by decide +kernel
theorem dX8_factOf_134 : decode cX8_factOf 134 = .ok (.getfield 12, 3) := by decide +kernel
theorem dX8_factOf_137 : decode cX8_factOf 137 = .ok (.invokevirtual 122, 3) := by decide +kernel
theorem dX8_factOf_140 : decode cX8_factOf 140 = .ok (.ireturn, 1) := by decide +kernel
theorem dX8_goesOn_0 : decode cX8_goesOn 0 = .ok (.aload_n 0, 1) := by decide +kernel
theorem dX8_goesOn_1 : decode cX8_goesOn 1 = .ok (.iload_n 1, 1) := by decide +kernel
theorem dX8_goesOn_2 : decode cX8_goesOn 2 = .ok (.invokevirtual 105, 3) := by decide +kernel
theorem dX8_goesOn_5 : decode cX8_goesOn 5 = .ok (.astore_n 2, 1) := by decide +kernel
theorem dX8_goesOn_6 : decode cX8_goesOn 6 = .ok (.aload_n 2, 1) := by decide +kernel
theorem dX8_goesOn_7 : decode cX8_goesOn 7 = .ok (.ifnonnull 5, 3) := by decide +kernel
theorem dX8_goesOn_10 : decode cX8_goesOn 10 = .ok (.iconst 0, 1) := by decide +kernel
theorem dX8_goesOn_11 : decode cX8_goesOn 11 = .ok (.ireturn, 1) := by decide +kernel
theorem dX8_goesOn_12 : decode cX8_goesOn 12 = .ok (.aload_n 0, 1) := by decide +kernel
theorem dX8_goesOn_13 : decode cX8_goesOn 13 = .ok (.getfield 24, 3) := by decide +kernel
theorem dX8_goesOn_16 : decode cX8_goesOn 16 = .ok (.iload_n 1, 1) := by decide +kernel
theorem dX8_goesOn_17 : decode cX8_goesOn 17 = .ok (.iaload, 1) := by decide +kernel
theorem dX8_goesOn_18 : decode cX8_goesOn 18 = .ok (.istore_n 3, 1) := by decide +kernel
theorem dX8_goesOn_19 : decode cX8_goesOn 19 = .ok (.aload_n 0, 1) := by decide +kernel
theorem dX8_goesOn_20 : decode cX8_goesOn 20 = .ok (.getfield 28, 3) := by decide +kernel
theorem dX8_goesOn_23 : decode cX8_goesOn 23 = .ok (.iload_n 1, 1) := by decide +kernel
theorem dX8_goesOn_24 : decode cX8_goesOn 24 = .ok (.iaload, 1) := by decide +kernel
theorem dX8_goesOn_25 : decode cX8_goesOn 25 = .ok (.istore 4, 2) := by decide +kernel
theorem dX8_goesOn_27 : decode cX8_goesOn 27 = .ok (.iload 4, 2) := by decide +kernel
theorem dX8_goesOn_29 : decode cX8_goesOn 29 = .ok (.aload_n 2, 1) := by decide +kernel
theorem dX8_goesOn_30 : decode cX8_goesOn 30 = .ok (.aload_n 0, 1) := by decide +kernel
theorem dX8_goesOn_31 : decode cX8_goesOn 31 = .ok (.getfield 12, 3) := by decide +kernel
theorem dX8_goesOn_34 : decode cX8_goesOn 34 = .ok (.iload_n 3, 1) := by decide +kernel
theorem dX8_goesOn_35 : decode cX8_goesOn 35 = .ok (.iload 4, 2) := by decide +kernel
theorem dX8_goesOn_37 : decode cX8_goesOn 37 = .ok (.invokevirtual 118, 3) := by decide +kernel
theorem dX8_goesOn_40 : decode cX8_goesOn 40 = .ok (.iadd, 1) := by decide +kernel
theorem dX8_goesOn_41 : decode cX8_goesOn 41 = .ok (.aload_n 2, 1) := by decide +kernel
theorem dX8_goesOn_42 : decode cX8_goesOn 42 = .ok (.aload_n 0, 1) := by decide +kernel
theorem dX8_goesOn_43 : decode cX8_goesOn 43 = .ok (.getfield 12, 3) := by decide +kernel
theorem dX8_goesOn_46 : decode cX8_goesOn 46 = .ok (.invokevirtual 122, 3) := by decide +kernel
theorem dX8_goesOn_49 : decode cX8_goesOn 49 = .ok (.invokestatic 144, 3) := by decide +kernel
theorem dX8_goesOn_52 : decode cX8_goesOn 52 = .ok (.istore 5, 2) := by decide +kernel
theorem dX8_goesOn_54 : decode cX8_goesOn 54 = .ok (.aload_n 0, 1) := by decide +kernel
theorem dX8_goesOn_55 : decode cX8_goesOn 55 = .ok (.getfield 28, 3) := by decide +kernel
theorem dX8_goesOn_58 : decode cX8_goesOn 58 = .ok (.iload_n 1, 1) := by decide +kernel
theorem dX8_goesOn_59 : decode cX8_goesOn 59 = .ok (.iload 5, 2) := by decide +kernel
theorem dX8_goesOn_61 : decode cX8_goesOn 61 = .ok (.sipush (-300), 3) := by decide +kernel
theorem dX8_goesOn_64 : decode cX8_goesOn 64 = .ok (.sipush 300, 3) := by decide +kernel
theorem dX8_goesOn_67 : decode cX8_goesOn 67 = .ok (.invokestatic 147, 3) := by decide +kernel
theorem dX8_goesOn_70 : decode cX8_goesOn 70 = .ok (.iastore, 1) := by decide +kernel
theorem dX8_goesOn_71 : decode cX8_goesOn 71 = .ok (.aload_n 0, 1) := by decide +kernel
theorem dX8_goesOn_72 : decode cX8_goesOn 72 = .ok (.getfield 24, 3) := by decide +kernel
theorem dX8_goesOn_75 : decode cX8_goesOn 75 = .ok (.iload_n 1, 1) := by decide +kernel
theorem dX8_goesOn_76 : decode cX8_goesOn 76 = .ok (.iload_n 3, 1) := by decide +kernel
theorem dX8_goesOn_77 : decode cX8_goesOn 77 = .ok (.aload_n 0, 1) := by decide +kernel
theorem dX8_goesOn_78 : decode cX8_goesOn 78 = .ok (.getfield 28, 3) := by decide +kernel
theorem dX8_goesOn_81 : decode cX8_goesOn 81 = .ok (.iload_n 1, 1) := by decide +kernel
theorem dX8_goesOn_82 : decode cX8_goesOn 82 = .ok (.iaload, 1) := by decide +kernel
theorem dX8_goesOn_83 : decode cX8_goesOn 83 = .ok (.iadd, 1) := by decide +kernel
theorem dX8_goesOn_84 : decode cX8_goesOn 84 = .ok (.iastore, 1) := by decide +kernel
theorem dX8_goesOn_85 : decode cX8_goesOn 85 = .ok (.aload_n 0, 1) := by decide +kernel
theorem dX8_goesOn_86 : decode cX8_goesOn 86 = .ok (.getfield 24, 3) := by decide +kernel
theorem dX8_goesOn_89 : decode cX8_goesOn 89 = .ok (.iload_n 1, 1) := by decide +kernel
theorem dX8_goesOn_90 : decode cX8_goesOn 90 = .ok (.iaload, 1) := by decide +kernel
theorem dX8_goesOn_91 : decode cX8_goesOn 91 = .ok (.aload_n 0, 1) := by decide +kernel
theorem dX8_goesOn_92 : decode cX8_goesOn 92 = .ok (.getfield 12, 3) := by decide +kernel
theorem dX8_goesOn_95 : decode cX8_goesOn 95 = .ok (.invokevirtual 126, 3) := by decide +kernel
theorem dX8_goesOn_98 : decode cX8_goesOn 98 = .ok (.if_icmp .lt 11, 3) := by decide +kernel
theorem dX8_goesOn_101 : decode cX8_goesOn 101 = .ok (.aload_n 0, 1) := by decide +kernel
theorem dX8_goesOn_102 : decode cX8_goesOn 102 = .ok (.iload_n 1, 1) := by decide +kernel
theorem dX8_goesOn_103 : decode cX8_goesOn 103 = .ok (.invokevirtual 151, 3) := by decide +kernel
theorem dX8_goesOn_106 : decode cX8_goesOn 106 = .ok (.goto 26, 3) := by decide +kernel
theorem dX8_goesOn_109 : decode cX8_goesOn 109 = .ok (.aload_n 0, 1) := by decide +kernel
theorem dX8_goesOn_110 : decode cX8_goesOn 110 = .ok (.getfield 24, 3) := by decide +kernel
theorem dX8_goesOn_113 : decode cX8_goesOn 113 = .ok (.iload_n 1, 1) := by decide +kernel
theorem dX8_goesOn_114 : decode cX8_goesOn 114 = .ok (.iaload, 1) := by decide +kernel
theorem dX8_goesOn_115 : decode cX8_goesOn 115 = .ok (.ifCond .ge 17, 3) := by decide +kernel
theorem dX8_goesOn_118 : decode cX8_goesOn 118 = .ok (.aload_n 0, 1) := by decide +kernel
theorem dX8_goesOn_119 : decode cX8_goesOn 119 = .ok (.getfield 24, 3) := by decide +kernel
theorem dX8_goesOn_122 : decode cX8_goesOn 122 = .ok (.iload_n 1, 1) := by decide +kernel
theorem dX8_goesOn_123 : decode cX8_goesOn 123 = .ok (.iconst 0, 1) := by decide +kernel
theorem dX8_goesOn_124 : decode cX8_goesOn 124 = .ok (.iastore, 1) := by decide +kernel
theorem dX8_goesOn_125 : decode cX8_goesOn 125 = .ok (.aload_n 0, 1) := by decide +kernel
theorem dX8_goesOn_126 : decode cX8_goesOn 126 = .ok (.getfield 28, 3) := by decide +kernel
theorem dX8_goesOn_129 : decode cX8_goesOn 129 = .ok (.iload_n 1, 1) := by decide +kernel
theorem dX8_goesOn_130 : decode cX8_goesOn 130 = .ok (.iconst 0, 1) := by decide +kernel
theorem dX8_goesOn_131 : decode cX8_goesOn 131 = .ok (.iastore, 1) := by decide +kernel
theorem dX8_goesOn_132 : decode cX8_goesOn 132 = .ok (.aload_n 0, 1) := by decide +kernel
theorem dX8_goesOn_133 : decode cX8_goesOn 133 = .ok (.getfield 34, 3) := by decide +kernel
theorem dX8_goesOn_136 : decode cX8_goesOn 136 = .ok (.iload_n 1, 1) := by decide +kernel
theorem dX8_goesOn_137 : decode cX8_goesOn 137 = .ok (.baload, 1) := by decide +kernel
theorem dX8_goesOn_138 : decode cX8_goesOn 138 = .ok (.ifCond .ne 24, 3) := by decide +kernel
theorem dX8_goesOn_141 : decode cX8_goesOn 141 = .ok (.aload_n 0, 1) := by decide +kernel
theorem dX8_goesOn_142 : decode cX8_goesOn 142 = .ok (.getfield 24, 3) := by decide +kernel
theorem dX8_goesOn_145 : decode cX8_goesOn 145 = .ok (.iload_n 1, 1) := by decide +kernel
theorem dX8_goesOn_146 : decode cX8_goesOn 146 = .ok (.iaload, 1) := by decide +kernel
theorem dX8_goesOn_147 : decode cX8_goesOn 147 = .ok (.iload_n 3, 1) := by decide +kernel
theorem dX8_goesOn_148 : decode cX8_goesOn 148 = .ok (.if_icmp .ne 14, 3) := by decide +kernel
theorem dX8_goesOn_151 : decode cX8_goesOn 151 = .ok (.aload_n 0, 1) := by decide +kernel
theorem dX8_goesOn_152 : decode cX8_goesOn 152 = .ok (.getfield 28, 3) := by decide +kernel
theorem dX8_goesOn_155 : decode cX8_goesOn 155 = .ok (.iload_n 1, 1) := by decide +kernel
theorem dX8_goesOn_156 : decode cX8_goesOn 156 = .ok (.iaload, 1) := by decide +kernel
theorem dX8_goesOn_157 : decode cX8_goesOn 157 = .ok (.iload 4, 2) := by decide +kernel
theorem dX8_goesOn_159 : decode cX8_goesOn 159 = .ok (.if_icmp .eq 7, 3) := by decide +kernel
theorem dX8_goesOn_162 : decode cX8_goesOn 162 = .ok (.iconst 1, 1) := by decide +kernel
theorem dX8_goesOn_163 : decode cX8_goesOn 163 = .ok (.goto 4, 3) := by decide +kernel
theorem dX8_goesOn_166 : decode cX8_goesOn 166 = .ok (.iconst 0, 1) := by decide +kernel
theorem dX8_goesOn_167 : decode cX8_goesOn 167 = .ok (.ireturn, 1) := by decide +kernel
theorem dX8_init_0 : decode cX8_init 0 = .ok (.aload_n 0, 1) := by decide +kernel
theorem dX8_init_1 : decode cX8_init 1 = .ok (.invokespecial 3, 3) := by decide +kernel
theorem dX8_init_4 : decode cX8_init 4 = .ok (.aload_n 0, 1) := by decide +kernel
theorem dX8_init_5 : decode cX8_init 5 = .ok (.new 9, 3) := by decide +kernel
theorem dX8_init_8 : decode cX8_init 8 = .ok (.dup, 1) := by decide +kernel
theorem dX8_init_9 : decode cX8_init 9 = .ok (.invokespecial 11, 3) := by decide +kernel
theorem dX8_init_12 : decode cX8_init 12 = .ok (.putfield 12, 3) := by decide +kernel
theorem dX8_init_15 : decode cX8_init 15 = .ok (.aload_n 0, 1) := by decide +kernel
theorem dX8_init_16 : decode cX8_init 16 = .ok (.bipush 8, 2) := by decide +kernel
theorem dX8_init_18 : decode cX8_init 18 = .ok (.anewarray 18, 3) := by decide +kernel
theorem dX8_init_21 : decode cX8_init 21 = .ok (.putfield 20, 3) := by decide +kernel
theorem dX8_init_24 : decode cX8_init 24 = .ok (.aload_n 0, 1) := by decide +kernel
theorem dX8_init_25 : decode cX8_init 25 = .ok (.bipush 8, 2) := by decide +kernel
theorem dX8_init_27 : decode cX8_init 27 = .ok (.newarray .int, 2) := by decide +kernel
theorem dX8_init_29 : decode cX8_init 29 = .ok (.putfield 24, 3) := by decide +kernel
theorem dX8_init_32 : decode cX8_init 32 = .ok (.aload_n 0, 1) := by decide +kernel
theorem dX8_init_33 : decode cX8_init 33 = .ok (.bipush 8, 2) := by decide +kernel
theorem dX8_init_35 : decode cX8_init 35 = .ok (.newarray .int, 2) := by decide +kernel
theorem dX8_init_37 : decode cX8_init 37 = .ok (.putfield 28, 3) := by decide +kernel
theorem dX8_init_40 : decode cX8_init 40 = .ok (.aload_n 0, 1) := by decide +kernel
theorem dX8_init_41 : decode cX8_init 41 = .ok (.bipush 8, 2) := by decide +kernel
theorem dX8_init_43 : decode cX8_init 43 = .ok (.newarray .int, 2) := by decide +kernel
theorem dX8_init_45 : decode cX8_init 45 = .ok (.putfield 31, 3) := by decide +kernel
theorem dX8_init_48 : decode cX8_init 48 = .ok (.aload_n 0, 1) := by decide +kernel
theorem dX8_init_49 : decode cX8_init 49 = .ok (.bipush 8, 2) := by decide +kernel
theorem dX8_init_51 : decode cX8_init 51 = .ok (.newarray .boolean, 2) := by decide +kernel
theorem dX8_init_53 : decode cX8_init 53 = .ok (.putfield 34, 3) := by decide +kernel
theorem dX8_init_56 : decode cX8_init 56 = .ok (.aload_n 0, 1) := by decide +kernel
theorem dX8_init_57 : decode cX8_init 57 = .ok (.iconst 0, 1) := by decide +kernel
theorem dX8_init_58 : decode cX8_init 58 = .ok (.putfield 38, 3) := by decide +kernel
theorem dX8_init_61 : decode cX8_init 61 = .ok (.aload_n 0, 1) := by decide +kernel
theorem dX8_init_62 : decode cX8_init 62 = .ok (.iconst 0, 1) := by decide +kernel
theorem dX8_init_63 : decode cX8_init 63 = .ok (.putfield 42, 3) := by decide +kernel
theorem dX8_init_66 : decode cX8_init 66 = .ok (.aload_n 0, 1) := by decide +kernel
theorem dX8_init_67 : decode cX8_init 67 = .ok (.iconst 1, 1) := by decide +kernel
theorem dX8_init_68 : decode cX8_init 68 = .ok (.putfield 45, 3) := by decide +kernel
theorem dX8_init_71 : decode cX8_init 71 = .ok (.aload_n 0, 1) := by decide +kernel
theorem dX8_init_72 : decode cX8_init 72 = .ok (.new 48, 3) := by decide +kernel
theorem dX8_init_75 : decode cX8_init 75 = .ok (.dup, 1) := by decide +kernel
theorem dX8_init_76 : decode cX8_init 76 = .ok (.bipush 50, 2) := by decide +kernel
theorem dX8_init_78 : decode cX8_init 78 = .ok (.invokespecial 50, 3) := by decide +kernel
theorem dX8_init_81 : decode cX8_init 81 = .ok (.putfield 53, 3) := by decide +kernel
theorem dX8_init_84 : decode cX8_init 84 = .ok (.aload_n 0, 1) := by decide +kernel
theorem dX8_init_85 : decode cX8_init 85 = .ok (.new 48, 3) := by decide +kernel
theorem dX8_init_88 : decode cX8_init 88 = .ok (.dup, 1) := by decide +kernel
theorem dX8_init_89 : decode cX8_init 89 = .ok (.bipush 50, 2) := by decide +kernel
theorem dX8_init_91 : decode cX8_init 91 = .ok (.invokespecial 50, 3) := by decide +kernel
theorem dX8_init_94 : decode cX8_init 94 = .ok (.putfield 57, 3) := by decide +kernel
theorem dX8_init_97 : decode cX8_init 97 = .ok (.aload_n 0, 1) := by decide +kernel
theorem dX8_init_98 : decode cX8_init 98 = .ok (.new 48, 3) := by decide +kernel
theorem dX8_init_101 : decode cX8_init 101 = .ok (.dup, 1) := by decide +kernel
theorem dX8_init_102 : decode cX8_init 102 = .ok (.bipush 50, 2) := by decide +kernel
theorem dX8_init_104 : decode cX8_init 104 = .ok (.invokespecial 50, 3) := by decide +kernel
theorem dX8_init_107 : decode cX8_init 107 = .ok (.putfield 60, 3) := by decide +kernel
theorem dX8_init_110 : decode cX8_init 110 = .ok (.aload_n 0, 1) := by decide +kernel
theorem dX8_init_111 : decode cX8_init 111 = .ok (.new 48, 3) := by decide +kernel
theorem dX8_init_114 : decode cX8_init 114 = .ok (.dup, 1) := by decide +kernel
theorem dX8_init_115 : decode cX8_init 115 = .ok (.bipush 8, 2) := by decide +kernel
theorem dX8_init_117 : decode cX8_init 117 = .ok (.invokespecial 50, 3) := by decide +kernel
theorem dX8_init_120 : decode cX8_init 120 = .ok (.putfield 63, 3) := by decide +kernel
theorem dX8_init_123 : decode cX8_init 123 = .ok (.aload_n 0, 1) := by decide +kernel
theorem dX8_init_124 : decode cX8_init 124 = .ok (.new 48, 3) := by decide +kernel
theorem dX8_init_127 : decode cX8_init 127 = .ok (.dup, 1) := by decide +kernel
theorem dX8_init_128 : decode cX8_init 128 = .ok (.bipush 8, 2) := by decide +kernel
theorem dX8_init_130 : decode cX8_init 130 = .ok (.invokespecial 50, 3) := by decide +kernel
theorem dX8_init_133 : decode cX8_init 133 = .ok (.putfield 66, 3) := by decide +kernel
theorem dX8_init_136 : decode cX8_init 136 = .ok (.aload_n 0, 1) := by decide +kernel
theorem dX8_init_137 : decode cX8_init 137 = .ok (.new 48, 3) := by decide +kernel
theorem dX8_init_140 : decode cX8_init 140 = .ok (.dup, 1) := by decide +kernel
theorem dX8_init_141 : decode cX8_init 141 = .ok (.iconst 5, 1) := by decide +kernel
theorem dX8_init_142 : decode cX8_init 142 = .ok (.invokespecial 50, 3) := by decide +kernel
theorem dX8_init_145 : decode cX8_init 145 = .ok (.putfield 69, 3) := by decide +kernel
theorem dX8_init_148 : decode cX8_init 148 = .ok (.aload_n 0, 1) := by decide +kernel
theorem dX8_init_149 : decode cX8_init 149 = .ok (.new 48, 3) := by decide +kernel
theorem dX8_init_152 : decode cX8_init 152 = .ok (.dup, 1) := by decide +kernel
theorem dX8_init_153 : decode cX8_init 153 = .ok (.iconst 5, 1) := by decide +kernel
theorem dX8_init_154 : decode cX8_init 154 = .ok (.invokespecial 50, 3) := by decide +kernel
theorem dX8_init_157 : decode cX8_init 157 = .ok (.putfield 72, 3) := by decide +kernel
theorem dX8_init_160 : decode cX8_init 160 = .ok (.aload_n 0, 1) := by decide +kernel
theorem dX8_init_161 : decode cX8_init 161 = .ok (.new 48, 3) := by decide +kernel
theorem dX8_init_164 : decode cX8_init 164 = .ok (.dup, 1) := by decide +kernel
theorem dX8_init_165 : decode cX8_init 165 = .ok (.bipush 20, 2) := by decide +kernel
theorem dX8_init_167 : decode cX8_init 167 = .ok (.invokespecial 50, 3) := by decide +kernel
theorem dX8_init_170 : decode cX8_init 170 = .ok (.putfield 75, 3) := by decide +kernel
theorem dX8_init_173 : decode cX8_init 173 = .ok (.aload_n 0, 1) := by decide +kernel
theorem dX8_init_174 : decode cX8_init 174 = .ok (.aload_n 1, 1) := by decide +kernel
theorem dX8_init_175 : decode cX8_init 175 = .ok (.putfield 78, 3) := by decide +kernel
theorem dX8_init_178 : decode cX8_init 178 = .ok (.aload_n 0, 1) := by decide +kernel
theorem dX8_init_179 : decode cX8_init 179 = .ok (.getfield 57, 3) := by decide +kernel
theorem dX8_init_182 : decode cX8_init 182 = .ok (.ldc 82, 2) := by decide +kernel
theorem dX8_init_184 : decode cX8_init 184 = .ok (.invokevirtual 84, 3) := by decide +kernel
theorem dX8_init_187 : decode cX8_init 187 = .ok (.aload_n 0, 1) := by decide +kernel
theorem dX8_init_188 : decode cX8_init 188 = .ok (.getfield 60, 3) := by decide +kernel
theorem dX8_init_191 : decode cX8_init 191 = .ok (.ldc 88, 2) := by decide +kernel
theorem dX8_init_193 : decode cX8_init 193 = .ok (.invokevirtual 84, 3) := by decide +kernel
theorem dX8_init_196 : decode cX8_init 196 = .ok (.return_, 1) := by decide +kernel
theorem dX8_keepPlacesOnWire_0 : decode cX8_keepPlacesOnWire 0 = .ok (.iconst 0, 1) := by decide +kernel
theorem dX8_keepPlacesOnWire_1 : decode cX8_keepPlacesOnWire 1 = .ok (.istore_n 1, 1) := by decide +kernel
theorem dX8_keepPlacesOnWire_2 : decode cX8_keepPlacesOnWire 2 = .ok (.iload_n 1, 1) := by decide +kernel
theorem dX8_keepPlacesOnWire_3 : decode cX8_keepPlacesOnWire 3 = .ok (.aload_n 0, 1) := by decide +kernel
theorem dX8_keepPlacesOnWire_4 : decode cX8_keepPlacesOnWire 4 = .ok (.getfield 38, 3) := by decide +kernel
theorem dX8_keepPlacesOnWire_7 : decode cX8_keepPlacesOnWire 7 = .ok (.if_icmp .ge 31, 3) := by decide +kernel
theorem dX8_keepPlacesOnWire_10 : decode cX8_keepPlacesOnWire 10 = .ok (.aload_n 0, 1) := by decide +kernel
theorem dX8_keepPlacesOnWire_11 : decode cX8_keepPlacesOnWire 11 = .ok (.getfield 24, 3) := by decide +kernel
theorem dX8_keepPlacesOnWire_14 : decode cX8_keepPlacesOnWire 14 = .ok (.iload_n 1, 1) := by decide +kernel
theorem dX8_keepPlacesOnWire_15 : decode cX8_keepPlacesOnWire 15 = .ok (.aload_n 0, 1) := by decide +kernel
theorem dX8_keepPlacesOnWire_16 : decode cX8_keepPlacesOnWire 16 = .ok (.getfield 24, 3) := by decide +kernel
theorem dX8_keepPlacesOnWire_19 : decode cX8_keepPlacesOnWire 19 = .ok (.iload_n 1, 1) := by decide +kernel
theorem dX8_keepPlacesOnWire_20 : decode cX8_keepPlacesOnWire 20 = .ok (.iaload, 1) := by decide +kernel
theorem dX8_keepPlacesOnWire_21 : decode cX8_keepPlacesOnWire 21 = .ok (.aload_n 0, 1) := by decide +kernel
theorem dX8_keepPlacesOnWire_22 : decode cX8_keepPlacesOnWire 22 = .ok (.getfield 12, 3) := by decide +kernel
theorem dX8_keepPlacesOnWire_25 : decode cX8_keepPlacesOnWire 25 = .ok (.invokevirtual 126, 3) := by decide +kernel
theorem dX8_keepPlacesOnWire_28 : decode cX8_keepPlacesOnWire 28 = .ok (.invokestatic 130, 3) := by decide +kernel
theorem dX8_keepPlacesOnWire_31 : decode cX8_keepPlacesOnWire 31 = .ok (.iastore, 1) := by decide +kernel
theorem dX8_keepPlacesOnWire_32 : decode cX8_keepPlacesOnWire 32 = .ok (.iinc 1 1, 3) := by decide +kernel
theorem dX8_keepPlacesOnWire_35 : decode cX8_keepPlacesOnWire 35 = .ok (.goto (-33), 3) := by decide +kernel
theorem dX8_keepPlacesOnWire_38 : decode cX8_keepPlacesOnWire 38 = .ok (.return_, 1) := by decide +kernel
theorem dX8_pass_0 : decode cX8_pass 0 = .ok (.iconst 1, 1) := by decide +kernel
theorem dX8_pass_1 : decode cX8_pass 1 = .ok (.istore_n 2, 1) := by decide +kernel
theorem dX8_pass_2 : decode cX8_pass 2 = .ok (.iconst 0, 1) := by decide +kernel
theorem dX8_pass_3 : decode cX8_pass 3 = .ok (.istore_n 3, 1) := by decide +kernel
theorem dX8_pass_4 : decode cX8_pass 4 = .ok (.iload_n 3, 1) := by decide +kernel
theorem dX8_pass_5 : decode cX8_pass 5 = .ok (.iload_n 1, 1) := by decide +kernel
theorem dX8_pass_6 : decode cX8_pass 6 = .ok (.if_icmp .ge 60, 3) := by decide +kernel
theorem dX8_pass_9 : decode cX8_pass 9 = .ok (.iload_n 2, 1) := by decide +kernel
theorem dX8_pass_10 : decode cX8_pass 10 = .ok (.ifCond .eq 56, 3) := by decide +kernel
theorem dX8_pass_13 : decode cX8_pass 13 = .ok (.iconst 0, 1) := by decide +kernel
theorem dX8_pass_14 : decode cX8_pass 14 = .ok (.istore_n 2, 1) := by decide +kernel
theorem dX8_pass_15 : decode cX8_pass 15 = .ok (.iconst 0, 1) := by decide +kernel
theorem dX8_pass_16 : decode cX8_pass 16 = .ok (.istore 4, 2) := by decide +kernel
theorem dX8_pass_18 : decode cX8_pass 18 = .ok (.iload 4, 2) := by decide +kernel
theorem dX8_pass_20 : decode cX8_pass 20 = .ok (.aload_n 0, 1) := by decide +kernel
theorem dX8_pass_21 : decode cX8_pass 21 = .ok (.getfield 38, 3) := by decide +kernel
theorem dX8_pass_24 : decode cX8_pass 24 = .ok (.if_icmp .ge 36, 3) := by decide +kernel
theorem dX8_pass_27 : decode cX8_pass 27 = .ok (.aload_n 0, 1) := by decide +kernel
theorem dX8_pass_28 : decode cX8_pass 28 = .ok (.getfield 34, 3) := by decide +kernel
theorem dX8_pass_31 : decode cX8_pass 31 = .ok (.iload 4, 2) := by decide +kernel
theorem dX8_pass_33 : decode cX8_pass 33 = .ok (.baload, 1) := by decide +kernel
theorem dX8_pass_34 : decode cX8_pass 34 = .ok (.ifCond .ne 20, 3) := by decide +kernel
theorem dX8_pass_37 : decode cX8_pass 37 = .ok (.aload_n 0, 1) := by decide +kernel
theorem dX8_pass_38 : decode cX8_pass 38 = .ok (.iload 4, 2) := by decide +kernel
theorem dX8_pass_40 : decode cX8_pass 40 = .ok (.invokevirtual 137, 3) := by decide +kernel
theorem dX8_pass_43 : decode cX8_pass 43 = .ok (.ifCond .eq 11, 3) := by decide +kernel
theorem dX8_pass_46 : decode cX8_pass 46 = .ok (.iconst 1, 1) := by decide +kernel
theorem dX8_pass_47 : decode cX8_pass 47 = .ok (.istore_n 2, 1) := by decide +kernel
theorem dX8_pass_48 : decode cX8_pass 48 = .ok (.aload_n 0, 1) := by decide +kernel
theorem dX8_pass_49 : decode cX8_pass 49 = .ok (.iload 4, 2) := by decide +kernel
theorem dX8_pass_51 : decode cX8_pass 51 = .ok (.invokevirtual 141, 3) := by decide +kernel
theorem dX8_pass_54 : decode cX8_pass 54 = .ok (.iinc 4 1, 3) := by decide +kernel
theorem dX8_pass_57 : decode cX8_pass 57 = .ok (.goto (-39), 3) := by decide +kernel
theorem dX8_pass_60 : decode cX8_pass 60 = .ok (.iinc 3 1, 3) := by decide +kernel
theorem dX8_pass_63 : decode cX8_pass 63 = .ok (.goto (-59), 3) := by decide +kernel
theorem dX8_pass_66 : decode cX8_pass 66 = .ok (.aload_n 0, 1) := by decide +kernel
theorem dX8_pass_67 : decode cX8_pass 67 = .ok (.dup, 1) := by decide +kernel
theorem dX8_pass_68 : decode cX8_pass 68 = .ok (.getfield 42, 3) := by decide +kernel
theorem dX8_pass_71 : decode cX8_pass 71 = .ok (.iload_n 1, 1) := by decide +kernel
theorem dX8_pass_72 : decode cX8_pass 72 = .ok (.iadd, 1) := by decide +kernel
theorem dX8_pass_73 : decode cX8_pass 73 = .ok (.putfield 42, 3) := by decide +kernel
theorem dX8_pass_76 : decode cX8_pass 76 = .ok (.return_, 1) := by decide +kernel
theorem dX8_rideAt_0 : decode cX8_rideAt 0 = .ok (.iload_n 1, 1) := by decide +kernel
theorem dX8_rideAt_1 : decode cX8_rideAt 1 = .ok (.iconst 0, 1) := by decide +kernel
theorem dX8_rideAt_2 : decode cX8_rideAt 2 = .ok (.aload_n 0, 1) := by decide +kernel
theorem dX8_rideAt_3 : decode cX8_rideAt 3 = .ok (.getfield 38, 3) := by decide +kernel
theorem dX8_rideAt_6 : decode cX8_rideAt 6 = .ok (.iconst 1, 1) := by decide +kernel
theorem dX8_rideAt_7 : decode cX8_rideAt 7 = .ok (.isub, 1) := by decide +kernel
theorem dX8_rideAt_8 : decode cX8_rideAt 8 = .ok (.invokestatic 101, 3) := by decide +kernel
theorem dX8_rideAt_11 : decode cX8_rideAt 11 = .ok (.ifCond .eq 12, 3) := by decide +kernel
theorem dX8_rideAt_14 : decode cX8_rideAt 14 = .ok (.aload_n 0, 1) := by decide +kernel
theorem dX8_rideAt_15 : decode cX8_rideAt 15 = .ok (.getfield 20, 3) := by decide +kernel
theorem dX8_rideAt_18 : decode cX8_rideAt 18 = .ok (.iload_n 1, 1) := by decide +kernel
theorem dX8_rideAt_19 : decode cX8_rideAt 19 = .ok (.aaload, 1) := by decide +kernel
theorem dX8_rideAt_20 : decode cX8_rideAt 20 = .ok (.goto 4, 3) := by decide +kernel
theorem dX8_rideAt_23 : decode cX8_rideAt 23 = .ok (.aconst_null, 1) := by decide +kernel
theorem dX8_rideAt_24 : decode cX8_rideAt 24 = .ok (.areturn, 1) := by decide +kernel
theorem dX8_rubbed_0 : decode cX8_rubbed 0 = .ok (.iload_n 0, 1) := by decide +kernel
theorem dX8_rubbed_1 : decode cX8_rubbed 1 = .ok (.ifCond .le 13, 3) := by decide +kernel
theorem dX8_rubbed_4 : decode cX8_rubbed 4 = .ok (.iconst 0, 1) := by decide +kernel
theorem dX8_rubbed_5 : decode cX8_rubbed 5 = .ok (.iload_n 0, 1) := by decide +kernel
theorem dX8_rubbed_6 : decode cX8_rubbed 6 = .ok (.iload_n 1, 1) := by decide +kernel
theorem dX8_rubbed_7 : decode cX8_rubbed 7 = .ok (.isub, 1) := by decide +kernel
theorem dX8_rubbed_8 : decode cX8_rubbed 8 = .ok (.invokestatic 154, 3) := by decide +kernel
theorem dX8_rubbed_11 : decode cX8_rubbed 11 = .ok (.goto 10, 3) := by decide +kernel
theorem dX8_rubbed_14 : decode cX8_rubbed 14 = .ok (.iconst 0, 1) := by decide +kernel
theorem dX8_rubbed_15 : decode cX8_rubbed 15 = .ok (.iload_n 0, 1) := by decide +kernel
theorem dX8_rubbed_16 : decode cX8_rubbed 16 = .ok (.iload_n 1, 1) := by decide +kernel
theorem dX8_rubbed_17 : decode cX8_rubbed 17 = .ok (.iadd, 1) := by decide +kernel
theorem dX8_rubbed_18 : decode cX8_rubbed 18 = .ok (.invokestatic 130, 3) := by decide +kernel
theorem dX8_rubbed_21 : decode cX8_rubbed 21 = .ok (.ireturn, 1) := by decide +kernel
theorem dX8_textOf_0 : decode cX8_textOf 0 = .ok (.iload_n 1, 1) := by decide +kernel
theorem dX8_textOf_1 : decode cX8_textOf 1 = .ok (.ifCond .ne 10, 3) := by decide +kernel
theorem dX8_textOf_4 : decode cX8_textOf 4 = .ok (.aload_n 0, 1) := by decide +kernel
theorem dX8_textOf_5 : decode cX8_textOf 5 = .ok (.getfield 57, 3) := by decide +kernel
theorem dX8_textOf_8 : decode cX8_textOf 8 = .ok (.goto 7, 3) := by decide +kernel
theorem dX8_textOf_11 : decode cX8_textOf 11 = .ok (.aload_n 0, 1) := by decide +kernel
theorem dX8_textOf_12 : decode cX8_textOf 12 = .ok (.getfield 60, 3) := by decide +kernel
theorem dX8_textOf_15 : decode cX8_textOf 15 = .ok (.areturn, 1) := by decide +kernel
theorem dX8_underWay_0 : decode cX8_underWay 0 = .ok (.iconst 0, 1) := by decide +kernel
theorem dX8_underWay_1 : decode cX8_underWay 1 = .ok (.istore_n 1, 1) := by decide +kernel
theorem dX8_underWay_2 : decode cX8_underWay 2 = .ok (.iconst 0, 1) := by decide +kernel
theorem dX8_underWay_3 : decode cX8_underWay 3 = .ok (.istore_n 2, 1) := by decide +kernel
theorem dX8_underWay_4 : decode cX8_underWay 4 = .ok (.iload_n 2, 1) := by decide +kernel
theorem dX8_underWay_5 : decode cX8_underWay 5 = .ok (.aload_n 0, 1) := by decide +kernel
theorem dX8_underWay_6 : decode cX8_underWay 6 = .ok (.getfield 38, 3) := by decide +kernel
theorem dX8_underWay_9 : decode cX8_underWay 9 = .ok (.if_icmp .ge 26, 3) := by decide +kernel
theorem dX8_underWay_12 : decode cX8_underWay 12 = .ok (.iload_n 1, 1) := by decide +kernel
theorem dX8_underWay_13 : decode cX8_underWay 13 = .ok (.aload_n 0, 1) := by decide +kernel
theorem dX8_underWay_14 : decode cX8_underWay 14 = .ok (.getfield 34, 3) := by decide +kernel
theorem dX8_underWay_17 : decode cX8_underWay 17 = .ok (.iload_n 2, 1) := by decide +kernel
theorem dX8_underWay_18 : decode cX8_underWay 18 = .ok (.baload, 1) := by decide +kernel
theorem dX8_underWay_19 : decode cX8_underWay 19 = .ok (.ifCond .eq 7, 3) := by decide +kernel
theorem dX8_underWay_22 : decode cX8_underWay 22 = .ok (.iconst 0, 1) := by decide +kernel
theorem dX8_underWay_23 : decode cX8_underWay 23 = .ok (.goto 4, 3) := by decide +kernel
theorem dX8_underWay_26 : decode cX8_underWay 26 = .ok (.iconst 1, 1) := by decide +kernel
theorem dX8_underWay_27 : decode cX8_underWay 27 = .ok (.iadd, 1) := by decide +kernel
theorem dX8_underWay_28 : decode cX8_underWay 28 = .ok (.istore_n 1, 1) := by decide +kernel
theorem dX8_underWay_29 : decode cX8_underWay 29 = .ok (.iinc 2 1, 3) := by decide +kernel
theorem dX8_underWay_32 : decode cX8_underWay 32 = .ok (.goto (-28), 3) := by decide +kernel
theorem dX8_underWay_35 : decode cX8_underWay 35 = .ok (.iload_n 1, 1) := by decide +kernel
theorem dX8_underWay_36 : decode cX8_underWay 36 = .ok (.ireturn, 1) := by decide +kernel
theorem dX8_wearStrands_0 : decode cX8_wearStrands 0 = .ok (.aload_n 0, 1) := by decide +kernel
theorem dX8_wearStrands_1 : decode cX8_wearStrands 1 = .ok (.iload_n 1, 1) := by decide +kernel
theorem dX8_wearStrands_2 : decode cX8_wearStrands 2 = .ok (.invokevirtual 105, 3) := by decide +kernel
theorem dX8_wearStrands_5 : decode cX8_wearStrands 5 = .ok (.astore_n 2, 1) := by decide +kernel
theorem dX8_wearStrands_6 : decode cX8_wearStrands 6 = .ok (.aload_n 2, 1) := by decide +kernel
theorem dX8_wearStrands_7 : decode cX8_wearStrands 7 = .ok (.ifnull 65, 3) := by decide +kernel
theorem dX8_wearStrands_10 : decode cX8_wearStrands 10 = .ok (.aload_n 0, 1) := by decide +kernel
theorem dX8_wearStrands_11 : decode cX8_wearStrands 11 = .ok (.getfield 34, 3) := by decide +kernel
theorem dX8_wearStrands_14 : decode cX8_wearStrands 14 = .ok (.iload_n 1, 1) := by decide +kernel
theorem dX8_wearStrands_15 : decode cX8_wearStrands 15 = .ok (.baload, 1) := by decide +kernel
theorem dX8_wearStrands_16 : decode cX8_wearStrands 16 = .ok (.ifCond .eq 56, 3) := by decide +kernel
theorem dX8_wearStrands_19 : decode cX8_wearStrands 19 = .ok (.aload_n 0, 1) := by decide +kernel
theorem dX8_wearStrands_20 : decode cX8_wearStrands 20 = .ok (.getfield 12, 3) := by decide +kernel
theorem dX8_wearStrands_23 : decode cX8_wearStrands 23 = .ok (.bipush 8, 2) := by decide +kernel
theorem dX8_wearStrands_25 : decode cX8_wearStrands 25 = .ok (.invokevirtual 157, 3) := by decide +kernel
theorem dX8_wearStrands_28 : decode cX8_wearStrands 28 = .ok (.istore_n 3, 1) := by decide +kernel
theorem dX8_wearStrands_29 : decode cX8_wearStrands 29 = .ok (.aload_n 0, 1) := by decide +kernel
theorem dX8_wearStrands_30 : decode cX8_wearStrands 30 = .ok (.getfield 78, 3) := by decide +kernel
theorem dX8_wearStrands_33 : decode cX8_wearStrands 33 = .ok (.aload_n 0, 1) := by decide +kernel
theorem dX8_wearStrands_34 : decode cX8_wearStrands 34 = .ok (.getfield 57, 3) := by decide +kernel
theorem dX8_wearStrands_37 : decode cX8_wearStrands 37 = .ok (.iconst 0, 1) := by decide +kernel
theorem dX8_wearStrands_38 : decode cX8_wearStrands 38 = .ok (.aload_n 2, 1) := by decide +kernel
theorem dX8_wearStrands_39 : decode cX8_wearStrands 39 = .ok (.getfield 112, 3) := by decide +kernel
theorem dX8_wearStrands_42 : decode cX8_wearStrands 42 = .ok (.aload_n 0, 1) := by decide +kernel
theorem dX8_wearStrands_43 : decode cX8_wearStrands 43 = .ok (.getfield 31, 3) := by decide +kernel
theorem dX8_wearStrands_46 : decode cX8_wearStrands 46 = .ok (.iload_n 1, 1) := by decide +kernel
theorem dX8_wearStrands_47 : decode cX8_wearStrands 47 = .ok (.iaload, 1) := by decide +kernel
theorem dX8_wearStrands_48 : decode cX8_wearStrands 48 = .ok (.iload_n 3, 1) := by decide +kernel
theorem dX8_wearStrands_49 : decode cX8_wearStrands 49 = .ok (.iconst 0, 1) := by decide +kernel
theorem dX8_wearStrands_50 : decode cX8_wearStrands 50 = .ok (.invokevirtual 161, 3) := by decide +kernel
theorem dX8_wearStrands_53 : decode cX8_wearStrands 53 = .ok (.istore 4, 2) := by decide +kernel
theorem dX8_wearStrands_55 : decode cX8_wearStrands 55 = .ok (.aload_n 0, 1) := by decide +kernel
theorem dX8_wearStrands_56 : decode cX8_wearStrands 56 = .ok (.getfield 12, 3) := by decide +kernel
theorem dX8_wearStrands_59 : decode cX8_wearStrands 59 = .ok (.bipush 8, 2) := by decide +kernel
theorem dX8_wearStrands_61 : decode cX8_wearStrands 61 = .ok (.iconst 0, 1) := by decide +kernel
theorem dX8_wearStrands_62 : decode cX8_wearStrands 62 = .ok (.iload_n 3, 1) := by decide +kernel
theorem dX8_wearStrands_63 : decode cX8_wearStrands 63 = .ok (.iload 4, 2) := by decide +kernel
theorem dX8_wearStrands_65 : decode cX8_wearStrands 65 = .ok (.isub, 1) := by decide +kernel
theorem dX8_wearStrands_66 : decode cX8_wearStrands 66 = .ok (.invokestatic 154, 3) := by decide +kernel
theorem dX8_wearStrands_69 : decode cX8_wearStrands 69 = .ok (.invokevirtual 167, 3) := by decide +kernel
theorem dX8_wearStrands_72 : decode cX8_wearStrands 72 = .ok (.return_, 1) := by decide +kernel
theorem dX9_gainOfKind_0 : decode cX9_gainOfKind 0 = .ok (.aload_n 1, 1) := by decide +kernel
theorem dX9_gainOfKind_1 : decode cX9_gainOfKind 1 = .ok (.bipush 7, 2) := by decide +kernel
theorem dX9_gainOfKind_3 : decode cX9_gainOfKind 3 = .ok (.invokevirtual 9, 3) := by decide +kernel
theorem dX9_gainOfKind_6 : decode cX9_gainOfKind 6 = .ok (.ireturn, 1) := by decide +kernel
theorem dX9_init_0 : decode cX9_init 0 = .ok (.aload_n 0, 1) := by decide +kernel
theorem dX9_init_1 : decode cX9_init 1 = .ok (.iload_n 1, 1) := by decide +kernel
theorem dX9_init_2 : decode cX9_init 2 = .ok (.iload_n 2, 1) := by decide +kernel
theorem dX9_init_3 : decode cX9_init 3 = .ok (.iload_n 3, 1) := by decide +kernel
theorem dX9_init_4 : decode cX9_init 4 = .ok (.iload 4, 2) := by decide +kernel
theorem dX9_init_6 : decode cX9_init 6 = .ok (.aload 5, 2) := by decide +kernel
theorem dX9_init_8 : decode cX9_init 8 = .ok (.invokespecial 3, 3) := by decide +kernel
theorem dX9_init_11 : decode cX9_init 11 = .ok (.return_, 1) := by decide +kernel
theorem dX9_wears_0 : decode cX9_wears 0 = .ok (.aload_n 0, 1) := by decide +kernel
theorem dX9_wears_1 : decode cX9_wears 1 = .ok (.getfield 15, 3) := by decide +kernel
theorem dX9_wears_4 : decode cX9_wears 4 = .ok (.bipush 50, 2) := by decide +kernel
theorem dX9_wears_6 : decode cX9_wears 6 = .ok (.invokevirtual 21, 3) := by decide +kernel
theorem dX9_wears_9 : decode cX9_wears 9 = .ok (.aload_n 0, 1) := by decide +kernel
theorem dX9_wears_10 : decode cX9_wears 10 = .ok (.iload_n 1, 1) := by decide +kernel
theorem dX9_wears_11 : decode cX9_wears 11 = .ok (.invokespecial 27, 3) := by decide +kernel
theorem dX9_wears_14 : decode cX9_wears 14 = .ok (.aload_n 0, 1) := by decide +kernel
theorem dX9_wears_15 : decode cX9_wears 15 = .ok (.iconst 2, 1) := by decide +kernel
theorem dX9_wears_16 : decode cX9_wears 16 = .ok (.invokevirtual 30, 3) := by decide +kernel
theorem dX9_wears_19 : decode cX9_wears 19 = .ok (.isub, 1) := by decide +kernel
theorem dX9_wears_20 : decode cX9_wears 20 = .ok (.ireturn, 1) := by decide +kernel
