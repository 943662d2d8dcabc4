/-! decode rows of the class (wip/safe/mks.py) -/
theorem dJ0_charAt_5068e_0 : decode cJ0_charAt_5068e 0 = .ok (.aload_n 0, 1) := by decide +kernel
theorem dJ0_charAt_5068e_1 : decode cJ0_charAt_5068e 1 = .ok (.invokevirtual 492, 3) := by decide +kernel
theorem dJ0_charAt_5068e_4 : decode cJ0_charAt_5068e 4 = .ok (.ifCond .eq 12, 3) := by decide +kernel
theorem dJ0_charAt_5068e_7 : decode cJ0_charAt_5068e 7 = .ok (.aload_n 0, 1) := by decide +kernel
theorem dJ0_charAt_5068e_8 : decode cJ0_charAt_5068e 8 = .ok (.getfield 9, 3) := by decide +kernel
theorem dJ0_charAt_5068e_11 : decode cJ0_charAt_5068e 11 = .ok (.iload_n 1, 1) := by decide +kernel
theorem dJ0_charAt_5068e_12 : decode cJ0_charAt_5068e 12 = .ok (.invokestatic 495, 3) := by decide +kernel
theorem dJ0_charAt_5068e_15 : decode cJ0_charAt_5068e 15 = .ok (.ireturn, 1) := by decide +kernel
theorem dJ0_charAt_5068e_16 : decode cJ0_charAt_5068e 16 = .ok (.aload_n 0, 1) := by decide +kernel
theorem dJ0_charAt_5068e_17 : decode cJ0_charAt_5068e 17 = .ok (.getfield 9, 3) := by decide +kernel
theorem dJ0_charAt_5068e_20 : decode cJ0_charAt_5068e 20 = .ok (.iload_n 1, 1) := by decide +kernel
theorem dJ0_charAt_5068e_21 : decode cJ0_charAt_5068e 21 = .ok (.invokestatic 498, 3) := by decide +kernel
theorem dJ0_charAt_5068e_24 : decode cJ0_charAt_5068e 24 = .ok (.ireturn, 1) := by decide +kernel
theorem dJ0_checkBoundsBeginEnd_23922_0 : decode cJ0_checkBoundsBeginEnd_23922 0 = .ok (.iload_n 0, 1) := by decide +kernel
theorem dJ0_checkBoundsBeginEnd_23922_1 : decode cJ0_checkBoundsBeginEnd_23922 1 = .ok (.iload_n 1, 1) := by decide +kernel
theorem dJ0_checkBoundsBeginEnd_23922_2 : decode cJ0_checkBoundsBeginEnd_23922 2 = .ok (.iload_n 2, 1) := by decide +kernel
theorem dJ0_checkBoundsBeginEnd_23922_3 : decode cJ0_checkBoundsBeginEnd_23922 3 = .ok (.getstatic 1053, 3) := by decide +kernel
theorem dJ0_checkBoundsBeginEnd_23922_6 : decode cJ0_checkBoundsBeginEnd_23922 6 = .ok (.invokestatic 1062, 3) := by decide +kernel
theorem dJ0_checkBoundsBeginEnd_23922_9 : decode cJ0_checkBoundsBeginEnd_23922 9 = .ok (.pop, 1) := by decide +kernel
theorem dJ0_checkBoundsBeginEnd_23922_10 : decode cJ0_checkBoundsBeginEnd_23922 10 = .ok (.return_, 1) := by decide +kernel
theorem dJ0_checkIndex_df160_0 : decode cJ0_checkIndex_df160 0 = .ok (.iload_n 0, 1) := by decide +kernel
theorem dJ0_checkIndex_df160_1 : decode cJ0_checkIndex_df160 1 = .ok (.iload_n 1, 1) := by decide +kernel
theorem dJ0_checkIndex_df160_2 : decode cJ0_checkIndex_df160 2 = .ok (.getstatic 1053, 3) := by decide +kernel
theorem dJ0_checkIndex_df160_5 : decode cJ0_checkIndex_df160 5 = .ok (.invokestatic 1059, 3) := by decide +kernel
theorem dJ0_checkIndex_df160_8 : decode cJ0_checkIndex_df160 8 = .ok (.pop, 1) := by decide +kernel
theorem dJ0_checkIndex_df160_9 : decode cJ0_checkIndex_df160 9 = .ok (.return_, 1) := by decide +kernel
theorem dJ0_coder_7d493_0 : decode cJ0_coder_7d493 0 = .ok (.getstatic 38, 3) := by decide +kernel
theorem dJ0_coder_7d493_3 : decode cJ0_coder_7d493 3 = .ok (.ifCond .eq 10, 3) := by decide +kernel
theorem dJ0_coder_7d493_6 : decode cJ0_coder_7d493 6 = .ok (.aload_n 0, 1) := by decide +kernel
theorem dJ0_coder_7d493_7 : decode cJ0_coder_7d493 7 = .ok (.getfield 15, 3) := by decide +kernel
theorem dJ0_coder_7d493_10 : decode cJ0_coder_7d493 10 = .ok (.goto 4, 3) := by decide +kernel
theorem dJ0_coder_7d493_13 : decode cJ0_coder_7d493 13 = .ok (.iconst 1, 1) := by decide +kernel
theorem dJ0_coder_7d493_14 : decode cJ0_coder_7d493 14 = .ok (.ireturn, 1) := by decide +kernel
theorem dJ0_indexOf_0f7a4_0 : decode cJ0_indexOf_0f7a4 0 = .ok (.aload_n 0, 1) := by decide +kernel
theorem dJ0_indexOf_0f7a4_1 : decode cJ0_indexOf_0f7a4 1 = .ok (.iload_n 1, 1) := by decide +kernel
theorem dJ0_indexOf_0f7a4_2 : decode cJ0_indexOf_0f7a4 2 = .ok (.iconst 0, 1) := by decide +kernel
theorem dJ0_indexOf_0f7a4_3 : decode cJ0_indexOf_0f7a4 3 = .ok (.invokevirtual 633, 3) := by decide +kernel
theorem dJ0_indexOf_0f7a4_6 : decode cJ0_indexOf_0f7a4 6 = .ok (.ireturn, 1) := by decide +kernel
theorem dJ0_indexOf_7cf53_0 : decode cJ0_indexOf_7cf53 0 = .ok (.aload_n 0, 1) := by decide +kernel
theorem dJ0_indexOf_7cf53_1 : decode cJ0_indexOf_7cf53 1 = .ok (.invokevirtual 492, 3) := by decide +kernel
theorem dJ0_indexOf_7cf53_4 : decode cJ0_indexOf_7cf53 4 = .ok (.ifCond .eq 19, 3) := by decide +kernel
theorem dJ0_indexOf_7cf53_7 : decode cJ0_indexOf_7cf53 7 = .ok (.aload_n 0, 1) := by decide +kernel
theorem dJ0_indexOf_7cf53_8 : decode cJ0_indexOf_7cf53 8 = .ok (.getfield 9, 3) := by decide +kernel
theorem dJ0_indexOf_7cf53_11 : decode cJ0_indexOf_7cf53 11 = .ok (.iload_n 1, 1) := by decide +kernel
theorem dJ0_indexOf_7cf53_12 : decode cJ0_indexOf_7cf53 12 = .ok (.iload_n 2, 1) := by decide +kernel
theorem dJ0_indexOf_7cf53_13 : decode cJ0_indexOf_7cf53 13 = .ok (.aload_n 0, 1) := by decide +kernel
theorem dJ0_indexOf_7cf53_14 : decode cJ0_indexOf_7cf53 14 = .ok (.invokevirtual 505, 3) := by decide +kernel
theorem dJ0_indexOf_7cf53_17 : decode cJ0_indexOf_7cf53 17 = .ok (.invokestatic 637, 3) := by decide +kernel
theorem dJ0_indexOf_7cf53_20 : decode cJ0_indexOf_7cf53 20 = .ok (.goto 16, 3) := by decide +kernel
theorem dJ0_indexOf_7cf53_23 : decode cJ0_indexOf_7cf53 23 = .ok (.aload_n 0, 1) := by decide +kernel
theorem dJ0_indexOf_7cf53_24 : decode cJ0_indexOf_7cf53 24 = .ok (.getfield 9, 3) := by decide +kernel
theorem dJ0_indexOf_7cf53_27 : decode cJ0_indexOf_7cf53 27 = .ok (.iload_n 1, 1) := by decide +kernel
theorem dJ0_indexOf_7cf53_28 : decode cJ0_indexOf_7cf53 28 = .ok (.iload_n 2, 1) := by decide +kernel
theorem dJ0_indexOf_7cf53_29 : decode cJ0_indexOf_7cf53 29 = .ok (.aload_n 0, 1) := by decide +kernel
theorem dJ0_indexOf_7cf53_30 : decode cJ0_indexOf_7cf53 30 = .ok (.invokevirtual 505, 3) := by decide +kernel
theorem dJ0_indexOf_7cf53_33 : decode cJ0_indexOf_7cf53 33 = .ok (.invokestatic 640, 3) := by decide +kernel
theorem dJ0_indexOf_7cf53_36 : decode cJ0_indexOf_7cf53 36 = .ok (.ireturn, 1) := by decide +kernel
theorem dJ0_isLatin1_aae02_0 : decode cJ0_isLatin1_aae02 0 = .ok (.getstatic 38, 3) := by decide +kernel
theorem dJ0_isLatin1_aae02_3 : decode cJ0_isLatin1_aae02 3 = .ok (.ifCond .eq 14, 3) := by decide +kernel
theorem dJ0_isLatin1_aae02_6 : decode cJ0_isLatin1_aae02 6 = .ok (.aload_n 0, 1) := by decide +kernel
theorem dJ0_isLatin1_aae02_7 : decode cJ0_isLatin1_aae02 7 = .ok (.getfield 15, 3) := by decide +kernel
theorem dJ0_isLatin1_aae02_10 : decode cJ0_isLatin1_aae02 10 = .ok (.ifCond .ne 7, 3) := by decide +kernel
theorem dJ0_isLatin1_aae02_13 : decode cJ0_isLatin1_aae02 13 = .ok (.iconst 1, 1) := by decide +kernel
theorem dJ0_isLatin1_aae02_14 : decode cJ0_isLatin1_aae02 14 = .ok (.goto 4, 3) := by decide +kernel
theorem dJ0_isLatin1_aae02_17 : decode cJ0_isLatin1_aae02 17 = .ok (.iconst 0, 1) := by decide +kernel
theorem dJ0_isLatin1_aae02_18 : decode cJ0_isLatin1_aae02 18 = .ok (.ireturn, 1) := by decide +kernel
theorem dJ0_length_8abf5_0 : decode cJ0_length_8abf5 0 = .ok (.aload_n 0, 1) := by decide +kernel
theorem dJ0_length_8abf5_1 : decode cJ0_length_8abf5 1 = .ok (.getfield 9, 3) := by decide +kernel
theorem dJ0_length_8abf5_4 : decode cJ0_length_8abf5 4 = .ok (.arraylength, 1) := by decide +kernel
theorem dJ0_length_8abf5_5 : decode cJ0_length_8abf5 5 = .ok (.aload_n 0, 1) := by decide +kernel
theorem dJ0_length_8abf5_6 : decode cJ0_length_8abf5 6 = .ok (.invokevirtual 335, 3) := by decide +kernel
theorem dJ0_length_8abf5_9 : decode cJ0_length_8abf5 9 = .ok (.ishr, 1) := by decide +kernel
theorem dJ0_length_8abf5_10 : decode cJ0_length_8abf5 10 = .ok (.ireturn, 1) := by decide +kernel
theorem dJ11_highSurrogate_5068e_0 : decode cJ11_highSurrogate_5068e 0 = .ok (.iload_n 0, 1) := by decide +kernel
theorem dJ11_highSurrogate_5068e_1 : decode cJ11_highSurrogate_5068e 1 = .ok (.bipush 10, 2) := by decide +kernel
theorem dJ11_highSurrogate_5068e_3 : decode cJ11_highSurrogate_5068e 3 = .ok (.iushr, 1) := by decide +kernel
theorem dJ11_highSurrogate_5068e_4 : decode cJ11_highSurrogate_5068e 4 = .ok (.ldc 110, 2) := by decide +kernel
theorem dJ11_highSurrogate_5068e_6 : decode cJ11_highSurrogate_5068e 6 = .ok (.iadd, 1) := by decide +kernel
theorem dJ11_highSurrogate_5068e_7 : decode cJ11_highSurrogate_5068e 7 = .ok (.i2c, 1) := by decide +kernel
theorem dJ11_highSurrogate_5068e_8 : decode cJ11_highSurrogate_5068e 8 = .ok (.ireturn, 1) := by decide +kernel
theorem dJ11_isValidCodePoint_9a6ad_0 : decode cJ11_isValidCodePoint_9a6ad 0 = .ok (.iload_n 0, 1) := by decide +kernel
theorem dJ11_isValidCodePoint_9a6ad_1 : decode cJ11_isValidCodePoint_9a6ad 1 = .ok (.bipush 16, 2) := by decide +kernel
theorem dJ11_isValidCodePoint_9a6ad_3 : decode cJ11_isValidCodePoint_9a6ad 3 = .ok (.iushr, 1) := by decide +kernel
theorem dJ11_isValidCodePoint_9a6ad_4 : decode cJ11_isValidCodePoint_9a6ad 4 = .ok (.istore_n 1, 1) := by decide +kernel
theorem dJ11_isValidCodePoint_9a6ad_5 : decode cJ11_isValidCodePoint_9a6ad 5 = .ok (.iload_n 1, 1) := by decide +kernel
theorem dJ11_isValidCodePoint_9a6ad_6 : decode cJ11_isValidCodePoint_9a6ad 6 = .ok (.bipush 17, 2) := by decide +kernel
theorem dJ11_isValidCodePoint_9a6ad_8 : decode cJ11_isValidCodePoint_9a6ad 8 = .ok (.if_icmp .ge 7, 3) := by decide +kernel
theorem dJ11_isValidCodePoint_9a6ad_11 : decode cJ11_isValidCodePoint_9a6ad 11 = .ok (.iconst 1, 1) := by decide +kernel
theorem dJ11_isValidCodePoint_9a6ad_12 : decode cJ11_isValidCodePoint_9a6ad 12 = .ok (.goto 4, 3) := by decide +kernel
theorem dJ11_isValidCodePoint_9a6ad_15 : decode cJ11_isValidCodePoint_9a6ad 15 = .ok (.iconst 0, 1) := by decide +kernel
theorem dJ11_isValidCodePoint_9a6ad_16 : decode cJ11_isValidCodePoint_9a6ad 16 = .ok (.ireturn, 1) := by decide +kernel
theorem dJ11_lowSurrogate_5068e_0 : decode cJ11_lowSurrogate_5068e 0 = .ok (.iload_n 0, 1) := by decide +kernel
theorem dJ11_lowSurrogate_5068e_1 : decode cJ11_lowSurrogate_5068e 1 = .ok (.sipush 1023, 3) := by decide +kernel
theorem dJ11_lowSurrogate_5068e_4 : decode cJ11_lowSurrogate_5068e 4 = .ok (.iand, 1) := by decide +kernel
theorem dJ11_lowSurrogate_5068e_5 : decode cJ11_lowSurrogate_5068e 5 = .ok (.ldc 76, 2) := by decide +kernel
theorem dJ11_lowSurrogate_5068e_7 : decode cJ11_lowSurrogate_5068e 7 = .ok (.iadd, 1) := by decide +kernel
theorem dJ11_lowSurrogate_5068e_8 : decode cJ11_lowSurrogate_5068e 8 = .ok (.i2c, 1) := by decide +kernel
theorem dJ11_lowSurrogate_5068e_9 : decode cJ11_lowSurrogate_5068e 9 = .ok (.ireturn, 1) := by decide +kernel
theorem dJ1_canEncode_9a6ad_0 : decode cJ1_canEncode_9a6ad 0 = .ok (.iload_n 0, 1) := by decide +kernel
theorem dJ1_canEncode_9a6ad_1 : decode cJ1_canEncode_9a6ad 1 = .ok (.ifCond .lt 14, 3) := by decide +kernel
theorem dJ1_canEncode_9a6ad_4 : decode cJ1_canEncode_9a6ad 4 = .ok (.iload_n 0, 1) := by decide +kernel
theorem dJ1_canEncode_9a6ad_5 : decode cJ1_canEncode_9a6ad 5 = .ok (.sipush 255, 3) := by decide +kernel
theorem dJ1_canEncode_9a6ad_8 : decode cJ1_canEncode_9a6ad 8 = .ok (.if_icmp .gt 7, 3) := by decide +kernel
theorem dJ1_canEncode_9a6ad_11 : decode cJ1_canEncode_9a6ad 11 = .ok (.iconst 1, 1) := by decide +kernel
theorem dJ1_canEncode_9a6ad_12 : decode cJ1_canEncode_9a6ad 12 = .ok (.goto 4, 3) := by decide +kernel
theorem dJ1_canEncode_9a6ad_15 : decode cJ1_canEncode_9a6ad 15 = .ok (.iconst 0, 1) := by decide +kernel
theorem dJ1_canEncode_9a6ad_16 : decode cJ1_canEncode_9a6ad 16 = .ok (.ireturn, 1) := by decide +kernel
theorem dJ1_charAt_3b067_0 : decode cJ1_charAt_3b067 0 = .ok (.iload_n 1, 1) := by decide +kernel
theorem dJ1_charAt_3b067_1 : decode cJ1_charAt_3b067 1 = .ok (.aload_n 0, 1) := by decide +kernel
theorem dJ1_charAt_3b067_2 : decode cJ1_charAt_3b067 2 = .ok (.arraylength, 1) := by decide +kernel
theorem dJ1_charAt_3b067_3 : decode cJ1_charAt_3b067 3 = .ok (.invokestatic 9, 3) := by decide +kernel
theorem dJ1_charAt_3b067_6 : decode cJ1_charAt_3b067 6 = .ok (.aload_n 0, 1) := by decide +kernel
theorem dJ1_charAt_3b067_7 : decode cJ1_charAt_3b067 7 = .ok (.iload_n 1, 1) := by decide +kernel
theorem dJ1_charAt_3b067_8 : decode cJ1_charAt_3b067 8 = .ok (.baload, 1) := by decide +kernel
theorem dJ1_charAt_3b067_9 : decode cJ1_charAt_3b067 9 = .ok (.sipush 255, 3) := by decide +kernel
theorem dJ1_charAt_3b067_12 : decode cJ1_charAt_3b067 12 = .ok (.iand, 1) := by decide +kernel
theorem dJ1_charAt_3b067_13 : decode cJ1_charAt_3b067 13 = .ok (.i2c, 1) := by decide +kernel
theorem dJ1_charAt_3b067_14 : decode cJ1_charAt_3b067 14 = .ok (.ireturn, 1) := by decide +kernel
theorem dJ1_indexOfChar_4cfef_0 : decode cJ1_indexOfChar_4cfef 0 = .ok (.iload_n 1, 1) := by decide +kernel
theorem dJ1_indexOfChar_4cfef_1 : decode cJ1_indexOfChar_4cfef 1 = .ok (.i2b, 1) := by decide +kernel
theorem dJ1_indexOfChar_4cfef_2 : decode cJ1_indexOfChar_4cfef 2 = .ok (.istore 4, 2) := by decide +kernel
theorem dJ1_indexOfChar_4cfef_4 : decode cJ1_indexOfChar_4cfef 4 = .ok (.iload_n 2, 1) := by decide +kernel
theorem dJ1_indexOfChar_4cfef_5 : decode cJ1_indexOfChar_4cfef 5 = .ok (.istore 5, 2) := by decide +kernel
theorem dJ1_indexOfChar_4cfef_7 : decode cJ1_indexOfChar_4cfef 7 = .ok (.iload 5, 2) := by decide +kernel
theorem dJ1_indexOfChar_4cfef_9 : decode cJ1_indexOfChar_4cfef 9 = .ok (.iload_n 3, 1) := by decide +kernel
theorem dJ1_indexOfChar_4cfef_10 : decode cJ1_indexOfChar_4cfef 10 = .ok (.if_icmp .ge 21, 3) := by decide +kernel
theorem dJ1_indexOfChar_4cfef_13 : decode cJ1_indexOfChar_4cfef 13 = .ok (.aload_n 0, 1) := by decide +kernel
theorem dJ1_indexOfChar_4cfef_14 : decode cJ1_indexOfChar_4cfef 14 = .ok (.iload 5, 2) := by decide +kernel
theorem dJ1_indexOfChar_4cfef_16 : decode cJ1_indexOfChar_4cfef 16 = .ok (.baload, 1) := by decide +kernel
theorem dJ1_indexOfChar_4cfef_17 : decode cJ1_indexOfChar_4cfef 17 = .ok (.iload 4, 2) := by decide +kernel
theorem dJ1_indexOfChar_4cfef_19 : decode cJ1_indexOfChar_4cfef 19 = .ok (.if_icmp .ne 6, 3) := by decide +kernel
theorem dJ1_indexOfChar_4cfef_22 : decode cJ1_indexOfChar_4cfef 22 = .ok (.iload 5, 2) := by decide +kernel
theorem dJ1_indexOfChar_4cfef_24 : decode cJ1_indexOfChar_4cfef 24 = .ok (.ireturn, 1) := by decide +kernel
theorem dJ1_indexOfChar_4cfef_25 : decode cJ1_indexOfChar_4cfef 25 = .ok (.iinc 5 1, 3) := by decide +kernel
theorem dJ1_indexOfChar_4cfef_28 : decode cJ1_indexOfChar_4cfef 28 = .ok (.goto (-21), 3) := by decide +kernel
theorem dJ1_indexOfChar_4cfef_31 : decode cJ1_indexOfChar_4cfef 31 = .ok (.iconst (-1), 1) := by decide +kernel
theorem dJ1_indexOfChar_4cfef_32 : decode cJ1_indexOfChar_4cfef 32 = .ok (.ireturn, 1) := by decide +kernel
theorem dJ1_indexOf_4cfef_0 : decode cJ1_indexOf_4cfef 0 = .ok (.iload_n 1, 1) := by decide +kernel
theorem dJ1_indexOf_4cfef_1 : decode cJ1_indexOf_4cfef 1 = .ok (.invokestatic 88, 3) := by decide +kernel
theorem dJ1_indexOf_4cfef_4 : decode cJ1_indexOf_4cfef 4 = .ok (.ifCond .ne 5, 3) := by decide +kernel
theorem dJ1_indexOf_4cfef_7 : decode cJ1_indexOf_4cfef 7 = .ok (.iconst (-1), 1) := by decide +kernel
theorem dJ1_indexOf_4cfef_8 : decode cJ1_indexOf_4cfef 8 = .ok (.ireturn, 1) := by decide +kernel
theorem dJ1_indexOf_4cfef_9 : decode cJ1_indexOf_4cfef 9 = .ok (.iload_n 2, 1) := by decide +kernel
theorem dJ1_indexOf_4cfef_10 : decode cJ1_indexOf_4cfef 10 = .ok (.iconst 0, 1) := by decide +kernel
theorem dJ1_indexOf_4cfef_11 : decode cJ1_indexOf_4cfef 11 = .ok (.invokestatic 92, 3) := by decide +kernel
theorem dJ1_indexOf_4cfef_14 : decode cJ1_indexOf_4cfef 14 = .ok (.istore_n 2, 1) := by decide +kernel
theorem dJ1_indexOf_4cfef_15 : decode cJ1_indexOf_4cfef 15 = .ok (.iload_n 3, 1) := by decide +kernel
theorem dJ1_indexOf_4cfef_16 : decode cJ1_indexOf_4cfef 16 = .ok (.aload_n 0, 1) := by decide +kernel
theorem dJ1_indexOf_4cfef_17 : decode cJ1_indexOf_4cfef 17 = .ok (.arraylength, 1) := by decide +kernel
theorem dJ1_indexOf_4cfef_18 : decode cJ1_indexOf_4cfef 18 = .ok (.invokestatic 38, 3) := by decide +kernel
theorem dJ1_indexOf_4cfef_21 : decode cJ1_indexOf_4cfef 21 = .ok (.istore_n 3, 1) := by decide +kernel
theorem dJ1_indexOf_4cfef_22 : decode cJ1_indexOf_4cfef 22 = .ok (.iload_n 2, 1) := by decide +kernel
theorem dJ1_indexOf_4cfef_23 : decode cJ1_indexOf_4cfef 23 = .ok (.iload_n 3, 1) := by decide +kernel
theorem dJ1_indexOf_4cfef_24 : decode cJ1_indexOf_4cfef 24 = .ok (.if_icmp .lt 5, 3) := by decide +kernel
theorem dJ1_indexOf_4cfef_27 : decode cJ1_indexOf_4cfef 27 = .ok (.iconst (-1), 1) := by decide +kernel
theorem dJ1_indexOf_4cfef_28 : decode cJ1_indexOf_4cfef 28 = .ok (.ireturn, 1) := by decide +kernel
theorem dJ1_indexOf_4cfef_29 : decode cJ1_indexOf_4cfef 29 = .ok (.aload_n 0, 1) := by decide +kernel
theorem dJ1_indexOf_4cfef_30 : decode cJ1_indexOf_4cfef 30 = .ok (.iload_n 1, 1) := by decide +kernel
theorem dJ1_indexOf_4cfef_31 : decode cJ1_indexOf_4cfef 31 = .ok (.iload_n 2, 1) := by decide +kernel
theorem dJ1_indexOf_4cfef_32 : decode cJ1_indexOf_4cfef 32 = .ok (.iload_n 3, 1) := by decide +kernel
theorem dJ1_indexOf_4cfef_33 : decode cJ1_indexOf_4cfef 33 = .ok (.invokestatic 95, 3) := by decide +kernel
theorem dJ1_indexOf_4cfef_36 : decode cJ1_indexOf_4cfef 36 = .ok (.ireturn, 1) := by decide +kernel
theorem dJ2_charAt_3b067_0 : decode cJ2_charAt_3b067 0 = .ok (.iload_n 1, 1) := by decide +kernel
theorem dJ2_charAt_3b067_1 : decode cJ2_charAt_3b067 1 = .ok (.aload_n 0, 1) := by decide +kernel
theorem dJ2_charAt_3b067_2 : decode cJ2_charAt_3b067 2 = .ok (.invokestatic 67, 3) := by decide +kernel
theorem dJ2_charAt_3b067_5 : decode cJ2_charAt_3b067 5 = .ok (.aload_n 0, 1) := by decide +kernel
theorem dJ2_charAt_3b067_6 : decode cJ2_charAt_3b067 6 = .ok (.iload_n 1, 1) := by decide +kernel
theorem dJ2_charAt_3b067_7 : decode cJ2_charAt_3b067 7 = .ok (.invokestatic 71, 3) := by decide +kernel
theorem dJ2_charAt_3b067_10 : decode cJ2_charAt_3b067 10 = .ok (.ireturn, 1) := by decide +kernel
theorem dJ2_checkBoundsBeginEnd_d044e_0 : decode cJ2_checkBoundsBeginEnd_d044e 0 = .ok (.iload_n 0, 1) := by decide +kernel
theorem dJ2_checkBoundsBeginEnd_d044e_1 : decode cJ2_checkBoundsBeginEnd_d044e 1 = .ok (.iload_n 1, 1) := by decide +kernel
theorem dJ2_checkBoundsBeginEnd_d044e_2 : decode cJ2_checkBoundsBeginEnd_d044e 2 = .ok (.aload_n 2, 1) := by decide +kernel
theorem dJ2_checkBoundsBeginEnd_d044e_3 : decode cJ2_checkBoundsBeginEnd_d044e 3 = .ok (.invokestatic 48, 3) := by decide +kernel
theorem dJ2_checkBoundsBeginEnd_d044e_6 : decode cJ2_checkBoundsBeginEnd_d044e 6 = .ok (.invokestatic 241, 3) := by decide +kernel
theorem dJ2_checkBoundsBeginEnd_d044e_9 : decode cJ2_checkBoundsBeginEnd_d044e 9 = .ok (.return_, 1) := by decide +kernel
theorem dJ2_checkIndex_2214a_0 : decode cJ2_checkIndex_2214a 0 = .ok (.iload_n 0, 1) := by decide +kernel
theorem dJ2_checkIndex_2214a_1 : decode cJ2_checkIndex_2214a 1 = .ok (.aload_n 1, 1) := by decide +kernel
theorem dJ2_checkIndex_2214a_2 : decode cJ2_checkIndex_2214a 2 = .ok (.invokestatic 48, 3) := by decide +kernel
theorem dJ2_checkIndex_2214a_5 : decode cJ2_checkIndex_2214a 5 = .ok (.invokestatic 414, 3) := by decide +kernel
theorem dJ2_checkIndex_2214a_8 : decode cJ2_checkIndex_2214a 8 = .ok (.return_, 1) := by decide +kernel
theorem dJ2_getChar_3b067_0 : decode cJ2_getChar_3b067 0 = .ok (.getstatic 44, 3) := by decide +kernel
theorem dJ2_getChar_3b067_3 : decode cJ2_getChar_3b067 3 = .ok (.ifCond .ne 25, 3) := by decide +kernel
theorem dJ2_getChar_3b067_6 : decode cJ2_getChar_3b067 6 = .ok (.iload_n 1, 1) := by decide +kernel
theorem dJ2_getChar_3b067_7 : decode cJ2_getChar_3b067 7 = .ok (.ifCond .lt 11, 3) := by decide +kernel
theorem dJ2_getChar_3b067_10 : decode cJ2_getChar_3b067 10 = .ok (.iload_n 1, 1) := by decide +kernel
theorem dJ2_getChar_3b067_11 : decode cJ2_getChar_3b067 11 = .ok (.aload_n 0, 1) := by decide +kernel
theorem dJ2_getChar_3b067_12 : decode cJ2_getChar_3b067 12 = .ok (.invokestatic 48, 3) := by decide +kernel
theorem dJ2_getChar_3b067_15 : decode cJ2_getChar_3b067 15 = .ok (.if_icmp .lt 13, 3) := by decide +kernel
theorem dJ2_getChar_3b067_18 : decode cJ2_getChar_3b067 18 = .ok (.new 52, 3) := by decide +kernel
theorem dJ2_getChar_3b067_21 : decode cJ2_getChar_3b067 21 = .ok (.dup, 1) := by decide +kernel
theorem dJ2_getChar_3b067_22 : decode cJ2_getChar_3b067 22 = .ok (.ldc 54, 2) := by decide +kernel
theorem dJ2_getChar_3b067_24 : decode cJ2_getChar_3b067 24 = .ok (.invokespecial 56, 3) := by decide +kernel
theorem dJ2_getChar_3b067_27 : decode cJ2_getChar_3b067 27 = .ok (.athrow, 1) := by decide +kernel
theorem dJ2_getChar_3b067_28 : decode cJ2_getChar_3b067 28 = .ok (.iload_n 1, 1) := by decide +kernel
theorem dJ2_getChar_3b067_29 : decode cJ2_getChar_3b067 29 = .ok (.iconst 1, 1) := by decide +kernel
theorem dJ2_getChar_3b067_30 : decode cJ2_getChar_3b067 30 = .ok (.ishl, 1) := by decide +kernel
theorem dJ2_getChar_3b067_31 : decode cJ2_getChar_3b067 31 = .ok (.istore_n 1, 1) := by decide +kernel
theorem dJ2_getChar_3b067_32 : decode cJ2_getChar_3b067 32 = .ok (.aload_n 0, 1) := by decide +kernel
theorem dJ2_getChar_3b067_33 : decode cJ2_getChar_3b067 33 = .ok (.iload_n 1, 1) := by decide +kernel
theorem dJ2_getChar_3b067_34 : decode cJ2_getChar_3b067 34 = .ok (.iinc 1 1, 3) := by decide +kernel
theorem dJ2_getChar_3b067_37 : decode cJ2_getChar_3b067 37 = .ok (.baload, 1) := by decide +kernel
theorem dJ2_getChar_3b067_38 : decode cJ2_getChar_3b067 38 = .ok (.sipush 255, 3) := by decide +kernel
theorem dJ2_getChar_3b067_41 : decode cJ2_getChar_3b067 41 = .ok (.iand, 1) := by decide +kernel
theorem dJ2_getChar_3b067_42 : decode cJ2_getChar_3b067 42 = .ok (.getstatic 59, 3) := by decide +kernel
theorem dJ2_getChar_3b067_45 : decode cJ2_getChar_3b067 45 = .ok (.ishl, 1) := by decide +kernel
theorem dJ2_getChar_3b067_46 : decode cJ2_getChar_3b067 46 = .ok (.aload_n 0, 1) := by decide +kernel
theorem dJ2_getChar_3b067_47 : decode cJ2_getChar_3b067 47 = .ok (.iload_n 1, 1) := by decide +kernel
theorem dJ2_getChar_3b067_48 : decode cJ2_getChar_3b067 48 = .ok (.baload, 1) := by decide +kernel
theorem dJ2_getChar_3b067_49 : decode cJ2_getChar_3b067 49 = .ok (.sipush 255, 3) := by decide +kernel
theorem dJ2_getChar_3b067_52 : decode cJ2_getChar_3b067 52 = .ok (.iand, 1) := by decide +kernel
theorem dJ2_getChar_3b067_53 : decode cJ2_getChar_3b067 53 = .ok (.getstatic 63, 3) := by decide +kernel
theorem dJ2_getChar_3b067_56 : decode cJ2_getChar_3b067 56 = .ok (.ishl, 1) := by decide +kernel
theorem dJ2_getChar_3b067_57 : decode cJ2_getChar_3b067 57 = .ok (.ior, 1) := by decide +kernel
theorem dJ2_getChar_3b067_58 : decode cJ2_getChar_3b067 58 = .ok (.i2c, 1) := by decide +kernel
theorem dJ2_getChar_3b067_59 : decode cJ2_getChar_3b067 59 = .ok (.ireturn, 1) := by decide +kernel
theorem dJ2_indexOfCharUnsafe_4cfef_0 : decode cJ2_indexOfCharUnsafe_4cfef 0 = .ok (.iload_n 2, 1) := by decide +kernel
theorem dJ2_indexOfCharUnsafe_4cfef_1 : decode cJ2_indexOfCharUnsafe_4cfef 1 = .ok (.istore 4, 2) := by decide +kernel
theorem dJ2_indexOfCharUnsafe_4cfef_3 : decode cJ2_indexOfCharUnsafe_4cfef 3 = .ok (.iload 4, 2) := by decide +kernel
theorem dJ2_indexOfCharUnsafe_4cfef_5 : decode cJ2_indexOfCharUnsafe_4cfef 5 = .ok (.iload_n 3, 1) := by decide +kernel
theorem dJ2_indexOfCharUnsafe_4cfef_6 : decode cJ2_indexOfCharUnsafe_4cfef 6 = .ok (.if_icmp .ge 22, 3) := by decide +kernel
theorem dJ2_indexOfCharUnsafe_4cfef_9 : decode cJ2_indexOfCharUnsafe_4cfef 9 = .ok (.aload_n 0, 1) := by decide +kernel
theorem dJ2_indexOfCharUnsafe_4cfef_10 : decode cJ2_indexOfCharUnsafe_4cfef 10 = .ok (.iload 4, 2) := by decide +kernel
theorem dJ2_indexOfCharUnsafe_4cfef_12 : decode cJ2_indexOfCharUnsafe_4cfef 12 = .ok (.invokestatic 71, 3) := by decide +kernel
theorem dJ2_indexOfCharUnsafe_4cfef_15 : decode cJ2_indexOfCharUnsafe_4cfef 15 = .ok (.iload_n 1, 1) := by decide +kernel
theorem dJ2_indexOfCharUnsafe_4cfef_16 : decode cJ2_indexOfCharUnsafe_4cfef 16 = .ok (.if_icmp .ne 6, 3) := by decide +kernel
theorem dJ2_indexOfCharUnsafe_4cfef_19 : decode cJ2_indexOfCharUnsafe_4cfef 19 = .ok (.iload 4, 2) := by decide +kernel
theorem dJ2_indexOfCharUnsafe_4cfef_21 : decode cJ2_indexOfCharUnsafe_4cfef 21 = .ok (.ireturn, 1) := by decide +kernel
theorem dJ2_indexOfCharUnsafe_4cfef_22 : decode cJ2_indexOfCharUnsafe_4cfef 22 = .ok (.iinc 4 1, 3) := by decide +kernel
theorem dJ2_indexOfCharUnsafe_4cfef_25 : decode cJ2_indexOfCharUnsafe_4cfef 25 = .ok (.goto (-22), 3) := by decide +kernel
theorem dJ2_indexOfCharUnsafe_4cfef_28 : decode cJ2_indexOfCharUnsafe_4cfef 28 = .ok (.iconst (-1), 1) := by decide +kernel
theorem dJ2_indexOfCharUnsafe_4cfef_29 : decode cJ2_indexOfCharUnsafe_4cfef 29 = .ok (.ireturn, 1) := by decide +kernel
theorem dJ2_indexOfChar_4cfef_0 : decode cJ2_indexOfChar_4cfef 0 = .ok (.iload_n 2, 1) := by decide +kernel
theorem dJ2_indexOfChar_4cfef_1 : decode cJ2_indexOfChar_4cfef 1 = .ok (.iload_n 3, 1) := by decide +kernel
theorem dJ2_indexOfChar_4cfef_2 : decode cJ2_indexOfChar_4cfef 2 = .ok (.aload_n 0, 1) := by decide +kernel
theorem dJ2_indexOfChar_4cfef_3 : decode cJ2_indexOfChar_4cfef 3 = .ok (.invokestatic 96, 3) := by decide +kernel
theorem dJ2_indexOfChar_4cfef_6 : decode cJ2_indexOfChar_4cfef 6 = .ok (.aload_n 0, 1) := by decide +kernel
theorem dJ2_indexOfChar_4cfef_7 : decode cJ2_indexOfChar_4cfef 7 = .ok (.iload_n 1, 1) := by decide +kernel
theorem dJ2_indexOfChar_4cfef_8 : decode cJ2_indexOfChar_4cfef 8 = .ok (.iload_n 2, 1) := by decide +kernel
theorem dJ2_indexOfChar_4cfef_9 : decode cJ2_indexOfChar_4cfef 9 = .ok (.iload_n 3, 1) := by decide +kernel
theorem dJ2_indexOfChar_4cfef_10 : decode cJ2_indexOfChar_4cfef 10 = .ok (.invokestatic 244, 3) := by decide +kernel
theorem dJ2_indexOfChar_4cfef_13 : decode cJ2_indexOfChar_4cfef 13 = .ok (.ireturn, 1) := by decide +kernel
theorem dJ2_indexOfSupplementary_4cfef_0 : decode cJ2_indexOfSupplementary_4cfef 0 = .ok (.iload_n 1, 1) := by decide +kernel
theorem dJ2_indexOfSupplementary_4cfef_1 : decode cJ2_indexOfSupplementary_4cfef 1 = .ok (.invokestatic 164, 3) := by decide +kernel
theorem dJ2_indexOfSupplementary_4cfef_4 : decode cJ2_indexOfSupplementary_4cfef 4 = .ok (.ifCond .eq 65, 3) := by decide +kernel
theorem dJ2_indexOfSupplementary_4cfef_7 : decode cJ2_indexOfSupplementary_4cfef 7 = .ok (.iload_n 1, 1) := by decide +kernel
theorem dJ2_indexOfSupplementary_4cfef_8 : decode cJ2_indexOfSupplementary_4cfef 8 = .ok (.invokestatic 157, 3) := by decide +kernel
theorem dJ2_indexOfSupplementary_4cfef_11 : decode cJ2_indexOfSupplementary_4cfef 11 = .ok (.istore 4, 2) := by decide +kernel
theorem dJ2_indexOfSupplementary_4cfef_13 : decode cJ2_indexOfSupplementary_4cfef 13 = .ok (.iload_n 1, 1) := by decide +kernel
theorem dJ2_indexOfSupplementary_4cfef_14 : decode cJ2_indexOfSupplementary_4cfef 14 = .ok (.invokestatic 161, 3) := by decide +kernel
theorem dJ2_indexOfSupplementary_4cfef_17 : decode cJ2_indexOfSupplementary_4cfef 17 = .ok (.istore 5, 2) := by decide +kernel
theorem dJ2_indexOfSupplementary_4cfef_19 : decode cJ2_indexOfSupplementary_4cfef 19 = .ok (.iload_n 2, 1) := by decide +kernel
theorem dJ2_indexOfSupplementary_4cfef_20 : decode cJ2_indexOfSupplementary_4cfef 20 = .ok (.iload_n 3, 1) := by decide +kernel
theorem dJ2_indexOfSupplementary_4cfef_21 : decode cJ2_indexOfSupplementary_4cfef 21 = .ok (.aload_n 0, 1) := by decide +kernel
theorem dJ2_indexOfSupplementary_4cfef_22 : decode cJ2_indexOfSupplementary_4cfef 22 = .ok (.invokestatic 96, 3) := by decide +kernel
theorem dJ2_indexOfSupplementary_4cfef_25 : decode cJ2_indexOfSupplementary_4cfef 25 = .ok (.iload_n 2, 1) := by decide +kernel
theorem dJ2_indexOfSupplementary_4cfef_26 : decode cJ2_indexOfSupplementary_4cfef 26 = .ok (.istore 6, 2) := by decide +kernel
theorem dJ2_indexOfSupplementary_4cfef_28 : decode cJ2_indexOfSupplementary_4cfef 28 = .ok (.iload 6, 2) := by decide +kernel
theorem dJ2_indexOfSupplementary_4cfef_30 : decode cJ2_indexOfSupplementary_4cfef 30 = .ok (.iload_n 3, 1) := by decide +kernel
theorem dJ2_indexOfSupplementary_4cfef_31 : decode cJ2_indexOfSupplementary_4cfef 31 = .ok (.iconst 1, 1) := by decide +kernel
theorem dJ2_indexOfSupplementary_4cfef_32 : decode cJ2_indexOfSupplementary_4cfef 32 = .ok (.isub, 1) := by decide +kernel
theorem dJ2_indexOfSupplementary_4cfef_33 : decode cJ2_indexOfSupplementary_4cfef 33 = .ok (.if_icmp .ge 36, 3) := by decide +kernel
theorem dJ2_indexOfSupplementary_4cfef_36 : decode cJ2_indexOfSupplementary_4cfef 36 = .ok (.aload_n 0, 1) := by decide +kernel
theorem dJ2_indexOfSupplementary_4cfef_37 : decode cJ2_indexOfSupplementary_4cfef 37 = .ok (.iload 6, 2) := by decide +kernel
theorem dJ2_indexOfSupplementary_4cfef_39 : decode cJ2_indexOfSupplementary_4cfef 39 = .ok (.invokestatic 71, 3) := by decide +kernel
theorem dJ2_indexOfSupplementary_4cfef_42 : decode cJ2_indexOfSupplementary_4cfef 42 = .ok (.iload 4, 2) := by decide +kernel
theorem dJ2_indexOfSupplementary_4cfef_44 : decode cJ2_indexOfSupplementary_4cfef 44 = .ok (.if_icmp .ne 19, 3) := by decide +kernel
theorem dJ2_indexOfSupplementary_4cfef_47 : decode cJ2_indexOfSupplementary_4cfef 47 = .ok (.aload_n 0, 1) := by decide +kernel
theorem dJ2_indexOfSupplementary_4cfef_48 : decode cJ2_indexOfSupplementary_4cfef 48 = .ok (.iload 6, 2) := by decide +kernel
theorem dJ2_indexOfSupplementary_4cfef_50 : decode cJ2_indexOfSupplementary_4cfef 50 = .ok (.iconst 1, 1) := by decide +kernel
theorem dJ2_indexOfSupplementary_4cfef_51 : decode cJ2_indexOfSupplementary_4cfef 51 = .ok (.iadd, 1) := by decide +kernel
theorem dJ2_indexOfSupplementary_4cfef_52 : decode cJ2_indexOfSupplementary_4cfef 52 = .ok (.invokestatic 71, 3) := by decide +kernel
theorem dJ2_indexOfSupplementary_4cfef_55 : decode cJ2_indexOfSupplementary_4cfef 55 = .ok (.iload 5, 2) := by decide +kernel
theorem dJ2_indexOfSupplementary_4cfef_57 : decode cJ2_indexOfSupplementary_4cfef 57 = .ok (.if_icmp .ne 6, 3) := by decide +kernel
theorem dJ2_indexOfSupplementary_4cfef_60 : decode cJ2_indexOfSupplementary_4cfef 60 = .ok (.iload 6, 2) := by decide +kernel
theorem dJ2_indexOfSupplementary_4cfef_62 : decode cJ2_indexOfSupplementary_4cfef 62 = .ok (.ireturn, 1) := by decide +kernel
theorem dJ2_indexOfSupplementary_4cfef_63 : decode cJ2_indexOfSupplementary_4cfef 63 = .ok (.iinc 6 1, 3) := by decide +kernel
theorem dJ2_indexOfSupplementary_4cfef_66 : decode cJ2_indexOfSupplementary_4cfef 66 = .ok (.goto (-38), 3) := by decide +kernel
theorem dJ2_indexOfSupplementary_4cfef_69 : decode cJ2_indexOfSupplementary_4cfef 69 = .ok (.iconst (-1), 1) := by decide +kernel
theorem dJ2_indexOfSupplementary_4cfef_70 : decode cJ2_indexOfSupplementary_4cfef 70 = .ok (.ireturn, 1) := by decide +kernel
theorem dJ2_indexOf_4cfef_0 : decode cJ2_indexOf_4cfef 0 = .ok (.iload_n 2, 1) := by decide +kernel
theorem dJ2_indexOf_4cfef_1 : decode cJ2_indexOf_4cfef 1 = .ok (.iconst 0, 1) := by decide +kernel
theorem dJ2_indexOf_4cfef_2 : decode cJ2_indexOf_4cfef 2 = .ok (.invokestatic 224, 3) := by decide +kernel
theorem dJ2_indexOf_4cfef_5 : decode cJ2_indexOf_4cfef 5 = .ok (.istore_n 2, 1) := by decide +kernel
theorem dJ2_indexOf_4cfef_6 : decode cJ2_indexOf_4cfef 6 = .ok (.iload_n 3, 1) := by decide +kernel
theorem dJ2_indexOf_4cfef_7 : decode cJ2_indexOf_4cfef 7 = .ok (.aload_n 0, 1) := by decide +kernel
theorem dJ2_indexOf_4cfef_8 : decode cJ2_indexOf_4cfef 8 = .ok (.arraylength, 1) := by decide +kernel
theorem dJ2_indexOf_4cfef_9 : decode cJ2_indexOf_4cfef 9 = .ok (.iconst 1, 1) := by decide +kernel
theorem dJ2_indexOf_4cfef_10 : decode cJ2_indexOf_4cfef 10 = .ok (.ishr, 1) := by decide +kernel
theorem dJ2_indexOf_4cfef_11 : decode cJ2_indexOf_4cfef 11 = .ok (.invokestatic 183, 3) := by decide +kernel
theorem dJ2_indexOf_4cfef_14 : decode cJ2_indexOf_4cfef 14 = .ok (.istore_n 3, 1) := by decide +kernel
theorem dJ2_indexOf_4cfef_15 : decode cJ2_indexOf_4cfef 15 = .ok (.iload_n 2, 1) := by decide +kernel
theorem dJ2_indexOf_4cfef_16 : decode cJ2_indexOf_4cfef 16 = .ok (.iload_n 3, 1) := by decide +kernel
theorem dJ2_indexOf_4cfef_17 : decode cJ2_indexOf_4cfef 17 = .ok (.if_icmp .lt 5, 3) := by decide +kernel
theorem dJ2_indexOf_4cfef_20 : decode cJ2_indexOf_4cfef 20 = .ok (.iconst (-1), 1) := by decide +kernel
theorem dJ2_indexOf_4cfef_21 : decode cJ2_indexOf_4cfef 21 = .ok (.ireturn, 1) := by decide +kernel
theorem dJ2_indexOf_4cfef_22 : decode cJ2_indexOf_4cfef 22 = .ok (.iload_n 1, 1) := by decide +kernel
theorem dJ2_indexOf_4cfef_23 : decode cJ2_indexOf_4cfef 23 = .ok (.ldc 227, 2) := by decide +kernel
theorem dJ2_indexOf_4cfef_25 : decode cJ2_indexOf_4cfef 25 = .ok (.if_icmp .ge 11, 3) := by decide +kernel
theorem dJ2_indexOf_4cfef_28 : decode cJ2_indexOf_4cfef 28 = .ok (.aload_n 0, 1) := by decide +kernel
theorem dJ2_indexOf_4cfef_29 : decode cJ2_indexOf_4cfef 29 = .ok (.iload_n 1, 1) := by decide +kernel
theorem dJ2_indexOf_4cfef_30 : decode cJ2_indexOf_4cfef 30 = .ok (.iload_n 2, 1) := by decide +kernel
theorem dJ2_indexOf_4cfef_31 : decode cJ2_indexOf_4cfef 31 = .ok (.iload_n 3, 1) := by decide +kernel
theorem dJ2_indexOf_4cfef_32 : decode cJ2_indexOf_4cfef 32 = .ok (.invokestatic 228, 3) := by decide +kernel
theorem dJ2_indexOf_4cfef_35 : decode cJ2_indexOf_4cfef 35 = .ok (.ireturn, 1) := by decide +kernel
theorem dJ2_indexOf_4cfef_36 : decode cJ2_indexOf_4cfef 36 = .ok (.aload_n 0, 1) := by decide +kernel
theorem dJ2_indexOf_4cfef_37 : decode cJ2_indexOf_4cfef 37 = .ok (.iload_n 1, 1) := by decide +kernel
theorem dJ2_indexOf_4cfef_38 : decode cJ2_indexOf_4cfef 38 = .ok (.iload_n 2, 1) := by decide +kernel
theorem dJ2_indexOf_4cfef_39 : decode cJ2_indexOf_4cfef 39 = .ok (.iload_n 3, 1) := by decide +kernel
theorem dJ2_indexOf_4cfef_40 : decode cJ2_indexOf_4cfef 40 = .ok (.invokestatic 232, 3) := by decide +kernel
theorem dJ2_indexOf_4cfef_43 : decode cJ2_indexOf_4cfef 43 = .ok (.ireturn, 1) := by decide +kernel
theorem dJ2_length_9d52b_0 : decode cJ2_length_9d52b 0 = .ok (.aload_n 0, 1) := by decide +kernel
theorem dJ2_length_9d52b_1 : decode cJ2_length_9d52b 1 = .ok (.arraylength, 1) := by decide +kernel
theorem dJ2_length_9d52b_2 : decode cJ2_length_9d52b 2 = .ok (.iconst 1, 1) := by decide +kernel
theorem dJ2_length_9d52b_3 : decode cJ2_length_9d52b 3 = .ok (.ishr, 1) := by decide +kernel
theorem dJ2_length_9d52b_4 : decode cJ2_length_9d52b 4 = .ok (.ireturn, 1) := by decide +kernel
theorem dJ3_checkFromToIndex_8c36e_0 : decode cJ3_checkFromToIndex_8c36e 0 = .ok (.iload_n 0, 1) := by decide +kernel
theorem dJ3_checkFromToIndex_8c36e_1 : decode cJ3_checkFromToIndex_8c36e 1 = .ok (.ifCond .lt 13, 3) := by decide +kernel
theorem dJ3_checkFromToIndex_8c36e_4 : decode cJ3_checkFromToIndex_8c36e 4 = .ok (.iload_n 0, 1) := by decide +kernel
theorem dJ3_checkFromToIndex_8c36e_5 : decode cJ3_checkFromToIndex_8c36e 5 = .ok (.iload_n 1, 1) := by decide +kernel
theorem dJ3_checkFromToIndex_8c36e_6 : decode cJ3_checkFromToIndex_8c36e 6 = .ok (.if_icmp .gt 8, 3) := by decide +kernel
theorem dJ3_checkFromToIndex_8c36e_9 : decode cJ3_checkFromToIndex_8c36e 9 = .ok (.iload_n 1, 1) := by decide +kernel
theorem dJ3_checkFromToIndex_8c36e_10 : decode cJ3_checkFromToIndex_8c36e 10 = .ok (.iload_n 2, 1) := by decide +kernel
theorem dJ3_checkFromToIndex_8c36e_11 : decode cJ3_checkFromToIndex_8c36e 11 = .ok (.if_icmp .le 11, 3) := by decide +kernel
theorem dJ3_checkFromToIndex_8c36e_14 : decode cJ3_checkFromToIndex_8c36e 14 = .ok (.aload_n 3, 1) := by decide +kernel
theorem dJ3_checkFromToIndex_8c36e_15 : decode cJ3_checkFromToIndex_8c36e 15 = .ok (.iload_n 0, 1) := by decide +kernel
theorem dJ3_checkFromToIndex_8c36e_16 : decode cJ3_checkFromToIndex_8c36e 16 = .ok (.iload_n 1, 1) := by decide +kernel
theorem dJ3_checkFromToIndex_8c36e_17 : decode cJ3_checkFromToIndex_8c36e 17 = .ok (.iload_n 2, 1) := by decide +kernel
theorem dJ3_checkFromToIndex_8c36e_18 : decode cJ3_checkFromToIndex_8c36e 18 = .ok (.invokestatic 99, 3) := by decide +kernel
theorem dJ3_checkFromToIndex_8c36e_21 : decode cJ3_checkFromToIndex_8c36e 21 = .ok (.athrow, 1) := by decide +kernel
theorem dJ3_checkFromToIndex_8c36e_22 : decode cJ3_checkFromToIndex_8c36e 22 = .ok (.iload_n 0, 1) := by decide +kernel
theorem dJ3_checkFromToIndex_8c36e_23 : decode cJ3_checkFromToIndex_8c36e 23 = .ok (.ireturn, 1) := by decide +kernel
theorem dJ3_checkIndex_8e157_0 : decode cJ3_checkIndex_8e157 0 = .ok (.iload_n 0, 1) := by decide +kernel
theorem dJ3_checkIndex_8e157_1 : decode cJ3_checkIndex_8e157 1 = .ok (.ifCond .lt 8, 3) := by decide +kernel
theorem dJ3_checkIndex_8e157_4 : decode cJ3_checkIndex_8e157 4 = .ok (.iload_n 0, 1) := by decide +kernel
theorem dJ3_checkIndex_8e157_5 : decode cJ3_checkIndex_8e157 5 = .ok (.iload_n 1, 1) := by decide +kernel
theorem dJ3_checkIndex_8e157_6 : decode cJ3_checkIndex_8e157 6 = .ok (.if_icmp .lt 10, 3) := by decide +kernel
theorem dJ3_checkIndex_8e157_9 : decode cJ3_checkIndex_8e157 9 = .ok (.aload_n 2, 1) := by decide +kernel
theorem dJ3_checkIndex_8e157_10 : decode cJ3_checkIndex_8e157 10 = .ok (.iload_n 0, 1) := by decide +kernel
theorem dJ3_checkIndex_8e157_11 : decode cJ3_checkIndex_8e157 11 = .ok (.iload_n 1, 1) := by decide +kernel
theorem dJ3_checkIndex_8e157_12 : decode cJ3_checkIndex_8e157 12 = .ok (.invokestatic 95, 3) := by decide +kernel
theorem dJ3_checkIndex_8e157_15 : decode cJ3_checkIndex_8e157 15 = .ok (.athrow, 1) := by decide +kernel
theorem dJ3_checkIndex_8e157_16 : decode cJ3_checkIndex_8e157 16 = .ok (.iload_n 0, 1) := by decide +kernel
theorem dJ3_checkIndex_8e157_17 : decode cJ3_checkIndex_8e157 17 = .ok (.ireturn, 1) := by decide +kernel
theorem dJ6_bitCount_0f7a4_0 : decode cJ6_bitCount_0f7a4 0 = .ok (.iload_n 0, 1) := by decide +kernel
theorem dJ6_bitCount_0f7a4_1 : decode cJ6_bitCount_0f7a4 1 = .ok (.iload_n 0, 1) := by decide +kernel
theorem dJ6_bitCount_0f7a4_2 : decode cJ6_bitCount_0f7a4 2 = .ok (.iconst 1, 1) := by decide +kernel
theorem dJ6_bitCount_0f7a4_3 : decode cJ6_bitCount_0f7a4 3 = .ok (.iushr, 1) := by decide +kernel
theorem dJ6_bitCount_0f7a4_4 : decode cJ6_bitCount_0f7a4 4 = .ok (.ldc_w 265, 3) := by decide +kernel
theorem dJ6_bitCount_0f7a4_7 : decode cJ6_bitCount_0f7a4 7 = .ok (.iand, 1) := by decide +kernel
theorem dJ6_bitCount_0f7a4_8 : decode cJ6_bitCount_0f7a4 8 = .ok (.isub, 1) := by decide +kernel
theorem dJ6_bitCount_0f7a4_9 : decode cJ6_bitCount_0f7a4 9 = .ok (.istore_n 0, 1) := by decide +kernel
theorem dJ6_bitCount_0f7a4_10 : decode cJ6_bitCount_0f7a4 10 = .ok (.iload_n 0, 1) := by decide +kernel
theorem dJ6_bitCount_0f7a4_11 : decode cJ6_bitCount_0f7a4 11 = .ok (.ldc_w 266, 3) := by decide +kernel
theorem dJ6_bitCount_0f7a4_14 : decode cJ6_bitCount_0f7a4 14 = .ok (.iand, 1) := by decide +kernel
theorem dJ6_bitCount_0f7a4_15 : decode cJ6_bitCount_0f7a4 15 = .ok (.iload_n 0, 1) := by decide +kernel
theorem dJ6_bitCount_0f7a4_16 : decode cJ6_bitCount_0f7a4 16 = .ok (.iconst 2, 1) := by decide +kernel
theorem dJ6_bitCount_0f7a4_17 : decode cJ6_bitCount_0f7a4 17 = .ok (.iushr, 1) := by decide +kernel
theorem dJ6_bitCount_0f7a4_18 : decode cJ6_bitCount_0f7a4 18 = .ok (.ldc_w 266, 3) := by decide +kernel
theorem dJ6_bitCount_0f7a4_21 : decode cJ6_bitCount_0f7a4 21 = .ok (.iand, 1) := by decide +kernel
theorem dJ6_bitCount_0f7a4_22 : decode cJ6_bitCount_0f7a4 22 = .ok (.iadd, 1) := by decide +kernel
theorem dJ6_bitCount_0f7a4_23 : decode cJ6_bitCount_0f7a4 23 = .ok (.istore_n 0, 1) := by decide +kernel
theorem dJ6_bitCount_0f7a4_24 : decode cJ6_bitCount_0f7a4 24 = .ok (.iload_n 0, 1) := by decide +kernel
theorem dJ6_bitCount_0f7a4_25 : decode cJ6_bitCount_0f7a4 25 = .ok (.iload_n 0, 1) := by decide +kernel
theorem dJ6_bitCount_0f7a4_26 : decode cJ6_bitCount_0f7a4 26 = .ok (.iconst 4, 1) := by decide +kernel
theorem dJ6_bitCount_0f7a4_27 : decode cJ6_bitCount_0f7a4 27 = .ok (.iushr, 1) := by decide +kernel
theorem dJ6_bitCount_0f7a4_28 : decode cJ6_bitCount_0f7a4 28 = .ok (.iadd, 1) := by decide +kernel
theorem dJ6_bitCount_0f7a4_29 : decode cJ6_bitCount_0f7a4 29 = .ok (.ldc_w 267, 3) := by decide +kernel
theorem dJ6_bitCount_0f7a4_32 : decode cJ6_bitCount_0f7a4 32 = .ok (.iand, 1) := by decide +kernel
theorem dJ6_bitCount_0f7a4_33 : decode cJ6_bitCount_0f7a4 33 = .ok (.istore_n 0, 1) := by decide +kernel
theorem dJ6_bitCount_0f7a4_34 : decode cJ6_bitCount_0f7a4 34 = .ok (.iload_n 0, 1) := by decide +kernel
theorem dJ6_bitCount_0f7a4_35 : decode cJ6_bitCount_0f7a4 35 = .ok (.iload_n 0, 1) := by decide +kernel
theorem dJ6_bitCount_0f7a4_36 : decode cJ6_bitCount_0f7a4 36 = .ok (.bipush 8, 2) := by decide +kernel
theorem dJ6_bitCount_0f7a4_38 : decode cJ6_bitCount_0f7a4 38 = .ok (.iushr, 1) := by decide +kernel
theorem dJ6_bitCount_0f7a4_39 : decode cJ6_bitCount_0f7a4 39 = .ok (.iadd, 1) := by decide +kernel
theorem dJ6_bitCount_0f7a4_40 : decode cJ6_bitCount_0f7a4 40 = .ok (.istore_n 0, 1) := by decide +kernel
theorem dJ6_bitCount_0f7a4_41 : decode cJ6_bitCount_0f7a4 41 = .ok (.iload_n 0, 1) := by decide +kernel
theorem dJ6_bitCount_0f7a4_42 : decode cJ6_bitCount_0f7a4 42 = .ok (.iload_n 0, 1) := by decide +kernel
theorem dJ6_bitCount_0f7a4_43 : decode cJ6_bitCount_0f7a4 43 = .ok (.bipush 16, 2) := by decide +kernel
theorem dJ6_bitCount_0f7a4_45 : decode cJ6_bitCount_0f7a4 45 = .ok (.iushr, 1) := by decide +kernel
theorem dJ6_bitCount_0f7a4_46 : decode cJ6_bitCount_0f7a4 46 = .ok (.iadd, 1) := by decide +kernel
theorem dJ6_bitCount_0f7a4_47 : decode cJ6_bitCount_0f7a4 47 = .ok (.istore_n 0, 1) := by decide +kernel
theorem dJ6_bitCount_0f7a4_48 : decode cJ6_bitCount_0f7a4 48 = .ok (.iload_n 0, 1) := by decide +kernel
theorem dJ6_bitCount_0f7a4_49 : decode cJ6_bitCount_0f7a4 49 = .ok (.bipush 63, 2) := by decide +kernel
theorem dJ6_bitCount_0f7a4_51 : decode cJ6_bitCount_0f7a4 51 = .ok (.iand, 1) := by decide +kernel
theorem dJ6_bitCount_0f7a4_52 : decode cJ6_bitCount_0f7a4 52 = .ok (.ireturn, 1) := by decide +kernel
theorem dJ7_fill_53178_0 : decode cJ7_fill_53178 0 = .ok (.iconst 0, 1) := by decide +kernel
theorem dJ7_fill_53178_1 : decode cJ7_fill_53178 1 = .ok (.istore_n 2, 1) := by decide +kernel
theorem dJ7_fill_53178_2 : decode cJ7_fill_53178 2 = .ok (.aload_n 0, 1) := by decide +kernel
theorem dJ7_fill_53178_3 : decode cJ7_fill_53178 3 = .ok (.arraylength, 1) := by decide +kernel
theorem dJ7_fill_53178_4 : decode cJ7_fill_53178 4 = .ok (.istore_n 3, 1) := by decide +kernel
theorem dJ7_fill_53178_5 : decode cJ7_fill_53178 5 = .ok (.iload_n 2, 1) := by decide +kernel
theorem dJ7_fill_53178_6 : decode cJ7_fill_53178 6 = .ok (.iload_n 3, 1) := by decide +kernel
theorem dJ7_fill_53178_7 : decode cJ7_fill_53178 7 = .ok (.if_icmp .ge 13, 3) := by decide +kernel
theorem dJ7_fill_53178_10 : decode cJ7_fill_53178 10 = .ok (.aload_n 0, 1) := by decide +kernel
theorem dJ7_fill_53178_11 : decode cJ7_fill_53178 11 = .ok (.iload_n 2, 1) := by decide +kernel
theorem dJ7_fill_53178_12 : decode cJ7_fill_53178 12 = .ok (.iload_n 1, 1) := by decide +kernel
theorem dJ7_fill_53178_13 : decode cJ7_fill_53178 13 = .ok (.iastore, 1) := by decide +kernel
theorem dJ7_fill_53178_14 : decode cJ7_fill_53178 14 = .ok (.iinc 2 1, 3) := by decide +kernel
theorem dJ7_fill_53178_17 : decode cJ7_fill_53178 17 = .ok (.goto (-12), 3) := by decide +kernel
theorem dJ7_fill_53178_20 : decode cJ7_fill_53178 20 = .ok (.return_, 1) := by decide +kernel
theorem dJ9_max_7cf53_0 : decode cJ9_max_7cf53 0 = .ok (.iload_n 0, 1) := by decide +kernel
theorem dJ9_max_7cf53_1 : decode cJ9_max_7cf53 1 = .ok (.iload_n 1, 1) := by decide +kernel
theorem dJ9_max_7cf53_2 : decode cJ9_max_7cf53 2 = .ok (.if_icmp .lt 7, 3) := by decide +kernel
theorem dJ9_max_7cf53_5 : decode cJ9_max_7cf53 5 = .ok (.iload_n 0, 1) := by decide +kernel
theorem dJ9_max_7cf53_6 : decode cJ9_max_7cf53 6 = .ok (.goto 4, 3) := by decide +kernel
theorem dJ9_max_7cf53_9 : decode cJ9_max_7cf53 9 = .ok (.iload_n 1, 1) := by decide +kernel
theorem dJ9_max_7cf53_10 : decode cJ9_max_7cf53 10 = .ok (.ireturn, 1) := by decide +kernel
theorem dJ9_min_7cf53_0 : decode cJ9_min_7cf53 0 = .ok (.iload_n 0, 1) := by decide +kernel
theorem dJ9_min_7cf53_1 : decode cJ9_min_7cf53 1 = .ok (.iload_n 1, 1) := by decide +kernel
theorem dJ9_min_7cf53_2 : decode cJ9_min_7cf53 2 = .ok (.if_icmp .gt 7, 3) := by decide +kernel
theorem dJ9_min_7cf53_5 : decode cJ9_min_7cf53 5 = .ok (.iload_n 0, 1) := by decide +kernel
theorem dJ9_min_7cf53_6 : decode cJ9_min_7cf53 6 = .ok (.goto 4, 3) := by decide +kernel
theorem dJ9_min_7cf53_9 : decode cJ9_min_7cf53 9 = .ok (.iload_n 1, 1) := by decide +kernel
theorem dJ9_min_7cf53_10 : decode cJ9_min_7cf53 10 = .ok (.ireturn, 1) := by decide +kernel
theorem dX0_forget_0 : decode cX0_forget 0 = .ok (.aload_n 0, 1) := by decide +kernel
theorem dX0_forget_1 : decode cX0_forget 1 = .ok (.iconst 0, 1) := by decide +kernel
theorem dX0_forget_2 : decode cX0_forget 2 = .ok (.putfield 18, 3) := by decide +kernel
theorem dX0_forget_5 : decode cX0_forget 5 = .ok (.return_, 1) := by decide +kernel
theorem dX0_keep_0 : decode cX0_keep 0 = .ok (.aload_n 0, 1) := by decide +kernel
theorem dX0_keep_1 : decode cX0_keep 1 = .ok (.getfield 11, 3) := by decide +kernel
theorem dX0_keep_4 : decode cX0_keep 4 = .ok (.aload_n 0, 1) := by decide +kernel
theorem dX0_keep_5 : decode cX0_keep 5 = .ok (.getfield 22, 3) := by decide +kernel
theorem dX0_keep_8 : decode cX0_keep 8 = .ok (.aaload, 1) := by decide +kernel
theorem dX0_keep_9 : decode cX0_keep 9 = .ok (.astore_n 2, 1) := by decide +kernel
theorem dX0_keep_10 : decode cX0_keep 10 = .ok (.aload_n 2, 1) := by decide +kernel
theorem dX0_keep_11 : decode cX0_keep 11 = .ok (.ifnull 8, 3) := by decide +kernel
theorem dX0_keep_14 : decode cX0_keep 14 = .ok (.aload_n 2, 1) := by decide +kernel
theorem dX0_keep_15 : decode cX0_keep 15 = .ok (.aload_n 1, 1) := by decide +kernel
theorem dX0_keep_16 : decode cX0_keep 16 = .ok (.invokevirtual 25, 3) := by decide +kernel
theorem dX0_keep_19 : decode cX0_keep 19 = .ok (.aload_n 0, 1) := by decide +kernel
theorem dX0_keep_20 : decode cX0_keep 20 = .ok (.aload_n 0, 1) := by decide +kernel
theorem dX0_keep_21 : decode cX0_keep 21 = .ok (.getfield 22, 3) := by decide +kernel
theorem dX0_keep_24 : decode cX0_keep 24 = .ok (.iconst 1, 1) := by decide +kernel
theorem dX0_keep_25 : decode cX0_keep 25 = .ok (.iadd, 1) := by decide +kernel
theorem dX0_keep_26 : decode cX0_keep 26 = .ok (.bipush 20, 2) := by decide +kernel
theorem dX0_keep_28 : decode cX0_keep 28 = .ok (.irem, 1) := by decide +kernel
theorem dX0_keep_29 : decode cX0_keep 29 = .ok (.putfield 22, 3) := by decide +kernel
theorem dX0_keep_32 : decode cX0_keep 32 = .ok (.aload_n 0, 1) := by decide +kernel
theorem dX0_keep_33 : decode cX0_keep 33 = .ok (.bipush 20, 2) := by decide +kernel
theorem dX0_keep_35 : decode cX0_keep 35 = .ok (.aload_n 0, 1) := by decide +kernel
theorem dX0_keep_36 : decode cX0_keep 36 = .ok (.getfield 18, 3) := by decide +kernel
theorem dX0_keep_39 : decode cX0_keep 39 = .ok (.iconst 1, 1) := by decide +kernel
theorem dX0_keep_40 : decode cX0_keep 40 = .ok (.iadd, 1) := by decide +kernel
theorem dX0_keep_41 : decode cX0_keep 41 = .ok (.invokestatic 29, 3) := by decide +kernel
theorem dX0_keep_44 : decode cX0_keep 44 = .ok (.putfield 18, 3) := by decide +kernel
theorem dX0_keep_47 : decode cX0_keep 47 = .ok (.return_, 1) := by decide +kernel
theorem dX0_takeBack_0 : decode cX0_takeBack 0 = .ok (.aload_n 0, 1) := by decide +kernel
theorem dX0_takeBack_1 : decode cX0_takeBack 1 = .ok (.getfield 18, 3) := by decide +kernel
theorem dX0_takeBack_4 : decode cX0_takeBack 4 = .ok (.ifCond .ne 5, 3) := by decide +kernel
theorem dX0_takeBack_7 : decode cX0_takeBack 7 = .ok (.iconst 0, 1) := by decide +kernel
theorem dX0_takeBack_8 : decode cX0_takeBack 8 = .ok (.ireturn, 1) := by decide +kernel
theorem dX0_takeBack_9 : decode cX0_takeBack 9 = .ok (.aload_n 0, 1) := by decide +kernel
theorem dX0_takeBack_10 : decode cX0_takeBack 10 = .ok (.dup, 1) := by decide +kernel
theorem dX0_takeBack_11 : decode cX0_takeBack 11 = .ok (.getfield 18, 3) := by decide +kernel
theorem dX0_takeBack_14 : decode cX0_takeBack 14 = .ok (.iconst 1, 1) := by decide +kernel
theorem dX0_takeBack_15 : decode cX0_takeBack 15 = .ok (.isub, 1) := by decide +kernel
theorem dX0_takeBack_16 : decode cX0_takeBack 16 = .ok (.putfield 18, 3) := by decide +kernel
theorem dX0_takeBack_19 : decode cX0_takeBack 19 = .ok (.aload_n 0, 1) := by decide +kernel
theorem dX0_takeBack_20 : decode cX0_takeBack 20 = .ok (.aload_n 0, 1) := by decide +kernel
theorem dX0_takeBack_21 : decode cX0_takeBack 21 = .ok (.getfield 22, 3) := by decide +kernel
theorem dX0_takeBack_24 : decode cX0_takeBack 24 = .ok (.bipush 20, 2) := by decide +kernel
theorem dX0_takeBack_26 : decode cX0_takeBack 26 = .ok (.iadd, 1) := by decide +kernel
theorem dX0_takeBack_27 : decode cX0_takeBack 27 = .ok (.iconst 1, 1) := by decide +kernel
theorem dX0_takeBack_28 : decode cX0_takeBack 28 = .ok (.isub, 1) := by decide +kernel
theorem dX0_takeBack_29 : decode cX0_takeBack 29 = .ok (.bipush 20, 2) := by decide +kernel
theorem dX0_takeBack_31 : decode cX0_takeBack 31 = .ok (.irem, 1) := by decide +kernel
theorem dX0_takeBack_32 : decode cX0_takeBack 32 = .ok (.putfield 22, 3) := by decide +kernel
theorem dX0_takeBack_35 : decode cX0_takeBack 35 = .ok (.aload_n 0, 1) := by decide +kernel
theorem dX0_takeBack_36 : decode cX0_takeBack 36 = .ok (.getfield 11, 3) := by decide +kernel
theorem dX0_takeBack_39 : decode cX0_takeBack 39 = .ok (.aload_n 0, 1) := by decide +kernel
theorem dX0_takeBack_40 : decode cX0_takeBack 40 = .ok (.getfield 22, 3) := by decide +kernel
theorem dX0_takeBack_43 : decode cX0_takeBack 43 = .ok (.aaload, 1) := by decide +kernel
theorem dX0_takeBack_44 : decode cX0_takeBack 44 = .ok (.astore_n 2, 1) := by decide +kernel
theorem dX0_takeBack_45 : decode cX0_takeBack 45 = .ok (.aload_n 2, 1) := by decide +kernel
theorem dX0_takeBack_46 : decode cX0_takeBack 46 = .ok (.ifnull 8, 3) := by decide +kernel
theorem dX0_takeBack_49 : decode cX0_takeBack 49 = .ok (.aload_n 1, 1) := by decide +kernel
theorem dX0_takeBack_50 : decode cX0_takeBack 50 = .ok (.aload_n 2, 1) := by decide +kernel
theorem dX0_takeBack_51 : decode cX0_takeBack 51 = .ok (.invokevirtual 25, 3) := by decide +kernel
theorem dX0_takeBack_54 : decode cX0_takeBack 54 = .ok (.iconst 1, 1) := by decide +kernel
theorem dX0_takeBack_55 : decode cX0_takeBack 55 = .ok (.ireturn, 1) := by decide +kernel
theorem dX1_empty_0 : decode cX1_empty 0 = .ok (.aload_n 0, 1) := by decide +kernel
theorem dX1_empty_1 : decode cX1_empty 1 = .ok (.iconst 0, 1) := by decide +kernel
theorem dX1_empty_2 : decode cX1_empty 2 = .ok (.putfield 55, 3) := by decide +kernel
theorem dX1_empty_5 : decode cX1_empty 5 = .ok (.aload_n 0, 1) := by decide +kernel
theorem dX1_empty_6 : decode cX1_empty 6 = .ok (.iconst 0, 1) := by decide +kernel
theorem dX1_empty_7 : decode cX1_empty 7 = .ok (.putfield 59, 3) := by decide +kernel
theorem dX1_empty_10 : decode cX1_empty 10 = .ok (.aload_n 0, 1) := by decide +kernel
theorem dX1_empty_11 : decode cX1_empty 11 = .ok (.iconst 0, 1) := by decide +kernel
theorem dX1_empty_12 : decode cX1_empty 12 = .ok (.putfield 62, 3) := by decide +kernel
theorem dX1_empty_15 : decode cX1_empty 15 = .ok (.aload_n 0, 1) := by decide +kernel
theorem dX1_empty_16 : decode cX1_empty 16 = .ok (.getfield 45, 3) := by decide +kernel
theorem dX1_empty_19 : decode cX1_empty 19 = .ok (.iconst 0, 1) := by decide +kernel
theorem dX1_empty_20 : decode cX1_empty 20 = .ok (.invokestatic 65, 3) := by decide +kernel
theorem dX1_empty_23 : decode cX1_empty 23 = .ok (.aload_n 0, 1) := by decide +kernel
theorem dX1_empty_24 : decode cX1_empty 24 = .ok (.getfield 51, 3) := by decide +kernel
theorem dX1_empty_27 : decode cX1_empty 27 = .ok (.invokevirtual 71, 3) := by decide +kernel
theorem dX1_empty_30 : decode cX1_empty 30 = .ok (.return_, 1) := by decide +kernel
theorem dX1_isGhost_0 : decode cX1_isGhost 0 = .ok (.aload_n 0, 1) := by decide +kernel
theorem dX1_isGhost_1 : decode cX1_isGhost 1 = .ok (.getfield 27, 3) := by decide +kernel
theorem dX1_isGhost_4 : decode cX1_isGhost 4 = .ok (.iload_n 1, 1) := by decide +kernel
theorem dX1_isGhost_5 : decode cX1_isGhost 5 = .ok (.iaload, 1) := by decide +kernel
theorem dX1_isGhost_6 : decode cX1_isGhost 6 = .ok (.iconst 2, 1) := by decide +kernel
theorem dX1_isGhost_7 : decode cX1_isGhost 7 = .ok (.iand, 1) := by decide +kernel
theorem dX1_isGhost_8 : decode cX1_isGhost 8 = .ok (.ifCond .eq 7, 3) := by decide +kernel
theorem dX1_isGhost_11 : decode cX1_isGhost 11 = .ok (.iconst 1, 1) := by decide +kernel
theorem dX1_isGhost_12 : decode cX1_isGhost 12 = .ok (.goto 4, 3) := by decide +kernel
theorem dX1_isGhost_15 : decode cX1_isGhost 15 = .ok (.iconst 0, 1) := by decide +kernel
theorem dX1_isGhost_16 : decode cX1_isGhost 16 = .ok (.ireturn, 1) := by decide +kernel
theorem dX1_isSnorer_0 : decode cX1_isSnorer 0 = .ok (.aload_n 0, 1) := by decide +kernel
theorem dX1_isSnorer_1 : decode cX1_isSnorer 1 = .ok (.getfield 27, 3) := by decide +kernel
theorem dX1_isSnorer_4 : decode cX1_isSnorer 4 = .ok (.iload_n 1, 1) := by decide +kernel
theorem dX1_isSnorer_5 : decode cX1_isSnorer 5 = .ok (.iaload, 1) := by decide +kernel
theorem dX1_isSnorer_6 : decode cX1_isSnorer 6 = .ok (.iconst 1, 1) := by decide +kernel
theorem dX1_isSnorer_7 : decode cX1_isSnorer 7 = .ok (.iand, 1) := by decide +kernel
theorem dX1_isSnorer_8 : decode cX1_isSnorer 8 = .ok (.ifCond .eq 7, 3) := by decide +kernel
theorem dX1_isSnorer_11 : decode cX1_isSnorer 11 = .ok (.iconst 1, 1) := by decide +kernel
theorem dX1_isSnorer_12 : decode cX1_isSnorer 12 = .ok (.goto 4, 3) := by decide +kernel
theorem dX1_isSnorer_15 : decode cX1_isSnorer 15 = .ok (.iconst 0, 1) := by decide +kernel
theorem dX1_isSnorer_16 : decode cX1_isSnorer 16 = .ok (.ireturn, 1) := by decide +kernel
theorem dX1_isTaken_0 : decode cX1_isTaken 0 = .ok (.iconst 0, 1) := by decide +kernel
theorem dX1_isTaken_1 : decode cX1_isTaken 1 = .ok (.istore_n 2, 1) := by decide +kernel
theorem dX1_isTaken_2 : decode cX1_isTaken 2 = .ok (.iload_n 2, 1) := by decide +kernel
theorem dX1_isTaken_3 : decode cX1_isTaken 3 = .ok (.aload_n 0, 1) := by decide +kernel
theorem dX1_isTaken_4 : decode cX1_isTaken 4 = .ok (.getfield 59, 3) := by decide +kernel
theorem dX1_isTaken_7 : decode cX1_isTaken 7 = .ok (.if_icmp .ge 21, 3) := by decide +kernel
theorem dX1_isTaken_10 : decode cX1_isTaken 10 = .ok (.aload_n 0, 1) := by decide +kernel
theorem dX1_isTaken_11 : decode cX1_isTaken 11 = .ok (.getfield 9, 3) := by decide +kernel
theorem dX1_isTaken_14 : decode cX1_isTaken 14 = .ok (.iload_n 2, 1) := by decide +kernel
theorem dX1_isTaken_15 : decode cX1_isTaken 15 = .ok (.iaload, 1) := by decide +kernel
theorem dX1_isTaken_16 : decode cX1_isTaken 16 = .ok (.iload_n 1, 1) := by decide +kernel
theorem dX1_isTaken_17 : decode cX1_isTaken 17 = .ok (.if_icmp .ne 5, 3) := by decide +kernel
theorem dX1_isTaken_20 : decode cX1_isTaken 20 = .ok (.iconst 1, 1) := by decide +kernel
theorem dX1_isTaken_21 : decode cX1_isTaken 21 = .ok (.ireturn, 1) := by decide +kernel
theorem dX1_isTaken_22 : decode cX1_isTaken 22 = .ok (.iinc 2 1, 3) := by decide +kernel
theorem dX1_isTaken_25 : decode cX1_isTaken 25 = .ok (.goto (-23), 3) := by decide +kernel
theorem dX1_isTaken_28 : decode cX1_isTaken 28 = .ok (.iconst 0, 1) := by decide +kernel
theorem dX1_isTaken_29 : decode cX1_isTaken 29 = .ok (.istore_n 2, 1) := by decide +kernel
theorem dX1_isTaken_30 : decode cX1_isTaken 30 = .ok (.iload_n 2, 1) := by decide +kernel
theorem dX1_isTaken_31 : decode cX1_isTaken 31 = .ok (.aload_n 0, 1) := by decide +kernel
theorem dX1_isTaken_32 : decode cX1_isTaken 32 = .ok (.getfield 62, 3) := by decide +kernel
theorem dX1_isTaken_35 : decode cX1_isTaken 35 = .ok (.if_icmp .ge 21, 3) := by decide +kernel
theorem dX1_isTaken_38 : decode cX1_isTaken 38 = .ok (.aload_n 0, 1) := by decide +kernel
theorem dX1_isTaken_39 : decode cX1_isTaken 39 = .ok (.getfield 30, 3) := by decide +kernel
theorem dX1_isTaken_42 : decode cX1_isTaken 42 = .ok (.iload_n 2, 1) := by decide +kernel
theorem dX1_isTaken_43 : decode cX1_isTaken 43 = .ok (.iaload, 1) := by decide +kernel
theorem dX1_isTaken_44 : decode cX1_isTaken 44 = .ok (.iload_n 1, 1) := by decide +kernel
theorem dX1_isTaken_45 : decode cX1_isTaken 45 = .ok (.if_icmp .ne 5, 3) := by decide +kernel
theorem dX1_isTaken_48 : decode cX1_isTaken 48 = .ok (.iconst 1, 1) := by decide +kernel
theorem dX1_isTaken_49 : decode cX1_isTaken 49 = .ok (.ireturn, 1) := by decide +kernel
theorem dX1_isTaken_50 : decode cX1_isTaken 50 = .ok (.iinc 2 1, 3) := by decide +kernel
theorem dX1_isTaken_53 : decode cX1_isTaken 53 = .ok (.goto (-23), 3) := by decide +kernel
theorem dX1_isTaken_56 : decode cX1_isTaken 56 = .ok (.iconst 0, 1) := by decide +kernel
theorem dX1_isTaken_57 : decode cX1_isTaken 57 = .ok (.ireturn, 1) := by decide +kernel
theorem dX2_beginSum_0 : decode cX2_beginSum 0 = .ok (.aload_n 0, 1) := by decide +kernel
theorem dX2_beginSum_1 : decode cX2_beginSum 1 = .ok (.getfield 34, 3) := by decide +kernel
theorem dX2_beginSum_4 : decode cX2_beginSum 4 = .ok (.bipush 8, 2) := by decide +kernel
theorem dX2_beginSum_6 : decode cX2_beginSum 6 = .ok (.if_icmp .ge 26, 3) := by decide +kernel
theorem dX2_beginSum_9 : decode cX2_beginSum 9 = .ok (.aload_n 0, 1) := by decide +kernel
theorem dX2_beginSum_10 : decode cX2_beginSum 10 = .ok (.getfield 15, 3) := by decide +kernel
theorem dX2_beginSum_13 : decode cX2_beginSum 13 = .ok (.aload_n 0, 1) := by decide +kernel
theorem dX2_beginSum_14 : decode cX2_beginSum 14 = .ok (.getfield 34, 3) := by decide +kernel
theorem dX2_beginSum_17 : decode cX2_beginSum 17 = .ok (.iload_n 1, 1) := by decide +kernel
theorem dX2_beginSum_18 : decode cX2_beginSum 18 = .ok (.bastore, 1) := by decide +kernel
theorem dX2_beginSum_19 : decode cX2_beginSum 19 = .ok (.aload_n 0, 1) := by decide +kernel
theorem dX2_beginSum_20 : decode cX2_beginSum 20 = .ok (.getfield 19, 3) := by decide +kernel
theorem dX2_beginSum_23 : decode cX2_beginSum 23 = .ok (.aload_n 0, 1) := by decide +kernel
theorem dX2_beginSum_24 : decode cX2_beginSum 24 = .ok (.getfield 34, 3) := by decide +kernel
theorem dX2_beginSum_27 : decode cX2_beginSum 27 = .ok (.aload_n 0, 1) := by decide +kernel
theorem dX2_beginSum_28 : decode cX2_beginSum 28 = .ok (.getfield 38, 3) := by decide +kernel
theorem dX2_beginSum_31 : decode cX2_beginSum 31 = .ok (.iastore, 1) := by decide +kernel
theorem dX2_beginSum_32 : decode cX2_beginSum 32 = .ok (.return_, 1) := by decide +kernel
theorem dX2_beginTest_0 : decode cX2_beginTest 0 = .ok (.aload_n 0, 1) := by decide +kernel
theorem dX2_beginTest_1 : decode cX2_beginTest 1 = .ok (.getfield 34, 3) := by decide +kernel
theorem dX2_beginTest_4 : decode cX2_beginTest 4 = .ok (.bipush 8, 2) := by decide +kernel
theorem dX2_beginTest_6 : decode cX2_beginTest 6 = .ok (.if_icmp .ge 16, 3) := by decide +kernel
theorem dX2_beginTest_9 : decode cX2_beginTest 9 = .ok (.aload_n 0, 1) := by decide +kernel
theorem dX2_beginTest_10 : decode cX2_beginTest 10 = .ok (.getfield 22, 3) := by decide +kernel
theorem dX2_beginTest_13 : decode cX2_beginTest 13 = .ok (.aload_n 0, 1) := by decide +kernel
theorem dX2_beginTest_14 : decode cX2_beginTest 14 = .ok (.getfield 34, 3) := by decide +kernel
theorem dX2_beginTest_17 : decode cX2_beginTest 17 = .ok (.aload_n 0, 1) := by decide +kernel
theorem dX2_beginTest_18 : decode cX2_beginTest 18 = .ok (.getfield 38, 3) := by decide +kernel
theorem dX2_beginTest_21 : decode cX2_beginTest 21 = .ok (.iastore, 1) := by decide +kernel
theorem dX2_beginTest_22 : decode cX2_beginTest 22 = .ok (.return_, 1) := by decide +kernel
theorem dX2_close_0 : decode cX2_close 0 = .ok (.aload_n 0, 1) := by decide +kernel
theorem dX2_close_1 : decode cX2_close 1 = .ok (.getfield 34, 3) := by decide +kernel
theorem dX2_close_4 : decode cX2_close 4 = .ok (.bipush 8, 2) := by decide +kernel
theorem dX2_close_6 : decode cX2_close 6 = .ok (.if_icmp .ge 26, 3) := by decide +kernel
theorem dX2_close_9 : decode cX2_close 9 = .ok (.aload_n 0, 1) := by decide +kernel
theorem dX2_close_10 : decode cX2_close 10 = .ok (.getfield 25, 3) := by decide +kernel
theorem dX2_close_13 : decode cX2_close 13 = .ok (.aload_n 0, 1) := by decide +kernel
theorem dX2_close_14 : decode cX2_close 14 = .ok (.getfield 34, 3) := by decide +kernel
theorem dX2_close_17 : decode cX2_close 17 = .ok (.aload_n 0, 1) := by decide +kernel
theorem dX2_close_18 : decode cX2_close 18 = .ok (.getfield 38, 3) := by decide +kernel
theorem dX2_close_21 : decode cX2_close 21 = .ok (.iastore, 1) := by decide +kernel
theorem dX2_close_22 : decode cX2_close 22 = .ok (.aload_n 0, 1) := by decide +kernel
theorem dX2_close_23 : decode cX2_close 23 = .ok (.dup, 1) := by decide +kernel
theorem dX2_close_24 : decode cX2_close 24 = .ok (.getfield 34, 3) := by decide +kernel
theorem dX2_close_27 : decode cX2_close 27 = .ok (.iconst 1, 1) := by decide +kernel
theorem dX2_close_28 : decode cX2_close 28 = .ok (.iadd, 1) := by decide +kernel
theorem dX2_close_29 : decode cX2_close 29 = .ok (.putfield 34, 3) := by decide +kernel
theorem dX2_close_32 : decode cX2_close 32 = .ok (.return_, 1) := by decide +kernel
theorem dX2_empty_0 : decode cX2_empty 0 = .ok (.aload_n 0, 1) := by decide +kernel
theorem dX2_empty_1 : decode cX2_empty 1 = .ok (.iconst 0, 1) := by decide +kernel
theorem dX2_empty_2 : decode cX2_empty 2 = .ok (.putfield 34, 3) := by decide +kernel
theorem dX2_empty_5 : decode cX2_empty 5 = .ok (.aload_n 0, 1) := by decide +kernel
theorem dX2_empty_6 : decode cX2_empty 6 = .ok (.iconst 0, 1) := by decide +kernel
theorem dX2_empty_7 : decode cX2_empty 7 = .ok (.putfield 38, 3) := by decide +kernel
theorem dX2_empty_10 : decode cX2_empty 10 = .ok (.return_, 1) := by decide +kernel
theorem dX2_first_0 : decode cX2_first 0 = .ok (.iload_n 2, 1) := by decide +kernel
theorem dX2_first_1 : decode cX2_first 1 = .ok (.istore 4, 2) := by decide +kernel
theorem dX2_first_3 : decode cX2_first 3 = .ok (.iconst 0, 1) := by decide +kernel
theorem dX2_first_4 : decode cX2_first 4 = .ok (.istore 5, 2) := by decide +kernel
theorem dX2_first_6 : decode cX2_first 6 = .ok (.iload 5, 2) := by decide +kernel
theorem dX2_first_8 : decode cX2_first 8 = .ok (.aload_n 0, 1) := by decide +kernel
theorem dX2_first_9 : decode cX2_first 9 = .ok (.getfield 34, 3) := by decide +kernel
theorem dX2_first_12 : decode cX2_first 12 = .ok (.if_icmp .ge 64, 3) := by decide +kernel
theorem dX2_first_15 : decode cX2_first 15 = .ok (.aload_n 0, 1) := by decide +kernel
theorem dX2_first_16 : decode cX2_first 16 = .ok (.getfield 15, 3) := by decide +kernel
theorem dX2_first_19 : decode cX2_first 19 = .ok (.iload 5, 2) := by decide +kernel
theorem dX2_first_21 : decode cX2_first 21 = .ok (.baload, 1) := by decide +kernel
theorem dX2_first_22 : decode cX2_first 22 = .ok (.iload_n 1, 1) := by decide +kernel
theorem dX2_first_23 : decode cX2_first 23 = .ok (.if_icmp .ne 47, 3) := by decide +kernel
theorem dX2_first_26 : decode cX2_first 26 = .ok (.aload_n 0, 1) := by decide +kernel
theorem dX2_first_27 : decode cX2_first 27 = .ok (.aload_n 0, 1) := by decide +kernel
theorem dX2_first_28 : decode cX2_first 28 = .ok (.getfield 22, 3) := by decide +kernel
theorem dX2_first_31 : decode cX2_first 31 = .ok (.iload 5, 2) := by decide +kernel
theorem dX2_first_33 : decode cX2_first 33 = .ok (.iaload, 1) := by decide +kernel
theorem dX2_first_34 : decode cX2_first 34 = .ok (.aload_n 0, 1) := by decide +kernel
theorem dX2_first_35 : decode cX2_first 35 = .ok (.getfield 25, 3) := by decide +kernel
theorem dX2_first_38 : decode cX2_first 38 = .ok (.iload 5, 2) := by decide +kernel
theorem dX2_first_40 : decode cX2_first 40 = .ok (.iaload, 1) := by decide +kernel
theorem dX2_first_41 : decode cX2_first 41 = .ok (.invokevirtual 41, 3) := by decide +kernel
theorem dX2_first_44 : decode cX2_first 44 = .ok (.ifCond .eq 26, 3) := by decide +kernel
theorem dX2_first_47 : decode cX2_first 47 = .ok (.aload_n 0, 1) := by decide +kernel
theorem dX2_first_48 : decode cX2_first 48 = .ok (.aload_n 0, 1) := by decide +kernel
theorem dX2_first_49 : decode cX2_first 49 = .ok (.getfield 19, 3) := by decide +kernel
theorem dX2_first_52 : decode cX2_first 52 = .ok (.iload 5, 2) := by decide +kernel
theorem dX2_first_54 : decode cX2_first 54 = .ok (.iaload, 1) := by decide +kernel
theorem dX2_first_55 : decode cX2_first 55 = .ok (.aload_n 0, 1) := by decide +kernel
theorem dX2_first_56 : decode cX2_first 56 = .ok (.getfield 22, 3) := by decide +kernel
theorem dX2_first_59 : decode cX2_first 59 = .ok (.iload 5, 2) := by decide +kernel
theorem dX2_first_61 : decode cX2_first 61 = .ok (.iaload, 1) := by decide +kernel
theorem dX2_first_62 : decode cX2_first 62 = .ok (.invokevirtual 41, 3) := by decide +kernel
theorem dX2_first_65 : decode cX2_first 65 = .ok (.istore 4, 2) := by decide +kernel
theorem dX2_first_67 : decode cX2_first 67 = .ok (.goto 9, 3) := by decide +kernel
theorem dX2_first_70 : decode cX2_first 70 = .ok (.iinc 5 1, 3) := by decide +kernel
theorem dX2_first_73 : decode cX2_first 73 = .ok (.goto (-67), 3) := by decide +kernel
theorem dX2_first_76 : decode cX2_first 76 = .ok (.iconst 0, 1) := by decide +kernel
theorem dX2_first_77 : decode cX2_first 77 = .ok (.iload_n 3, 1) := by decide +kernel
theorem dX2_first_78 : decode cX2_first 78 = .ok (.iload 4, 2) := by decide +kernel
theorem dX2_first_80 : decode cX2_first 80 = .ok (.invokestatic 45, 3) := by decide +kernel
theorem dX2_first_83 : decode cX2_first 83 = .ok (.invokestatic 50, 3) := by decide +kernel
theorem dX2_first_86 : decode cX2_first 86 = .ok (.ireturn, 1) := by decide +kernel
theorem dX2_joined_0 : decode cX2_joined 0 = .ok (.iload_n 2, 1) := by decide +kernel
theorem dX2_joined_1 : decode cX2_joined 1 = .ok (.ifCond .ne 7, 3) := by decide +kernel
theorem dX2_joined_4 : decode cX2_joined 4 = .ok (.iconst 0, 1) := by decide +kernel
theorem dX2_joined_5 : decode cX2_joined 5 = .ok (.goto 6, 3) := by decide +kernel
theorem dX2_joined_8 : decode cX2_joined 8 = .ok (.iload_n 1, 1) := by decide +kernel
theorem dX2_joined_9 : decode cX2_joined 9 = .ok (.iload_n 2, 1) := by decide +kernel
theorem dX2_joined_10 : decode cX2_joined 10 = .ok (.irem, 1) := by decide +kernel
theorem dX2_joined_11 : decode cX2_joined 11 = .ok (.istore_n 3, 1) := by decide +kernel
theorem dX2_joined_12 : decode cX2_joined 12 = .ok (.iload_n 3, 1) := by decide +kernel
theorem dX2_joined_13 : decode cX2_joined 13 = .ok (.ifCond .eq 28, 3) := by decide +kernel
theorem dX2_joined_16 : decode cX2_joined 16 = .ok (.iload_n 3, 1) := by decide +kernel
theorem dX2_joined_17 : decode cX2_joined 17 = .ok (.ifCond .ge 7, 3) := by decide +kernel
theorem dX2_joined_20 : decode cX2_joined 20 = .ok (.iconst 1, 1) := by decide +kernel
theorem dX2_joined_21 : decode cX2_joined 21 = .ok (.goto 4, 3) := by decide +kernel
theorem dX2_joined_24 : decode cX2_joined 24 = .ok (.iconst 0, 1) := by decide +kernel
theorem dX2_joined_25 : decode cX2_joined 25 = .ok (.iload_n 2, 1) := by decide +kernel
theorem dX2_joined_26 : decode cX2_joined 26 = .ok (.ifCond .ge 7, 3) := by decide +kernel
theorem dX2_joined_29 : decode cX2_joined 29 = .ok (.iconst 1, 1) := by decide +kernel
theorem dX2_joined_30 : decode cX2_joined 30 = .ok (.goto 4, 3) := by decide +kernel
theorem dX2_joined_33 : decode cX2_joined 33 = .ok (.iconst 0, 1) := by decide +kernel
theorem dX2_joined_34 : decode cX2_joined 34 = .ok (.if_icmp .eq 7, 3) := by decide +kernel
theorem dX2_joined_37 : decode cX2_joined 37 = .ok (.iload_n 3, 1) := by decide +kernel
theorem dX2_joined_38 : decode cX2_joined 38 = .ok (.iload_n 2, 1) := by decide +kernel
theorem dX2_joined_39 : decode cX2_joined 39 = .ok (.iadd, 1) := by decide +kernel
theorem dX2_joined_40 : decode cX2_joined 40 = .ok (.istore_n 3, 1) := by decide +kernel
theorem dX2_joined_41 : decode cX2_joined 41 = .ok (.iload_n 0, 1) := by decide +kernel
theorem dX2_joined_42 : decode cX2_joined 42 = .ok (.tableswitch 137 (-20) (-10) #[126, 115, 111, 107, 96, 85, 74, 137, 137, 72, 58], 58) := by decide +kernel
theorem dX2_joined_100 : decode cX2_joined 100 = .ok (.iload_n 2, 1) := by decide +kernel
theorem dX2_joined_101 : decode cX2_joined 101 = .ok (.ifCond .ne 7, 3) := by decide +kernel
theorem dX2_joined_104 : decode cX2_joined 104 = .ok (.iconst 0, 1) := by decide +kernel
theorem dX2_joined_105 : decode cX2_joined 105 = .ok (.goto 8, 3) := by decide +kernel
theorem dX2_joined_108 : decode cX2_joined 108 = .ok (.iload_n 1, 1) := by decide +kernel
theorem dX2_joined_109 : decode cX2_joined 109 = .ok (.iload_n 3, 1) := by decide +kernel
theorem dX2_joined_110 : decode cX2_joined 110 = .ok (.isub, 1) := by decide +kernel
theorem dX2_joined_111 : decode cX2_joined 111 = .ok (.iload_n 2, 1) := by decide +kernel
theorem dX2_joined_112 : decode cX2_joined 112 = .ok (.idiv, 1) := by decide +kernel
theorem dX2_joined_113 : decode cX2_joined 113 = .ok (.ireturn, 1) := by decide +kernel
theorem dX2_joined_114 : decode cX2_joined 114 = .ok (.iload_n 3, 1) := by decide +kernel
theorem dX2_joined_115 : decode cX2_joined 115 = .ok (.ireturn, 1) := by decide +kernel
theorem dX2_joined_116 : decode cX2_joined 116 = .ok (.iload_n 1, 1) := by decide +kernel
theorem dX2_joined_117 : decode cX2_joined 117 = .ok (.iload_n 2, 1) := by decide +kernel
theorem dX2_joined_118 : decode cX2_joined 118 = .ok (.if_icmp .ge 7, 3) := by decide +kernel
theorem dX2_joined_121 : decode cX2_joined 121 = .ok (.iconst 1, 1) := by decide +kernel
theorem dX2_joined_122 : decode cX2_joined 122 = .ok (.goto 4, 3) := by decide +kernel
theorem dX2_joined_125 : decode cX2_joined 125 = .ok (.iconst 0, 1) := by decide +kernel
theorem dX2_joined_126 : decode cX2_joined 126 = .ok (.ireturn, 1) := by decide +kernel
theorem dX2_joined_127 : decode cX2_joined 127 = .ok (.iload_n 1, 1) := by decide +kernel
theorem dX2_joined_128 : decode cX2_joined 128 = .ok (.iload_n 2, 1) := by decide +kernel
theorem dX2_joined_129 : decode cX2_joined 129 = .ok (.if_icmp .le 7, 3) := by decide +kernel
theorem dX2_joined_132 : decode cX2_joined 132 = .ok (.iconst 1, 1) := by decide +kernel
theorem dX2_joined_133 : decode cX2_joined 133 = .ok (.goto 4, 3) := by decide +kernel
theorem dX2_joined_136 : decode cX2_joined 136 = .ok (.iconst 0, 1) := by decide +kernel
theorem dX2_joined_137 : decode cX2_joined 137 = .ok (.ireturn, 1) := by decide +kernel
theorem dX2_joined_138 : decode cX2_joined 138 = .ok (.iload_n 1, 1) := by decide +kernel
theorem dX2_joined_139 : decode cX2_joined 139 = .ok (.iload_n 2, 1) := by decide +kernel
theorem dX2_joined_140 : decode cX2_joined 140 = .ok (.if_icmp .ne 7, 3) := by decide +kernel
theorem dX2_joined_143 : decode cX2_joined 143 = .ok (.iconst 1, 1) := by decide +kernel
theorem dX2_joined_144 : decode cX2_joined 144 = .ok (.goto 4, 3) := by decide +kernel
theorem dX2_joined_147 : decode cX2_joined 147 = .ok (.iconst 0, 1) := by decide +kernel
theorem dX2_joined_148 : decode cX2_joined 148 = .ok (.ireturn, 1) := by decide +kernel
theorem dX2_joined_149 : decode cX2_joined 149 = .ok (.iload_n 1, 1) := by decide +kernel
theorem dX2_joined_150 : decode cX2_joined 150 = .ok (.iload_n 2, 1) := by decide +kernel
theorem dX2_joined_151 : decode cX2_joined 151 = .ok (.iand, 1) := by decide +kernel
theorem dX2_joined_152 : decode cX2_joined 152 = .ok (.ireturn, 1) := by decide +kernel
theorem dX2_joined_153 : decode cX2_joined 153 = .ok (.iload_n 1, 1) := by decide +kernel
theorem dX2_joined_154 : decode cX2_joined 154 = .ok (.iload_n 2, 1) := by decide +kernel
theorem dX2_joined_155 : decode cX2_joined 155 = .ok (.ior, 1) := by decide +kernel
theorem dX2_joined_156 : decode cX2_joined 156 = .ok (.ireturn, 1) := by decide +kernel
theorem dX2_joined_157 : decode cX2_joined 157 = .ok (.iload_n 1, 1) := by decide +kernel
theorem dX2_joined_158 : decode cX2_joined 158 = .ok (.iload_n 2, 1) := by decide +kernel
theorem dX2_joined_159 : decode cX2_joined 159 = .ok (.if_icmp .ge 7, 3) := by decide +kernel
theorem dX2_joined_162 : decode cX2_joined 162 = .ok (.iload_n 1, 1) := by decide +kernel
theorem dX2_joined_163 : decode cX2_joined 163 = .ok (.goto 4, 3) := by decide +kernel
theorem dX2_joined_166 : decode cX2_joined 166 = .ok (.iload_n 2, 1) := by decide +kernel
theorem dX2_joined_167 : decode cX2_joined 167 = .ok (.ireturn, 1) := by decide +kernel
theorem dX2_joined_168 : decode cX2_joined 168 = .ok (.iload_n 1, 1) := by decide +kernel
theorem dX2_joined_169 : decode cX2_joined 169 = .ok (.iload_n 2, 1) := by decide +kernel
theorem dX2_joined_170 : decode cX2_joined 170 = .ok (.if_icmp .le 7, 3) := by decide +kernel
theorem dX2_joined_173 : decode cX2_joined 173 = .ok (.iload_n 1, 1) := by decide +kernel
theorem dX2_joined_174 : decode cX2_joined 174 = .ok (.goto 4, 3) := by decide +kernel
theorem dX2_joined_177 : decode cX2_joined 177 = .ok (.iload_n 2, 1) := by decide +kernel
theorem dX2_joined_178 : decode cX2_joined 178 = .ok (.ireturn, 1) := by decide +kernel
theorem dX2_joined_179 : decode cX2_joined 179 = .ok (.iload_n 0, 1) := by decide +kernel
theorem dX2_joined_180 : decode cX2_joined 180 = .ok (.bipush (-9), 2) := by decide +kernel
theorem dX2_joined_182 : decode cX2_joined 182 = .ok (.if_icmp .ne 11, 3) := by decide +kernel
theorem dX2_joined_185 : decode cX2_joined 185 = .ok (.iload_n 1, 1) := by decide +kernel
theorem dX2_joined_186 : decode cX2_joined 186 = .ok (.i2l, 1) := by decide +kernel
theorem dX2_joined_187 : decode cX2_joined 187 = .ok (.iload_n 2, 1) := by decide +kernel
theorem dX2_joined_188 : decode cX2_joined 188 = .ok (.i2l, 1) := by decide +kernel
theorem dX2_joined_189 : decode cX2_joined 189 = .ok (.lmul, 1) := by decide +kernel
theorem dX2_joined_190 : decode cX2_joined 190 = .ok (.goto 22, 3) := by decide +kernel
theorem dX2_joined_193 : decode cX2_joined 193 = .ok (.iload_n 0, 1) := by decide +kernel
theorem dX2_joined_194 : decode cX2_joined 194 = .ok (.bipush (-12), 2) := by decide +kernel
theorem dX2_joined_196 : decode cX2_joined 196 = .ok (.if_icmp .ne 11, 3) := by decide +kernel
theorem dX2_joined_199 : decode cX2_joined 199 = .ok (.iload_n 1, 1) := by decide +kernel
theorem dX2_joined_200 : decode cX2_joined 200 = .ok (.i2l, 1) := by decide +kernel
theorem dX2_joined_201 : decode cX2_joined 201 = .ok (.iload_n 2, 1) := by decide +kernel
theorem dX2_joined_202 : decode cX2_joined 202 = .ok (.i2l, 1) := by decide +kernel
theorem dX2_joined_203 : decode cX2_joined 203 = .ok (.ladd, 1) := by decide +kernel
theorem dX2_joined_204 : decode cX2_joined 204 = .ok (.goto 8, 3) := by decide +kernel
theorem dX2_joined_207 : decode cX2_joined 207 = .ok (.iload_n 1, 1) := by decide +kernel
theorem dX2_joined_208 : decode cX2_joined 208 = .ok (.i2l, 1) := by decide +kernel
theorem dX2_joined_209 : decode cX2_joined 209 = .ok (.iload_n 2, 1) := by decide +kernel
theorem dX2_joined_210 : decode cX2_joined 210 = .ok (.i2l, 1) := by decide +kernel
theorem dX2_joined_211 : decode cX2_joined 211 = .ok (.lsub, 1) := by decide +kernel
theorem dX2_joined_212 : decode cX2_joined 212 = .ok (.lstore 4, 2) := by decide +kernel
theorem dX2_joined_214 : decode cX2_joined 214 = .ok (.lload 4, 2) := by decide +kernel
theorem dX2_joined_216 : decode cX2_joined 216 = .ok (.ldc2_w 57, 3) := by decide +kernel
theorem dX2_joined_219 : decode cX2_joined 219 = .ok (.lcmp, 1) := by decide +kernel
theorem dX2_joined_220 : decode cX2_joined 220 = .ok (.ifCond .le 8, 3) := by decide +kernel
theorem dX2_joined_223 : decode cX2_joined 223 = .ok (.ldc 59, 2) := by decide +kernel
theorem dX2_joined_225 : decode cX2_joined 225 = .ok (.goto 20, 3) := by decide +kernel
theorem dX2_joined_228 : decode cX2_joined 228 = .ok (.lload 4, 2) := by decide +kernel
theorem dX2_joined_230 : decode cX2_joined 230 = .ok (.ldc2_w 60, 3) := by decide +kernel
theorem dX2_joined_233 : decode cX2_joined 233 = .ok (.lcmp, 1) := by decide +kernel
theorem dX2_joined_234 : decode cX2_joined 234 = .ok (.ifCond .ge 8, 3) := by decide +kernel
theorem dX2_joined_237 : decode cX2_joined 237 = .ok (.ldc 62, 2) := by decide +kernel
theorem dX2_joined_239 : decode cX2_joined 239 = .ok (.goto 6, 3) := by decide +kernel
theorem dX2_joined_242 : decode cX2_joined 242 = .ok (.lload 4, 2) := by decide +kernel
theorem dX2_joined_244 : decode cX2_joined 244 = .ok (.l2i, 1) := by decide +kernel
theorem dX2_joined_245 : decode cX2_joined 245 = .ok (.ireturn, 1) := by decide +kernel
theorem dX2_put_0 : decode cX2_put 0 = .ok (.aload_n 0, 1) := by decide +kernel
theorem dX2_put_1 : decode cX2_put 1 = .ok (.getfield 38, 3) := by decide +kernel
theorem dX2_put_4 : decode cX2_put 4 = .ok (.sipush 1600, 3) := by decide +kernel
theorem dX2_put_7 : decode cX2_put 7 = .ok (.if_icmp .ge 23, 3) := by decide +kernel
theorem dX2_put_10 : decode cX2_put 10 = .ok (.aload_n 0, 1) := by decide +kernel
theorem dX2_put_11 : decode cX2_put 11 = .ok (.getfield 9, 3) := by decide +kernel
theorem dX2_put_14 : decode cX2_put 14 = .ok (.aload_n 0, 1) := by decide +kernel
theorem dX2_put_15 : decode cX2_put 15 = .ok (.getfield 38, 3) := by decide +kernel
theorem dX2_put_18 : decode cX2_put 18 = .ok (.iload_n 1, 1) := by decide +kernel
theorem dX2_put_19 : decode cX2_put 19 = .ok (.iastore, 1) := by decide +kernel
theorem dX2_put_20 : decode cX2_put 20 = .ok (.aload_n 0, 1) := by decide +kernel
theorem dX2_put_21 : decode cX2_put 21 = .ok (.dup, 1) := by decide +kernel
theorem dX2_put_22 : decode cX2_put 22 = .ok (.getfield 38, 3) := by decide +kernel
theorem dX2_put_25 : decode cX2_put 25 = .ok (.iconst 1, 1) := by decide +kernel
theorem dX2_put_26 : decode cX2_put 26 = .ok (.iadd, 1) := by decide +kernel
theorem dX2_put_27 : decode cX2_put 27 = .ok (.putfield 38, 3) := by decide +kernel
theorem dX2_put_30 : decode cX2_put 30 = .ok (.return_, 1) := by decide +kernel
theorem dX2_run_0 : decode cX2_run 0 = .ok (.iconst 0, 1) := by decide +kernel
theorem dX2_run_1 : decode cX2_run 1 = .ok (.istore_n 3, 1) := by decide +kernel
theorem dX2_run_2 : decode cX2_run 2 = .ok (.iload_n 1, 1) := by decide +kernel
theorem dX2_run_3 : decode cX2_run 3 = .ok (.istore 4, 2) := by decide +kernel
theorem dX2_run_5 : decode cX2_run 5 = .ok (.iload 4, 2) := by decide +kernel
theorem dX2_run_7 : decode cX2_run 7 = .ok (.iload_n 2, 1) := by decide +kernel
theorem dX2_run_8 : decode cX2_run 8 = .ok (.if_icmp .ge 144, 3) := by decide +kernel
theorem dX2_run_11 : decode cX2_run 11 = .ok (.iload 4, 2) := by decide +kernel
theorem dX2_run_13 : decode cX2_run 13 = .ok (.sipush 1600, 3) := by decide +kernel
theorem dX2_run_16 : decode cX2_run 16 = .ok (.if_icmp .ge 136, 3) := by decide +kernel
theorem dX2_run_19 : decode cX2_run 19 = .ok (.aload_n 0, 1) := by decide +kernel
theorem dX2_run_20 : decode cX2_run 20 = .ok (.getfield 9, 3) := by decide +kernel
theorem dX2_run_23 : decode cX2_run 23 = .ok (.iload 4, 2) := by decide +kernel
theorem dX2_run_25 : decode cX2_run 25 = .ok (.iaload, 1) := by decide +kernel
theorem dX2_run_26 : decode cX2_run 26 = .ok (.istore 5, 2) := by decide +kernel
theorem dX2_run_28 : decode cX2_run 28 = .ok (.iload 5, 2) := by decide +kernel
theorem dX2_run_30 : decode cX2_run 30 = .ok (.bipush (-8), 2) := by decide +kernel
theorem dX2_run_32 : decode cX2_run 32 = .ok (.if_icmp .le 42, 3) := by decide +kernel
theorem dX2_run_35 : decode cX2_run 35 = .ok (.iload_n 3, 1) := by decide +kernel
theorem dX2_run_36 : decode cX2_run 36 = .ok (.bipush 64, 2) := by decide +kernel
theorem dX2_run_38 : decode cX2_run 38 = .ok (.if_icmp .lt 5, 3) := by decide +kernel
theorem dX2_run_41 : decode cX2_run 41 = .ok (.iconst 0, 1) := by decide +kernel
theorem dX2_run_42 : decode cX2_run 42 = .ok (.ireturn, 1) := by decide +kernel
theorem dX2_run_43 : decode cX2_run 43 = .ok (.aload_n 0, 1) := by decide +kernel
theorem dX2_run_44 : decode cX2_run 44 = .ok (.getfield 28, 3) := by decide +kernel
theorem dX2_run_47 : decode cX2_run 47 = .ok (.iload_n 3, 1) := by decide +kernel
theorem dX2_run_48 : decode cX2_run 48 = .ok (.iload 5, 2) := by decide +kernel
theorem dX2_run_50 : decode cX2_run 50 = .ok (.ifCond .lt 8, 3) := by decide +kernel
theorem dX2_run_53 : decode cX2_run 53 = .ok (.iload 5, 2) := by decide +kernel
theorem dX2_run_55 : decode cX2_run 55 = .ok (.goto 12, 3) := by decide +kernel
theorem dX2_run_58 : decode cX2_run 58 = .ok (.aload_n 0, 1) := by decide +kernel
theorem dX2_run_59 : decode cX2_run 59 = .ok (.getfield 31, 3) := by decide +kernel
theorem dX2_run_62 : decode cX2_run 62 = .ok (.iconst (-1), 1) := by decide +kernel
theorem dX2_run_63 : decode cX2_run 63 = .ok (.iload 5, 2) := by decide +kernel
theorem dX2_run_65 : decode cX2_run 65 = .ok (.isub, 1) := by decide +kernel
theorem dX2_run_66 : decode cX2_run 66 = .ok (.iaload, 1) := by decide +kernel
theorem dX2_run_67 : decode cX2_run 67 = .ok (.iastore, 1) := by decide +kernel
theorem dX2_run_68 : decode cX2_run 68 = .ok (.iinc 3 1, 3) := by decide +kernel
theorem dX2_run_71 : decode cX2_run 71 = .ok (.goto 75, 3) := by decide +kernel
theorem dX2_run_74 : decode cX2_run 74 = .ok (.iload 5, 2) := by decide +kernel
theorem dX2_run_76 : decode cX2_run 76 = .ok (.bipush (-8), 2) := by decide +kernel
theorem dX2_run_78 : decode cX2_run 78 = .ok (.if_icmp .ne 31, 3) := by decide +kernel
theorem dX2_run_81 : decode cX2_run 81 = .ok (.iload_n 3, 1) := by decide +kernel
theorem dX2_run_82 : decode cX2_run 82 = .ok (.iconst 1, 1) := by decide +kernel
theorem dX2_run_83 : decode cX2_run 83 = .ok (.if_icmp .ge 5, 3) := by decide +kernel
theorem dX2_run_86 : decode cX2_run 86 = .ok (.iconst 0, 1) := by decide +kernel
theorem dX2_run_87 : decode cX2_run 87 = .ok (.ireturn, 1) := by decide +kernel
theorem dX2_run_88 : decode cX2_run 88 = .ok (.aload_n 0, 1) := by decide +kernel
theorem dX2_run_89 : decode cX2_run 89 = .ok (.getfield 28, 3) := by decide +kernel
theorem dX2_run_92 : decode cX2_run 92 = .ok (.iload_n 3, 1) := by decide +kernel
theorem dX2_run_93 : decode cX2_run 93 = .ok (.iconst 1, 1) := by decide +kernel
theorem dX2_run_94 : decode cX2_run 94 = .ok (.isub, 1) := by decide +kernel
theorem dX2_run_95 : decode cX2_run 95 = .ok (.iconst 1, 1) := by decide +kernel
theorem dX2_run_96 : decode cX2_run 96 = .ok (.aload_n 0, 1) := by decide +kernel
theorem dX2_run_97 : decode cX2_run 97 = .ok (.getfield 28, 3) := by decide +kernel
theorem dX2_run_100 : decode cX2_run 100 = .ok (.iload_n 3, 1) := by decide +kernel
theorem dX2_run_101 : decode cX2_run 101 = .ok (.iconst 1, 1) := by decide +kernel
theorem dX2_run_102 : decode cX2_run 102 = .ok (.isub, 1) := by decide +kernel
theorem dX2_run_103 : decode cX2_run 103 = .ok (.iaload, 1) := by decide +kernel
theorem dX2_run_104 : decode cX2_run 104 = .ok (.isub, 1) := by decide +kernel
theorem dX2_run_105 : decode cX2_run 105 = .ok (.iastore, 1) := by decide +kernel
theorem dX2_run_106 : decode cX2_run 106 = .ok (.goto 40, 3) := by decide +kernel
theorem dX2_run_109 : decode cX2_run 109 = .ok (.iload_n 3, 1) := by decide +kernel
theorem dX2_run_110 : decode cX2_run 110 = .ok (.iconst 2, 1) := by decide +kernel
theorem dX2_run_111 : decode cX2_run 111 = .ok (.if_icmp .ge 5, 3) := by decide +kernel
theorem dX2_run_114 : decode cX2_run 114 = .ok (.iconst 0, 1) := by decide +kernel
theorem dX2_run_115 : decode cX2_run 115 = .ok (.ireturn, 1) := by decide +kernel
theorem dX2_run_116 : decode cX2_run 116 = .ok (.iinc 3 (-1), 3) := by decide +kernel
theorem dX2_run_119 : decode cX2_run 119 = .ok (.aload_n 0, 1) := by decide +kernel
theorem dX2_run_120 : decode cX2_run 120 = .ok (.getfield 28, 3) := by decide +kernel
theorem dX2_run_123 : decode cX2_run 123 = .ok (.iload_n 3, 1) := by decide +kernel
theorem dX2_run_124 : decode cX2_run 124 = .ok (.iconst 1, 1) := by decide +kernel
theorem dX2_run_125 : decode cX2_run 125 = .ok (.isub, 1) := by decide +kernel
theorem dX2_run_126 : decode cX2_run 126 = .ok (.iload 5, 2) := by decide +kernel
theorem dX2_run_128 : decode cX2_run 128 = .ok (.aload_n 0, 1) := by decide +kernel
theorem dX2_run_129 : decode cX2_run 129 = .ok (.getfield 28, 3) := by decide +kernel
theorem dX2_run_132 : decode cX2_run 132 = .ok (.iload_n 3, 1) := by decide +kernel
theorem dX2_run_133 : decode cX2_run 133 = .ok (.iconst 1, 1) := by decide +kernel
theorem dX2_run_134 : decode cX2_run 134 = .ok (.isub, 1) := by decide +kernel
theorem dX2_run_135 : decode cX2_run 135 = .ok (.iaload, 1) := by decide +kernel
theorem dX2_run_136 : decode cX2_run 136 = .ok (.aload_n 0, 1) := by decide +kernel
theorem dX2_run_137 : decode cX2_run 137 = .ok (.getfield 28, 3) := by decide +kernel
theorem dX2_run_140 : decode cX2_run 140 = .ok (.iload_n 3, 1) := by decide +kernel
theorem dX2_run_141 : decode cX2_run 141 = .ok (.iaload, 1) := by decide +kernel
theorem dX2_run_142 : decode cX2_run 142 = .ok (.invokestatic 53, 3) := by decide +kernel
theorem dX2_run_145 : decode cX2_run 145 = .ok (.iastore, 1) := by decide +kernel
theorem dX2_run_146 : decode cX2_run 146 = .ok (.iinc 4 1, 3) := by decide +kernel
theorem dX2_run_149 : decode cX2_run 149 = .ok (.goto (-144), 3) := by decide +kernel
theorem dX2_run_152 : decode cX2_run 152 = .ok (.iload_n 3, 1) := by decide +kernel
theorem dX2_run_153 : decode cX2_run 153 = .ok (.iconst 1, 1) := by decide +kernel
theorem dX2_run_154 : decode cX2_run 154 = .ok (.if_icmp .ge 7, 3) := by decide +kernel
theorem dX2_run_157 : decode cX2_run 157 = .ok (.iconst 0, 1) := by decide +kernel
theorem dX2_run_158 : decode cX2_run 158 = .ok (.goto 11, 3) := by decide +kernel
theorem dX2_run_161 : decode cX2_run 161 = .ok (.aload_n 0, 1) := by decide +kernel
theorem dX2_run_162 : decode cX2_run 162 = .ok (.getfield 28, 3) := by decide +kernel
theorem dX2_run_165 : decode cX2_run 165 = .ok (.iload_n 3, 1) := by decide +kernel
theorem dX2_run_166 : decode cX2_run 166 = .ok (.iconst 1, 1) := by decide +kernel
theorem dX2_run_167 : decode cX2_run 167 = .ok (.isub, 1) := by decide +kernel
theorem dX2_run_168 : decode cX2_run 168 = .ok (.iaload, 1) := by decide +kernel
theorem dX2_run_169 : decode cX2_run 169 = .ok (.ireturn, 1) := by decide +kernel
theorem dX3_begins_0 : decode cX3_begins 0 = .ok (.iload 5, 2) := by decide +kernel
theorem dX3_begins_2 : decode cX3_begins 2 = .ok (.ifCond .eq 17, 3) := by decide +kernel
theorem dX3_begins_5 : decode cX3_begins 5 = .ok (.aload_n 2, 1) := by decide +kernel
theorem dX3_begins_6 : decode cX3_begins 6 = .ok (.getfield 38, 3) := by decide +kernel
theorem dX3_begins_9 : decode cX3_begins 9 = .ok (.iload_n 3, 1) := by decide +kernel
theorem dX3_begins_10 : decode cX3_begins 10 = .ok (.iaload, 1) := by decide +kernel
theorem dX3_begins_11 : decode cX3_begins 11 = .ok (.iconst (-1), 1) := by decide +kernel
theorem dX3_begins_12 : decode cX3_begins 12 = .ok (.if_icmp .eq 7, 3) := by decide +kernel
theorem dX3_begins_15 : decode cX3_begins 15 = .ok (.iconst 1, 1) := by decide +kernel
theorem dX3_begins_16 : decode cX3_begins 16 = .ok (.goto 4, 3) := by decide +kernel
theorem dX3_begins_19 : decode cX3_begins 19 = .ok (.iconst 0, 1) := by decide +kernel
theorem dX3_begins_20 : decode cX3_begins 20 = .ok (.istore 6, 2) := by decide +kernel
theorem dX3_begins_22 : decode cX3_begins 22 = .ok (.iload 6, 2) := by decide +kernel
theorem dX3_begins_24 : decode cX3_begins 24 = .ok (.ifCond .eq 12, 3) := by decide +kernel
theorem dX3_begins_27 : decode cX3_begins 27 = .ok (.aload_n 2, 1) := by decide +kernel
theorem dX3_begins_28 : decode cX3_begins 28 = .ok (.getfield 41, 3) := by decide +kernel
theorem dX3_begins_31 : decode cX3_begins 31 = .ok (.iload_n 3, 1) := by decide +kernel
theorem dX3_begins_32 : decode cX3_begins 32 = .ok (.iaload, 1) := by decide +kernel
theorem dX3_begins_33 : decode cX3_begins 33 = .ok (.goto 7, 3) := by decide +kernel
theorem dX3_begins_36 : decode cX3_begins 36 = .ok (.aload_n 2, 1) := by decide +kernel
theorem dX3_begins_37 : decode cX3_begins 37 = .ok (.getfield 44, 3) := by decide +kernel
theorem dX3_begins_40 : decode cX3_begins 40 = .ok (.istore 7, 2) := by decide +kernel
theorem dX3_begins_42 : decode cX3_begins 42 = .ok (.iload 6, 2) := by decide +kernel
theorem dX3_begins_44 : decode cX3_begins 44 = .ok (.ifCond .eq 12, 3) := by decide +kernel
theorem dX3_begins_47 : decode cX3_begins 47 = .ok (.aload_n 2, 1) := by decide +kernel
theorem dX3_begins_48 : decode cX3_begins 48 = .ok (.getfield 38, 3) := by decide +kernel
theorem dX3_begins_51 : decode cX3_begins 51 = .ok (.iload_n 3, 1) := by decide +kernel
theorem dX3_begins_52 : decode cX3_begins 52 = .ok (.iaload, 1) := by decide +kernel
theorem dX3_begins_53 : decode cX3_begins 53 = .ok (.goto 4, 3) := by decide +kernel
theorem dX3_begins_56 : decode cX3_begins 56 = .ok (.iload_n 3, 1) := by decide +kernel
theorem dX3_begins_57 : decode cX3_begins 57 = .ok (.istore 8, 2) := by decide +kernel
theorem dX3_begins_59 : decode cX3_begins 59 = .ok (.aload_n 2, 1) := by decide +kernel
theorem dX3_begins_60 : decode cX3_begins 60 = .ok (.getfield 47, 3) := by decide +kernel
theorem dX3_begins_63 : decode cX3_begins 63 = .ok (.iload_n 3, 1) := by decide +kernel
theorem dX3_begins_64 : decode cX3_begins 64 = .ok (.iconst (-1), 1) := by decide +kernel
theorem dX3_begins_65 : decode cX3_begins 65 = .ok (.iastore, 1) := by decide +kernel
theorem dX3_begins_66 : decode cX3_begins 66 = .ok (.aload_n 2, 1) := by decide +kernel
theorem dX3_begins_67 : decode cX3_begins 67 = .ok (.getfield 34, 3) := by decide +kernel
theorem dX3_begins_70 : decode cX3_begins 70 = .ok (.iload_n 3, 1) := by decide +kernel
theorem dX3_begins_71 : decode cX3_begins 71 = .ok (.iload 4, 2) := by decide +kernel
theorem dX3_begins_73 : decode cX3_begins 73 = .ok (.iastore, 1) := by decide +kernel
theorem dX3_begins_74 : decode cX3_begins 74 = .ok (.aload_n 2, 1) := by decide +kernel
theorem dX3_begins_75 : decode cX3_begins 75 = .ok (.getfield 50, 3) := by decide +kernel
theorem dX3_begins_78 : decode cX3_begins 78 = .ok (.iload_n 3, 1) := by decide +kernel
theorem dX3_begins_79 : decode cX3_begins 79 = .ok (.aload_n 1, 1) := by decide +kernel
theorem dX3_begins_80 : decode cX3_begins 80 = .ok (.getfield 53, 3) := by decide +kernel
theorem dX3_begins_83 : decode cX3_begins 83 = .ok (.iload 4, 2) := by decide +kernel
theorem dX3_begins_85 : decode cX3_begins 85 = .ok (.iaload, 1) := by decide +kernel
theorem dX3_begins_86 : decode cX3_begins 86 = .ok (.iastore, 1) := by decide +kernel
theorem dX3_begins_87 : decode cX3_begins 87 = .ok (.aload_n 2, 1) := by decide +kernel
theorem dX3_begins_88 : decode cX3_begins 88 = .ok (.iload_n 3, 1) := by decide +kernel
theorem dX3_begins_89 : decode cX3_begins 89 = .ok (.iload 4, 2) := by decide +kernel
theorem dX3_begins_91 : decode cX3_begins 91 = .ok (.iload 7, 2) := by decide +kernel
theorem dX3_begins_93 : decode cX3_begins 93 = .ok (.iload 8, 2) := by decide +kernel
theorem dX3_begins_95 : decode cX3_begins 95 = .ok (.invokevirtual 56, 3) := by decide +kernel
theorem dX3_begins_98 : decode cX3_begins 98 = .ok (.aload_n 0, 1) := by decide +kernel
theorem dX3_begins_99 : decode cX3_begins 99 = .ok (.getfield 18, 3) := by decide +kernel
theorem dX3_begins_102 : decode cX3_begins 102 = .ok (.aload_n 1, 1) := by decide +kernel
theorem dX3_begins_103 : decode cX3_begins 103 = .ok (.aload_n 2, 1) := by decide +kernel
theorem dX3_begins_104 : decode cX3_begins 104 = .ok (.aload_n 2, 1) := by decide +kernel
theorem dX3_begins_105 : decode cX3_begins 105 = .ok (.iload_n 3, 1) := by decide +kernel
theorem dX3_begins_106 : decode cX3_begins 106 = .ok (.invokevirtual 60, 3) := by decide +kernel
theorem dX3_begins_109 : decode cX3_begins 109 = .ok (.aload_n 1, 1) := by decide +kernel
theorem dX3_begins_110 : decode cX3_begins 110 = .ok (.getfield 64, 3) := by decide +kernel
theorem dX3_begins_113 : decode cX3_begins 113 = .ok (.iload 4, 2) := by decide +kernel
theorem dX3_begins_115 : decode cX3_begins 115 = .ok (.iaload, 1) := by decide +kernel
theorem dX3_begins_116 : decode cX3_begins 116 = .ok (.invokevirtual 66, 3) := by decide +kernel
theorem dX3_begins_119 : decode cX3_begins 119 = .ok (.iconst 0, 1) := by decide +kernel
theorem dX3_begins_120 : decode cX3_begins 120 = .ok (.istore 9, 2) := by decide +kernel
theorem dX3_begins_122 : decode cX3_begins 122 = .ok (.iload 9, 2) := by decide +kernel
theorem dX3_begins_124 : decode cX3_begins 124 = .ok (.aload_n 2, 1) := by decide +kernel
theorem dX3_begins_125 : decode cX3_begins 125 = .ok (.getfield 70, 3) := by decide +kernel
theorem dX3_begins_128 : decode cX3_begins 128 = .ok (.if_icmp .ge 129, 3) := by decide +kernel
theorem dX3_begins_131 : decode cX3_begins 131 = .ok (.aload_n 0, 1) := by decide +kernel
theorem dX3_begins_132 : decode cX3_begins 132 = .ok (.getfield 18, 3) := by decide +kernel
theorem dX3_begins_135 : decode cX3_begins 135 = .ok (.getfield 73, 3) := by decide +kernel
theorem dX3_begins_138 : decode cX3_begins 138 = .ok (.iload 9, 2) := by decide +kernel
theorem dX3_begins_140 : decode cX3_begins 140 = .ok (.iaload, 1) := by decide +kernel
theorem dX3_begins_141 : decode cX3_begins 141 = .ok (.istore 10, 2) := by decide +kernel
theorem dX3_begins_143 : decode cX3_begins 143 = .ok (.aload_n 2, 1) := by decide +kernel
theorem dX3_begins_144 : decode cX3_begins 144 = .ok (.getfield 76, 3) := by decide +kernel
theorem dX3_begins_147 : decode cX3_begins 147 = .ok (.iload 9, 2) := by decide +kernel
theorem dX3_begins_149 : decode cX3_begins 149 = .ok (.iaload, 1) := by decide +kernel
theorem dX3_begins_150 : decode cX3_begins 150 = .ok (.istore 11, 2) := by decide +kernel
theorem dX3_begins_152 : decode cX3_begins 152 = .ok (.iload 10, 2) := by decide +kernel
theorem dX3_begins_154 : decode cX3_begins 154 = .ok (.ifCond .le 97, 3) := by decide +kernel
theorem dX3_begins_157 : decode cX3_begins 157 = .ok (.aload_n 2, 1) := by decide +kernel
theorem dX3_begins_158 : decode cX3_begins 158 = .ok (.iload 11, 2) := by decide +kernel
theorem dX3_begins_160 : decode cX3_begins 160 = .ok (.iload 10, 2) := by decide +kernel
theorem dX3_begins_162 : decode cX3_begins 162 = .ok (.invokevirtual 79, 3) := by decide +kernel
theorem dX3_begins_165 : decode cX3_begins 165 = .ok (.aload_n 0, 1) := by decide +kernel
theorem dX3_begins_166 : decode cX3_begins 166 = .ok (.getfield 18, 3) := by decide +kernel
theorem dX3_begins_169 : decode cX3_begins 169 = .ok (.getfield 83, 3) := by decide +kernel
theorem dX3_begins_172 : decode cX3_begins 172 = .ok (.iload 9, 2) := by decide +kernel
theorem dX3_begins_174 : decode cX3_begins 174 = .ok (.ishr, 1) := by decide +kernel
theorem dX3_begins_175 : decode cX3_begins 175 = .ok (.iconst 1, 1) := by decide +kernel
theorem dX3_begins_176 : decode cX3_begins 176 = .ok (.iand, 1) := by decide +kernel
theorem dX3_begins_177 : decode cX3_begins 177 = .ok (.iconst 1, 1) := by decide +kernel
theorem dX3_begins_178 : decode cX3_begins 178 = .ok (.if_icmp .ne 12, 3) := by decide +kernel
theorem dX3_begins_181 : decode cX3_begins 181 = .ok (.aload_n 2, 1) := by decide +kernel
theorem dX3_begins_182 : decode cX3_begins 182 = .ok (.iload 11, 2) := by decide +kernel
theorem dX3_begins_184 : decode cX3_begins 184 = .ok (.invokevirtual 86, 3) := by decide +kernel
theorem dX3_begins_187 : decode cX3_begins 187 = .ok (.goto 64, 3) := by decide +kernel
theorem dX3_begins_190 : decode cX3_begins 190 = .ok (.iload 10, 2) := by decide +kernel
theorem dX3_begins_192 : decode cX3_begins 192 = .ok (.aload_n 1, 1) := by decide +kernel
theorem dX3_begins_193 : decode cX3_begins 193 = .ok (.getfield 90, 3) := by decide +kernel
theorem dX3_begins_196 : decode cX3_begins 196 = .ok (.iload 4, 2) := by decide +kernel
theorem dX3_begins_198 : decode cX3_begins 198 = .ok (.iaload, 1) := by decide +kernel
theorem dX3_begins_199 : decode cX3_begins 199 = .ok (.if_icmp .lt 52, 3) := by decide +kernel
theorem dX3_begins_202 : decode cX3_begins 202 = .ok (.aload_n 2, 1) := by decide +kernel
theorem dX3_begins_203 : decode cX3_begins 203 = .ok (.getfield 47, 3) := by decide +kernel
theorem dX3_begins_206 : decode cX3_begins 206 = .ok (.iload 11, 2) := by decide +kernel
theorem dX3_begins_208 : decode cX3_begins 208 = .ok (.iaload, 1) := by decide +kernel
theorem dX3_begins_209 : decode cX3_begins 209 = .ok (.iconst (-1), 1) := by decide +kernel
theorem dX3_begins_210 : decode cX3_begins 210 = .ok (.if_icmp .ne 41, 3) := by decide +kernel
theorem dX3_begins_213 : decode cX3_begins 213 = .ok (.aload_n 0, 1) := by decide +kernel
theorem dX3_begins_214 : decode cX3_begins 214 = .ok (.aload_n 1, 1) := by decide +kernel
theorem dX3_begins_215 : decode cX3_begins 215 = .ok (.aload_n 2, 1) := by decide +kernel
theorem dX3_begins_216 : decode cX3_begins 216 = .ok (.iload 11, 2) := by decide +kernel
theorem dX3_begins_218 : decode cX3_begins 218 = .ok (.invokevirtual 93, 3) := by decide +kernel
theorem dX3_begins_221 : decode cX3_begins 221 = .ok (.ifCond .eq 30, 3) := by decide +kernel
theorem dX3_begins_224 : decode cX3_begins 224 = .ok (.aload_n 2, 1) := by decide +kernel
theorem dX3_begins_225 : decode cX3_begins 225 = .ok (.getfield 47, 3) := by decide +kernel
theorem dX3_begins_228 : decode cX3_begins 228 = .ok (.iload 11, 2) := by decide +kernel
theorem dX3_begins_230 : decode cX3_begins 230 = .ok (.iload 4, 2) := by decide +kernel
theorem dX3_begins_232 : decode cX3_begins 232 = .ok (.iastore, 1) := by decide +kernel
theorem dX3_begins_233 : decode cX3_begins 233 = .ok (.aload_n 2, 1) := by decide +kernel
theorem dX3_begins_234 : decode cX3_begins 234 = .ok (.getfield 41, 3) := by decide +kernel
theorem dX3_begins_237 : decode cX3_begins 237 = .ok (.iload 11, 2) := by decide +kernel
theorem dX3_begins_239 : decode cX3_begins 239 = .ok (.iload 7, 2) := by decide +kernel
theorem dX3_begins_241 : decode cX3_begins 241 = .ok (.iastore, 1) := by decide +kernel
theorem dX3_begins_242 : decode cX3_begins 242 = .ok (.aload_n 2, 1) := by decide +kernel
theorem dX3_begins_243 : decode cX3_begins 243 = .ok (.getfield 38, 3) := by decide +kernel
theorem dX3_begins_246 : decode cX3_begins 246 = .ok (.iload 11, 2) := by decide +kernel
theorem dX3_begins_248 : decode cX3_begins 248 = .ok (.iload 8, 2) := by decide +kernel
theorem dX3_begins_250 : decode cX3_begins 250 = .ok (.iastore, 1) := by decide +kernel
theorem dX3_begins_251 : decode cX3_begins 251 = .ok (.iinc 9 1, 3) := by decide +kernel
theorem dX3_begins_254 : decode cX3_begins 254 = .ok (.goto (-132), 3) := by decide +kernel
theorem dX3_begins_257 : decode cX3_begins 257 = .ok (.aload_n 0, 1) := by decide +kernel
theorem dX3_begins_258 : decode cX3_begins 258 = .ok (.getfield 18, 3) := by decide +kernel
theorem dX3_begins_261 : decode cX3_begins 261 = .ok (.getfield 83, 3) := by decide +kernel
theorem dX3_begins_264 : decode cX3_begins 264 = .ok (.invokestatic 97, 3) := by decide +kernel
theorem dX3_begins_267 : decode cX3_begins 267 = .ok (.ireturn, 1) := by decide +kernel
theorem dX3_canBegin_0 : decode cX3_canBegin 0 = .ok (.aload_n 2, 1) := by decide +kernel
theorem dX3_canBegin_1 : decode cX3_canBegin 1 = .ok (.getfield 22, 3) := by decide +kernel
theorem dX3_canBegin_4 : decode cX3_canBegin 4 = .ok (.iload_n 3, 1) := by decide +kernel
theorem dX3_canBegin_5 : decode cX3_canBegin 5 = .ok (.baload, 1) := by decide +kernel
theorem dX3_canBegin_6 : decode cX3_canBegin 6 = .ok (.ifCond .eq 25, 3) := by decide +kernel
theorem dX3_canBegin_9 : decode cX3_canBegin 9 = .ok (.aload_n 1, 1) := by decide +kernel
theorem dX3_canBegin_10 : decode cX3_canBegin 10 = .ok (.iload_n 3, 1) := by decide +kernel
theorem dX3_canBegin_11 : decode cX3_canBegin 11 = .ok (.invokevirtual 28, 3) := by decide +kernel
theorem dX3_canBegin_14 : decode cX3_canBegin 14 = .ok (.ifCond .ne 17, 3) := by decide +kernel
theorem dX3_canBegin_17 : decode cX3_canBegin 17 = .ok (.aload_n 2, 1) := by decide +kernel
theorem dX3_canBegin_18 : decode cX3_canBegin 18 = .ok (.getfield 34, 3) := by decide +kernel
theorem dX3_canBegin_21 : decode cX3_canBegin 21 = .ok (.iload_n 3, 1) := by decide +kernel
theorem dX3_canBegin_22 : decode cX3_canBegin 22 = .ok (.iaload, 1) := by decide +kernel
theorem dX3_canBegin_23 : decode cX3_canBegin 23 = .ok (.iconst (-1), 1) := by decide +kernel
theorem dX3_canBegin_24 : decode cX3_canBegin 24 = .ok (.if_icmp .ne 7, 3) := by decide +kernel
theorem dX3_canBegin_27 : decode cX3_canBegin 27 = .ok (.iconst 1, 1) := by decide +kernel
theorem dX3_canBegin_28 : decode cX3_canBegin 28 = .ok (.goto 4, 3) := by decide +kernel
theorem dX3_canBegin_31 : decode cX3_canBegin 31 = .ok (.iconst 0, 1) := by decide +kernel
theorem dX3_canBegin_32 : decode cX3_canBegin 32 = .ok (.ireturn, 1) := by decide +kernel
theorem dX3_draw_0 : decode cX3_draw 0 = .ok (.aload_n 0, 1) := by decide +kernel
theorem dX3_draw_1 : decode cX3_draw 1 = .ok (.ldc2_w 122, 3) := by decide +kernel
theorem dX3_draw_4 : decode cX3_draw 4 = .ok (.aload_n 0, 1) := by decide +kernel
theorem dX3_draw_5 : decode cX3_draw 5 = .ok (.getfield 9, 3) := by decide +kernel
theorem dX3_draw_8 : decode cX3_draw 8 = .ok (.i2l, 1) := by decide +kernel
theorem dX3_draw_9 : decode cX3_draw 9 = .ok (.lmul, 1) := by decide +kernel
theorem dX3_draw_10 : decode cX3_draw 10 = .ok (.ldc2_w 124, 3) := by decide +kernel
theorem dX3_draw_13 : decode cX3_draw 13 = .ok (.ladd, 1) := by decide +kernel
theorem dX3_draw_14 : decode cX3_draw 14 = .ok (.ldc2_w 126, 3) := by decide +kernel
theorem dX3_draw_17 : decode cX3_draw 17 = .ok (.land, 1) := by decide +kernel
theorem dX3_draw_18 : decode cX3_draw 18 = .ok (.l2i, 1) := by decide +kernel
theorem dX3_draw_19 : decode cX3_draw 19 = .ok (.putfield 9, 3) := by decide +kernel
theorem dX3_draw_22 : decode cX3_draw 22 = .ok (.iload_n 1, 1) := by decide +kernel
theorem dX3_draw_23 : decode cX3_draw 23 = .ok (.iconst 1, 1) := by decide +kernel
theorem dX3_draw_24 : decode cX3_draw 24 = .ok (.if_icmp .ge 7, 3) := by decide +kernel
theorem dX3_draw_27 : decode cX3_draw 27 = .ok (.iconst 0, 1) := by decide +kernel
theorem dX3_draw_28 : decode cX3_draw 28 = .ok (.goto 12, 3) := by decide +kernel
theorem dX3_draw_31 : decode cX3_draw 31 = .ok (.aload_n 0, 1) := by decide +kernel
theorem dX3_draw_32 : decode cX3_draw 32 = .ok (.getfield 9, 3) := by decide +kernel
theorem dX3_draw_35 : decode cX3_draw 35 = .ok (.bipush 64, 2) := by decide +kernel
theorem dX3_draw_37 : decode cX3_draw 37 = .ok (.idiv, 1) := by decide +kernel
theorem dX3_draw_38 : decode cX3_draw 38 = .ok (.iload_n 1, 1) := by decide +kernel
theorem dX3_draw_39 : decode cX3_draw 39 = .ok (.irem, 1) := by decide +kernel
theorem dX3_draw_40 : decode cX3_draw 40 = .ok (.ireturn, 1) := by decide +kernel
theorem dX3_drawnDream_0 : decode cX3_drawnDream 0 = .ok (.iconst 0, 1) := by decide +kernel
theorem dX3_drawnDream_1 : decode cX3_drawnDream 1 = .ok (.istore_n 2, 1) := by decide +kernel
theorem dX3_drawnDream_2 : decode cX3_drawnDream 2 = .ok (.iconst 0, 1) := by decide +kernel
theorem dX3_drawnDream_3 : decode cX3_drawnDream 3 = .ok (.istore_n 3, 1) := by decide +kernel
theorem dX3_drawnDream_4 : decode cX3_drawnDream 4 = .ok (.iload_n 3, 1) := by decide +kernel
theorem dX3_drawnDream_5 : decode cX3_drawnDream 5 = .ok (.aload_n 1, 1) := by decide +kernel
theorem dX3_drawnDream_6 : decode cX3_drawnDream 6 = .ok (.getfield 112, 3) := by decide +kernel
theorem dX3_drawnDream_9 : decode cX3_drawnDream 9 = .ok (.if_icmp .ge 18, 3) := by decide +kernel
theorem dX3_drawnDream_12 : decode cX3_drawnDream 12 = .ok (.iload_n 2, 1) := by decide +kernel
theorem dX3_drawnDream_13 : decode cX3_drawnDream 13 = .ok (.aload_n 1, 1) := by decide +kernel
theorem dX3_drawnDream_14 : decode cX3_drawnDream 14 = .ok (.getfield 119, 3) := by decide +kernel
theorem dX3_drawnDream_17 : decode cX3_drawnDream 17 = .ok (.iload_n 3, 1) := by decide +kernel
theorem dX3_drawnDream_18 : decode cX3_drawnDream 18 = .ok (.iaload, 1) := by decide +kernel
theorem dX3_drawnDream_19 : decode cX3_drawnDream 19 = .ok (.iadd, 1) := by decide +kernel
theorem dX3_drawnDream_20 : decode cX3_drawnDream 20 = .ok (.istore_n 2, 1) := by decide +kernel
theorem dX3_drawnDream_21 : decode cX3_drawnDream 21 = .ok (.iinc 3 1, 3) := by decide +kernel
theorem dX3_drawnDream_24 : decode cX3_drawnDream 24 = .ok (.goto (-20), 3) := by decide +kernel
theorem dX3_drawnDream_27 : decode cX3_drawnDream 27 = .ok (.aload_n 0, 1) := by decide +kernel
theorem dX3_drawnDream_28 : decode cX3_drawnDream 28 = .ok (.iload_n 2, 1) := by decide +kernel
theorem dX3_drawnDream_29 : decode cX3_drawnDream 29 = .ok (.invokevirtual 106, 3) := by decide +kernel
theorem dX3_drawnDream_32 : decode cX3_drawnDream 32 = .ok (.istore_n 3, 1) := by decide +kernel
theorem dX3_drawnDream_33 : decode cX3_drawnDream 33 = .ok (.iconst 0, 1) := by decide +kernel
theorem dX3_drawnDream_34 : decode cX3_drawnDream 34 = .ok (.istore 4, 2) := by decide +kernel
theorem dX3_drawnDream_36 : decode cX3_drawnDream 36 = .ok (.iconst 0, 1) := by decide +kernel
theorem dX3_drawnDream_37 : decode cX3_drawnDream 37 = .ok (.istore 5, 2) := by decide +kernel
theorem dX3_drawnDream_39 : decode cX3_drawnDream 39 = .ok (.iload 5, 2) := by decide +kernel
theorem dX3_drawnDream_41 : decode cX3_drawnDream 41 = .ok (.aload_n 1, 1) := by decide +kernel
theorem dX3_drawnDream_42 : decode cX3_drawnDream 42 = .ok (.getfield 112, 3) := by decide +kernel
theorem dX3_drawnDream_45 : decode cX3_drawnDream 45 = .ok (.if_icmp .ge 30, 3) := by decide +kernel
theorem dX3_drawnDream_48 : decode cX3_drawnDream 48 = .ok (.iload 4, 2) := by decide +kernel
theorem dX3_drawnDream_50 : decode cX3_drawnDream 50 = .ok (.aload_n 1, 1) := by decide +kernel
theorem dX3_drawnDream_51 : decode cX3_drawnDream 51 = .ok (.getfield 119, 3) := by decide +kernel
theorem dX3_drawnDream_54 : decode cX3_drawnDream 54 = .ok (.iload 5, 2) := by decide +kernel
theorem dX3_drawnDream_56 : decode cX3_drawnDream 56 = .ok (.iaload, 1) := by decide +kernel
theorem dX3_drawnDream_57 : decode cX3_drawnDream 57 = .ok (.iadd, 1) := by decide +kernel
theorem dX3_drawnDream_58 : decode cX3_drawnDream 58 = .ok (.istore 4, 2) := by decide +kernel
theorem dX3_drawnDream_60 : decode cX3_drawnDream 60 = .ok (.iload 4, 2) := by decide +kernel
theorem dX3_drawnDream_62 : decode cX3_drawnDream 62 = .ok (.iload_n 3, 1) := by decide +kernel
theorem dX3_drawnDream_63 : decode cX3_drawnDream 63 = .ok (.if_icmp .le 6, 3) := by decide +kernel
theorem dX3_drawnDream_66 : decode cX3_drawnDream 66 = .ok (.iload 5, 2) := by decide +kernel
theorem dX3_drawnDream_68 : decode cX3_drawnDream 68 = .ok (.ireturn, 1) := by decide +kernel
theorem dX3_drawnDream_69 : decode cX3_drawnDream 69 = .ok (.iinc 5 1, 3) := by decide +kernel
theorem dX3_drawnDream_72 : decode cX3_drawnDream 72 = .ok (.goto (-33), 3) := by decide +kernel
theorem dX3_drawnDream_75 : decode cX3_drawnDream 75 = .ok (.iconst 0, 1) := by decide +kernel
theorem dX3_drawnDream_76 : decode cX3_drawnDream 76 = .ok (.ireturn, 1) := by decide +kernel
theorem dX3_minute_0 : decode cX3_minute 0 = .ok (.iconst 0, 1) := by decide +kernel
theorem dX3_minute_1 : decode cX3_minute 1 = .ok (.istore_n 3, 1) := by decide +kernel
theorem dX3_minute_2 : decode cX3_minute 2 = .ok (.iload_n 3, 1) := by decide +kernel
theorem dX3_minute_3 : decode cX3_minute 3 = .ok (.aload_n 2, 1) := by decide +kernel
theorem dX3_minute_4 : decode cX3_minute 4 = .ok (.getfield 70, 3) := by decide +kernel
theorem dX3_minute_7 : decode cX3_minute 7 = .ok (.if_icmp .ge 63, 3) := by decide +kernel
theorem dX3_minute_10 : decode cX3_minute 10 = .ok (.aload_n 2, 1) := by decide +kernel
theorem dX3_minute_11 : decode cX3_minute 11 = .ok (.getfield 76, 3) := by decide +kernel
theorem dX3_minute_14 : decode cX3_minute 14 = .ok (.iload_n 3, 1) := by decide +kernel
theorem dX3_minute_15 : decode cX3_minute 15 = .ok (.iaload, 1) := by decide +kernel
theorem dX3_minute_16 : decode cX3_minute 16 = .ok (.istore 4, 2) := by decide +kernel
theorem dX3_minute_18 : decode cX3_minute 18 = .ok (.aload_n 2, 1) := by decide +kernel
theorem dX3_minute_19 : decode cX3_minute 19 = .ok (.getfield 47, 3) := by decide +kernel
theorem dX3_minute_22 : decode cX3_minute 22 = .ok (.iload 4, 2) := by decide +kernel
theorem dX3_minute_24 : decode cX3_minute 24 = .ok (.iaload, 1) := by decide +kernel
theorem dX3_minute_25 : decode cX3_minute 25 = .ok (.istore 5, 2) := by decide +kernel
theorem dX3_minute_27 : decode cX3_minute 27 = .ok (.iload 5, 2) := by decide +kernel
theorem dX3_minute_29 : decode cX3_minute 29 = .ok (.iconst (-1), 1) := by decide +kernel
theorem dX3_minute_30 : decode cX3_minute 30 = .ok (.if_icmp .eq 26, 3) := by decide +kernel
theorem dX3_minute_33 : decode cX3_minute 33 = .ok (.aload_n 0, 1) := by decide +kernel
theorem dX3_minute_34 : decode cX3_minute 34 = .ok (.aload_n 1, 1) := by decide +kernel
theorem dX3_minute_35 : decode cX3_minute 35 = .ok (.aload_n 2, 1) := by decide +kernel
theorem dX3_minute_36 : decode cX3_minute 36 = .ok (.iload 4, 2) := by decide +kernel
theorem dX3_minute_38 : decode cX3_minute 38 = .ok (.invokevirtual 93, 3) := by decide +kernel
theorem dX3_minute_41 : decode cX3_minute 41 = .ok (.ifCond .eq 15, 3) := by decide +kernel
theorem dX3_minute_44 : decode cX3_minute 44 = .ok (.aload_n 0, 1) := by decide +kernel
theorem dX3_minute_45 : decode cX3_minute 45 = .ok (.aload_n 1, 1) := by decide +kernel
theorem dX3_minute_46 : decode cX3_minute 46 = .ok (.aload_n 2, 1) := by decide +kernel
theorem dX3_minute_47 : decode cX3_minute 47 = .ok (.iload 4, 2) := by decide +kernel
theorem dX3_minute_49 : decode cX3_minute 49 = .ok (.iload 5, 2) := by decide +kernel
theorem dX3_minute_51 : decode cX3_minute 51 = .ok (.iconst 1, 1) := by decide +kernel
theorem dX3_minute_52 : decode cX3_minute 52 = .ok (.invokevirtual 102, 3) := by decide +kernel
theorem dX3_minute_55 : decode cX3_minute 55 = .ok (.pop, 1) := by decide +kernel
theorem dX3_minute_56 : decode cX3_minute 56 = .ok (.aload_n 2, 1) := by decide +kernel
theorem dX3_minute_57 : decode cX3_minute 57 = .ok (.getfield 47, 3) := by decide +kernel
theorem dX3_minute_60 : decode cX3_minute 60 = .ok (.iload 4, 2) := by decide +kernel
theorem dX3_minute_62 : decode cX3_minute 62 = .ok (.iconst (-1), 1) := by decide +kernel
theorem dX3_minute_63 : decode cX3_minute 63 = .ok (.iastore, 1) := by decide +kernel
theorem dX3_minute_64 : decode cX3_minute 64 = .ok (.iinc 3 1, 3) := by decide +kernel
theorem dX3_minute_67 : decode cX3_minute 67 = .ok (.goto (-65), 3) := by decide +kernel
theorem dX3_minute_70 : decode cX3_minute 70 = .ok (.iconst 0, 1) := by decide +kernel
theorem dX3_minute_71 : decode cX3_minute 71 = .ok (.istore_n 3, 1) := by decide +kernel
theorem dX3_minute_72 : decode cX3_minute 72 = .ok (.iload_n 3, 1) := by decide +kernel
theorem dX3_minute_73 : decode cX3_minute 73 = .ok (.aload_n 2, 1) := by decide +kernel
theorem dX3_minute_74 : decode cX3_minute 74 = .ok (.getfield 70, 3) := by decide +kernel
theorem dX3_minute_77 : decode cX3_minute 77 = .ok (.if_icmp .ge 66, 3) := by decide +kernel
theorem dX3_minute_80 : decode cX3_minute 80 = .ok (.aload_n 2, 1) := by decide +kernel
theorem dX3_minute_81 : decode cX3_minute 81 = .ok (.getfield 76, 3) := by decide +kernel
theorem dX3_minute_84 : decode cX3_minute 84 = .ok (.iload_n 3, 1) := by decide +kernel
theorem dX3_minute_85 : decode cX3_minute 85 = .ok (.iaload, 1) := by decide +kernel
theorem dX3_minute_86 : decode cX3_minute 86 = .ok (.istore 4, 2) := by decide +kernel
theorem dX3_minute_88 : decode cX3_minute 88 = .ok (.aload_n 0, 1) := by decide +kernel
theorem dX3_minute_89 : decode cX3_minute 89 = .ok (.aload_n 1, 1) := by decide +kernel
theorem dX3_minute_90 : decode cX3_minute 90 = .ok (.aload_n 2, 1) := by decide +kernel
theorem dX3_minute_91 : decode cX3_minute 91 = .ok (.iload 4, 2) := by decide +kernel
theorem dX3_minute_93 : decode cX3_minute 93 = .ok (.invokevirtual 93, 3) := by decide +kernel
theorem dX3_minute_96 : decode cX3_minute 96 = .ok (.ifCond .eq 41, 3) := by decide +kernel
theorem dX3_minute_99 : decode cX3_minute 99 = .ok (.aload_n 0, 1) := by decide +kernel
theorem dX3_minute_100 : decode cX3_minute 100 = .ok (.bipush 100, 2) := by decide +kernel
theorem dX3_minute_102 : decode cX3_minute 102 = .ok (.invokevirtual 106, 3) := by decide +kernel
theorem dX3_minute_105 : decode cX3_minute 105 = .ok (.aload_n 1, 1) := by decide +kernel
theorem dX3_minute_106 : decode cX3_minute 106 = .ok (.getfield 109, 3) := by decide +kernel
theorem dX3_minute_109 : decode cX3_minute 109 = .ok (.iload 4, 2) := by decide +kernel
theorem dX3_minute_111 : decode cX3_minute 111 = .ok (.iaload, 1) := by decide +kernel
theorem dX3_minute_112 : decode cX3_minute 112 = .ok (.if_icmp .ge 25, 3) := by decide +kernel
theorem dX3_minute_115 : decode cX3_minute 115 = .ok (.aload_n 1, 1) := by decide +kernel
theorem dX3_minute_116 : decode cX3_minute 116 = .ok (.getfield 112, 3) := by decide +kernel
theorem dX3_minute_119 : decode cX3_minute 119 = .ok (.ifCond .le 18, 3) := by decide +kernel
theorem dX3_minute_122 : decode cX3_minute 122 = .ok (.aload_n 0, 1) := by decide +kernel
theorem dX3_minute_123 : decode cX3_minute 123 = .ok (.aload_n 1, 1) := by decide +kernel
theorem dX3_minute_124 : decode cX3_minute 124 = .ok (.aload_n 2, 1) := by decide +kernel
theorem dX3_minute_125 : decode cX3_minute 125 = .ok (.iload 4, 2) := by decide +kernel
theorem dX3_minute_127 : decode cX3_minute 127 = .ok (.aload_n 0, 1) := by decide +kernel
theorem dX3_minute_128 : decode cX3_minute 128 = .ok (.aload_n 1, 1) := by decide +kernel
theorem dX3_minute_129 : decode cX3_minute 129 = .ok (.invokevirtual 115, 3) := by decide +kernel
theorem dX3_minute_132 : decode cX3_minute 132 = .ok (.iconst 0, 1) := by decide +kernel
theorem dX3_minute_133 : decode cX3_minute 133 = .ok (.invokevirtual 102, 3) := by decide +kernel
theorem dX3_minute_136 : decode cX3_minute 136 = .ok (.pop, 1) := by decide +kernel
theorem dX3_minute_137 : decode cX3_minute 137 = .ok (.iinc 3 1, 3) := by decide +kernel
theorem dX3_minute_140 : decode cX3_minute 140 = .ok (.goto (-68), 3) := by decide +kernel
theorem dX3_minute_143 : decode cX3_minute 143 = .ok (.iconst 0, 1) := by decide +kernel
theorem dX3_minute_144 : decode cX3_minute 144 = .ok (.istore_n 3, 1) := by decide +kernel
theorem dX3_minute_145 : decode cX3_minute 145 = .ok (.iload_n 3, 1) := by decide +kernel
theorem dX3_minute_146 : decode cX3_minute 146 = .ok (.aload_n 2, 1) := by decide +kernel
theorem dX3_minute_147 : decode cX3_minute 147 = .ok (.getfield 70, 3) := by decide +kernel
theorem dX3_minute_150 : decode cX3_minute 150 = .ok (.if_icmp .ge 52, 3) := by decide +kernel
theorem dX3_minute_153 : decode cX3_minute 153 = .ok (.aload_n 2, 1) := by decide +kernel
theorem dX3_minute_154 : decode cX3_minute 154 = .ok (.getfield 34, 3) := by decide +kernel
theorem dX3_minute_157 : decode cX3_minute 157 = .ok (.iload_n 3, 1) := by decide +kernel
theorem dX3_minute_158 : decode cX3_minute 158 = .ok (.iaload, 1) := by decide +kernel
theorem dX3_minute_159 : decode cX3_minute 159 = .ok (.iconst (-1), 1) := by decide +kernel
theorem dX3_minute_160 : decode cX3_minute 160 = .ok (.if_icmp .eq 36, 3) := by decide +kernel
theorem dX3_minute_163 : decode cX3_minute 163 = .ok (.aload_n 2, 1) := by decide +kernel
theorem dX3_minute_164 : decode cX3_minute 164 = .ok (.getfield 50, 3) := by decide +kernel
theorem dX3_minute_167 : decode cX3_minute 167 = .ok (.iload_n 3, 1) := by decide +kernel
theorem dX3_minute_168 : decode cX3_minute 168 = .ok (.dup2, 1) := by decide +kernel
theorem dX3_minute_169 : decode cX3_minute 169 = .ok (.iaload, 1) := by decide +kernel
theorem dX3_minute_170 : decode cX3_minute 170 = .ok (.iconst 1, 1) := by decide +kernel
theorem dX3_minute_171 : decode cX3_minute 171 = .ok (.isub, 1) := by decide +kernel
theorem dX3_minute_172 : decode cX3_minute 172 = .ok (.iastore, 1) := by decide +kernel
theorem dX3_minute_173 : decode cX3_minute 173 = .ok (.aload_n 2, 1) := by decide +kernel
theorem dX3_minute_174 : decode cX3_minute 174 = .ok (.getfield 50, 3) := by decide +kernel
theorem dX3_minute_177 : decode cX3_minute 177 = .ok (.iload_n 3, 1) := by decide +kernel
theorem dX3_minute_178 : decode cX3_minute 178 = .ok (.iaload, 1) := by decide +kernel
theorem dX3_minute_179 : decode cX3_minute 179 = .ok (.ifCond .gt 17, 3) := by decide +kernel
theorem dX3_minute_182 : decode cX3_minute 182 = .ok (.aload_n 2, 1) := by decide +kernel
theorem dX3_minute_183 : decode cX3_minute 183 = .ok (.getfield 34, 3) := by decide +kernel
theorem dX3_minute_186 : decode cX3_minute 186 = .ok (.iload_n 3, 1) := by decide +kernel
theorem dX3_minute_187 : decode cX3_minute 187 = .ok (.iconst (-1), 1) := by decide +kernel
theorem dX3_minute_188 : decode cX3_minute 188 = .ok (.iastore, 1) := by decide +kernel
theorem dX3_minute_189 : decode cX3_minute 189 = .ok (.aload_n 2, 1) := by decide +kernel
theorem dX3_minute_190 : decode cX3_minute 190 = .ok (.getfield 50, 3) := by decide +kernel
theorem dX3_minute_193 : decode cX3_minute 193 = .ok (.iload_n 3, 1) := by decide +kernel
theorem dX3_minute_194 : decode cX3_minute 194 = .ok (.iconst 0, 1) := by decide +kernel
theorem dX3_minute_195 : decode cX3_minute 195 = .ok (.iastore, 1) := by decide +kernel
theorem dX3_minute_196 : decode cX3_minute 196 = .ok (.iinc 3 1, 3) := by decide +kernel
theorem dX3_minute_199 : decode cX3_minute 199 = .ok (.goto (-54), 3) := by decide +kernel
theorem dX3_minute_202 : decode cX3_minute 202 = .ok (.aload_n 2, 1) := by decide +kernel
theorem dX3_minute_203 : decode cX3_minute 203 = .ok (.dup, 1) := by decide +kernel
theorem dX3_minute_204 : decode cX3_minute 204 = .ok (.getfield 44, 3) := by decide +kernel
theorem dX3_minute_207 : decode cX3_minute 207 = .ok (.iconst 1, 1) := by decide +kernel
theorem dX3_minute_208 : decode cX3_minute 208 = .ok (.iadd, 1) := by decide +kernel
theorem dX3_minute_209 : decode cX3_minute 209 = .ok (.putfield 44, 3) := by decide +kernel
theorem dX3_minute_212 : decode cX3_minute 212 = .ok (.return_, 1) := by decide +kernel
theorem dX4_badAsItIs_0 : decode cX4_badAsItIs 0 = .ok (.aload_n 0, 1) := by decide +kernel
theorem dX4_badAsItIs_1 : decode cX4_badAsItIs 1 = .ok (.aload_n 1, 1) := by decide +kernel
theorem dX4_badAsItIs_2 : decode cX4_badAsItIs 2 = .ok (.aload_n 2, 1) := by decide +kernel
theorem dX4_badAsItIs_3 : decode cX4_badAsItIs 3 = .ok (.invokevirtual 86, 3) := by decide +kernel
theorem dX4_badAsItIs_6 : decode cX4_badAsItIs 6 = .ok (.aload_n 2, 1) := by decide +kernel
theorem dX4_badAsItIs_7 : decode cX4_badAsItIs 7 = .ok (.getfield 53, 3) := by decide +kernel
theorem dX4_badAsItIs_10 : decode cX4_badAsItIs 10 = .ok (.iconst 0, 1) := by decide +kernel
theorem dX4_badAsItIs_11 : decode cX4_badAsItIs 11 = .ok (.aload_n 0, 1) := by decide +kernel
theorem dX4_badAsItIs_12 : decode cX4_badAsItIs 12 = .ok (.getfield 31, 3) := by decide +kernel
theorem dX4_badAsItIs_15 : decode cX4_badAsItIs 15 = .ok (.getfield 53, 3) := by decide +kernel
theorem dX4_badAsItIs_18 : decode cX4_badAsItIs 18 = .ok (.iconst 0, 1) := by decide +kernel
theorem dX4_badAsItIs_19 : decode cX4_badAsItIs 19 = .ok (.bipush 12, 2) := by decide +kernel
theorem dX4_badAsItIs_21 : decode cX4_badAsItIs 21 = .ok (.invokestatic 89, 3) := by decide +kernel
theorem dX4_badAsItIs_24 : decode cX4_badAsItIs 24 = .ok (.aload_n 0, 1) := by decide +kernel
theorem dX4_badAsItIs_25 : decode cX4_badAsItIs 25 = .ok (.aload_n 1, 1) := by decide +kernel
theorem dX4_badAsItIs_26 : decode cX4_badAsItIs 26 = .ok (.invokevirtual 95, 3) := by decide +kernel
theorem dX4_badAsItIs_29 : decode cX4_badAsItIs 29 = .ok (.ireturn, 1) := by decide +kernel
theorem dX4_badness_0 : decode cX4_badness 0 = .ok (.iconst 0, 1) := by decide +kernel
theorem dX4_badness_1 : decode cX4_badness 1 = .ok (.istore_n 2, 1) := by decide +kernel
theorem dX4_badness_2 : decode cX4_badness 2 = .ok (.iconst 0, 1) := by decide +kernel
theorem dX4_badness_3 : decode cX4_badness 3 = .ok (.istore_n 3, 1) := by decide +kernel
theorem dX4_badness_4 : decode cX4_badness 4 = .ok (.iload_n 3, 1) := by decide +kernel
theorem dX4_badness_5 : decode cX4_badness 5 = .ok (.aload_n 0, 1) := by decide +kernel
theorem dX4_badness_6 : decode cX4_badness 6 = .ok (.getfield 31, 3) := by decide +kernel
theorem dX4_badness_9 : decode cX4_badness 9 = .ok (.getfield 50, 3) := by decide +kernel
theorem dX4_badness_12 : decode cX4_badness 12 = .ok (.if_icmp .ge 109, 3) := by decide +kernel
theorem dX4_badness_15 : decode cX4_badness 15 = .ok (.aload_n 0, 1) := by decide +kernel
theorem dX4_badness_16 : decode cX4_badness 16 = .ok (.getfield 31, 3) := by decide +kernel
theorem dX4_badness_19 : decode cX4_badness 19 = .ok (.getfield 53, 3) := by decide +kernel
theorem dX4_badness_22 : decode cX4_badness 22 = .ok (.iload_n 3, 1) := by decide +kernel
theorem dX4_badness_23 : decode cX4_badness 23 = .ok (.iaload, 1) := by decide +kernel
theorem dX4_badness_24 : decode cX4_badness 24 = .ok (.istore 4, 2) := by decide +kernel
theorem dX4_badness_26 : decode cX4_badness 26 = .ok (.aload_n 1, 1) := by decide +kernel
theorem dX4_badness_27 : decode cX4_badness 27 = .ok (.iload 4, 2) := by decide +kernel
theorem dX4_badness_29 : decode cX4_badness 29 = .ok (.invokevirtual 56, 3) := by decide +kernel
theorem dX4_badness_32 : decode cX4_badness 32 = .ok (.ifCond .eq 7, 3) := by decide +kernel
theorem dX4_badness_35 : decode cX4_badness 35 = .ok (.iconst 0, 1) := by decide +kernel
theorem dX4_badness_36 : decode cX4_badness 36 = .ok (.goto 10, 3) := by decide +kernel
theorem dX4_badness_39 : decode cX4_badness 39 = .ok (.aload_n 1, 1) := by decide +kernel
theorem dX4_badness_40 : decode cX4_badness 40 = .ok (.getfield 62, 3) := by decide +kernel
theorem dX4_badness_43 : decode cX4_badness 43 = .ok (.iload 4, 2) := by decide +kernel
theorem dX4_badness_45 : decode cX4_badness 45 = .ok (.iaload, 1) := by decide +kernel
theorem dX4_badness_46 : decode cX4_badness 46 = .ok (.istore 5, 2) := by decide +kernel
theorem dX4_badness_48 : decode cX4_badness 48 = .ok (.iconst 0, 1) := by decide +kernel
theorem dX4_badness_49 : decode cX4_badness 49 = .ok (.istore 6, 2) := by decide +kernel
theorem dX4_badness_51 : decode cX4_badness 51 = .ok (.iload 5, 2) := by decide +kernel
theorem dX4_badness_53 : decode cX4_badness 53 = .ok (.ifCond .le 62, 3) := by decide +kernel
theorem dX4_badness_56 : decode cX4_badness 56 = .ok (.iload 6, 2) := by decide +kernel
theorem dX4_badness_58 : decode cX4_badness 58 = .ok (.aload_n 1, 1) := by decide +kernel
theorem dX4_badness_59 : decode cX4_badness 59 = .ok (.getfield 65, 3) := by decide +kernel
theorem dX4_badness_62 : decode cX4_badness 62 = .ok (.if_icmp .ge 53, 3) := by decide +kernel
theorem dX4_badness_65 : decode cX4_badness 65 = .ok (.aload_n 0, 1) := by decide +kernel
theorem dX4_badness_66 : decode cX4_badness 66 = .ok (.getfield 38, 3) := by decide +kernel
theorem dX4_badness_69 : decode cX4_badness 69 = .ok (.aload_n 1, 1) := by decide +kernel
theorem dX4_badness_70 : decode cX4_badness 70 = .ok (.aload_n 0, 1) := by decide +kernel
theorem dX4_badness_71 : decode cX4_badness 71 = .ok (.getfield 31, 3) := by decide +kernel
theorem dX4_badness_74 : decode cX4_badness 74 = .ok (.iload_n 3, 1) := by decide +kernel
theorem dX4_badness_75 : decode cX4_badness 75 = .ok (.aload_n 1, 1) := by decide +kernel
theorem dX4_badness_76 : decode cX4_badness 76 = .ok (.getfield 68, 3) := by decide +kernel
theorem dX4_badness_79 : decode cX4_badness 79 = .ok (.iload 6, 2) := by decide +kernel
theorem dX4_badness_81 : decode cX4_badness 81 = .ok (.iaload, 1) := by decide +kernel
theorem dX4_badness_82 : decode cX4_badness 82 = .ok (.invokevirtual 70, 3) := by decide +kernel
theorem dX4_badness_85 : decode cX4_badness 85 = .ok (.iload_n 2, 1) := by decide +kernel
theorem dX4_badness_86 : decode cX4_badness 86 = .ok (.iload 5, 2) := by decide +kernel
theorem dX4_badness_88 : decode cX4_badness 88 = .ok (.aload_n 1, 1) := by decide +kernel
theorem dX4_badness_89 : decode cX4_badness 89 = .ok (.getfield 74, 3) := by decide +kernel
theorem dX4_badness_92 : decode cX4_badness 92 = .ok (.iload 6, 2) := by decide +kernel
theorem dX4_badness_94 : decode cX4_badness 94 = .ok (.iaload, 1) := by decide +kernel
theorem dX4_badness_95 : decode cX4_badness 95 = .ok (.imul, 1) := by decide +kernel
theorem dX4_badness_96 : decode cX4_badness 96 = .ok (.aload_n 0, 1) := by decide +kernel
theorem dX4_badness_97 : decode cX4_badness 97 = .ok (.getfield 38, 3) := by decide +kernel
theorem dX4_badness_100 : decode cX4_badness 100 = .ok (.getfield 77, 3) := by decide +kernel
theorem dX4_badness_103 : decode cX4_badness 103 = .ok (.invokestatic 80, 3) := by decide +kernel
theorem dX4_badness_106 : decode cX4_badness 106 = .ok (.imul, 1) := by decide +kernel
theorem dX4_badness_107 : decode cX4_badness 107 = .ok (.iadd, 1) := by decide +kernel
theorem dX4_badness_108 : decode cX4_badness 108 = .ok (.istore_n 2, 1) := by decide +kernel
theorem dX4_badness_109 : decode cX4_badness 109 = .ok (.iinc 6 1, 3) := by decide +kernel
theorem dX4_badness_112 : decode cX4_badness 112 = .ok (.goto (-61), 3) := by decide +kernel
theorem dX4_badness_115 : decode cX4_badness 115 = .ok (.iinc 3 1, 3) := by decide +kernel
theorem dX4_badness_118 : decode cX4_badness 118 = .ok (.goto (-114), 3) := by decide +kernel
theorem dX4_badness_121 : decode cX4_badness 121 = .ok (.iload_n 2, 1) := by decide +kernel
theorem dX4_badness_122 : decode cX4_badness 122 = .ok (.ireturn, 1) := by decide +kernel
theorem dX4_begin_0 : decode cX4_begin 0 = .ok (.aload_n 0, 1) := by decide +kernel
theorem dX4_begin_1 : decode cX4_begin 1 = .ok (.getfield 31, 3) := by decide +kernel
theorem dX4_begin_4 : decode cX4_begin 4 = .ok (.aload_n 1, 1) := by decide +kernel
theorem dX4_begin_5 : decode cX4_begin 5 = .ok (.invokevirtual 42, 3) := by decide +kernel
theorem dX4_begin_8 : decode cX4_begin 8 = .ok (.aload_n 0, 1) := by decide +kernel
theorem dX4_begin_9 : decode cX4_begin 9 = .ok (.getfield 31, 3) := by decide +kernel
theorem dX4_begin_12 : decode cX4_begin 12 = .ok (.aload_n 2, 1) := by decide +kernel
theorem dX4_begin_13 : decode cX4_begin 13 = .ok (.invokevirtual 46, 3) := by decide +kernel
theorem dX4_begin_16 : decode cX4_begin 16 = .ok (.return_, 1) := by decide +kernel
theorem dX4_findBest_0 : decode cX4_findBest 0 = .ok (.aload_n 0, 1) := by decide +kernel
theorem dX4_findBest_1 : decode cX4_findBest 1 = .ok (.getfield 18, 3) := by decide +kernel
theorem dX4_findBest_4 : decode cX4_findBest 4 = .ok (.iload_n 3, 1) := by decide +kernel
theorem dX4_findBest_5 : decode cX4_findBest 5 = .ok (.if_icmp .ne 4, 3) := by decide +kernel
theorem dX4_findBest_8 : decode cX4_findBest 8 = .ok (.return_, 1) := by decide +kernel
theorem dX4_findBest_9 : decode cX4_findBest 9 = .ok (.aload_n 0, 1) := by decide +kernel
theorem dX4_findBest_10 : decode cX4_findBest 10 = .ok (.iload_n 3, 1) := by decide +kernel
theorem dX4_findBest_11 : decode cX4_findBest 11 = .ok (.putfield 18, 3) := by decide +kernel
theorem dX4_findBest_14 : decode cX4_findBest 14 = .ok (.aload_n 0, 1) := by decide +kernel
theorem dX4_findBest_15 : decode cX4_findBest 15 = .ok (.aload_n 1, 1) := by decide +kernel
theorem dX4_findBest_16 : decode cX4_findBest 16 = .ok (.aload_n 2, 1) := by decide +kernel
theorem dX4_findBest_17 : decode cX4_findBest 17 = .ok (.invokevirtual 86, 3) := by decide +kernel
theorem dX4_findBest_20 : decode cX4_findBest 20 = .ok (.aload_n 0, 1) := by decide +kernel
theorem dX4_findBest_21 : decode cX4_findBest 21 = .ok (.iconst (-1), 1) := by decide +kernel
theorem dX4_findBest_22 : decode cX4_findBest 22 = .ok (.putfield 99, 3) := by decide +kernel
theorem dX4_findBest_25 : decode cX4_findBest 25 = .ok (.iconst 0, 1) := by decide +kernel
theorem dX4_findBest_26 : decode cX4_findBest 26 = .ok (.istore 4, 2) := by decide +kernel
theorem dX4_findBest_28 : decode cX4_findBest 28 = .ok (.iload 4, 2) := by decide +kernel
theorem dX4_findBest_30 : decode cX4_findBest 30 = .ok (.sipush 720, 3) := by decide +kernel
theorem dX4_findBest_33 : decode cX4_findBest 33 = .ok (.if_icmp .ge 80, 3) := by decide +kernel
theorem dX4_findBest_36 : decode cX4_findBest 36 = .ok (.aload_n 0, 1) := by decide +kernel
theorem dX4_findBest_37 : decode cX4_findBest 37 = .ok (.aload_n 1, 1) := by decide +kernel
theorem dX4_findBest_38 : decode cX4_findBest 38 = .ok (.invokevirtual 95, 3) := by decide +kernel
theorem dX4_findBest_41 : decode cX4_findBest 41 = .ok (.istore 5, 2) := by decide +kernel
theorem dX4_findBest_43 : decode cX4_findBest 43 = .ok (.aload_n 0, 1) := by decide +kernel
theorem dX4_findBest_44 : decode cX4_findBest 44 = .ok (.getfield 99, 3) := by decide +kernel
theorem dX4_findBest_47 : decode cX4_findBest 47 = .ok (.iconst (-1), 1) := by decide +kernel
theorem dX4_findBest_48 : decode cX4_findBest 48 = .ok (.if_icmp .eq 12, 3) := by decide +kernel
theorem dX4_findBest_51 : decode cX4_findBest 51 = .ok (.iload 5, 2) := by decide +kernel
theorem dX4_findBest_53 : decode cX4_findBest 53 = .ok (.aload_n 0, 1) := by decide +kernel
theorem dX4_findBest_54 : decode cX4_findBest 54 = .ok (.getfield 99, 3) := by decide +kernel
theorem dX4_findBest_57 : decode cX4_findBest 57 = .ok (.if_icmp .ge 27, 3) := by decide +kernel
theorem dX4_findBest_60 : decode cX4_findBest 60 = .ok (.aload_n 0, 1) := by decide +kernel
theorem dX4_findBest_61 : decode cX4_findBest 61 = .ok (.iload 5, 2) := by decide +kernel
theorem dX4_findBest_63 : decode cX4_findBest 63 = .ok (.putfield 99, 3) := by decide +kernel
theorem dX4_findBest_66 : decode cX4_findBest 66 = .ok (.aload_n 0, 1) := by decide +kernel
theorem dX4_findBest_67 : decode cX4_findBest 67 = .ok (.getfield 31, 3) := by decide +kernel
theorem dX4_findBest_70 : decode cX4_findBest 70 = .ok (.getfield 53, 3) := by decide +kernel
theorem dX4_findBest_73 : decode cX4_findBest 73 = .ok (.iconst 0, 1) := by decide +kernel
theorem dX4_findBest_74 : decode cX4_findBest 74 = .ok (.aload_n 0, 1) := by decide +kernel
theorem dX4_findBest_75 : decode cX4_findBest 75 = .ok (.getfield 9, 3) := by decide +kernel
theorem dX4_findBest_78 : decode cX4_findBest 78 = .ok (.iconst 0, 1) := by decide +kernel
theorem dX4_findBest_79 : decode cX4_findBest 79 = .ok (.bipush 12, 2) := by decide +kernel
theorem dX4_findBest_81 : decode cX4_findBest 81 = .ok (.invokestatic 89, 3) := by decide +kernel
theorem dX4_findBest_84 : decode cX4_findBest 84 = .ok (.aload_n 0, 1) := by decide +kernel
theorem dX4_findBest_85 : decode cX4_findBest 85 = .ok (.getfield 31, 3) := by decide +kernel
theorem dX4_findBest_88 : decode cX4_findBest 88 = .ok (.getfield 53, 3) := by decide +kernel
theorem dX4_findBest_91 : decode cX4_findBest 91 = .ok (.aload_n 0, 1) := by decide +kernel
theorem dX4_findBest_92 : decode cX4_findBest 92 = .ok (.getfield 31, 3) := by decide +kernel
theorem dX4_findBest_95 : decode cX4_findBest 95 = .ok (.getfield 50, 3) := by decide +kernel
theorem dX4_findBest_98 : decode cX4_findBest 98 = .ok (.invokestatic 102, 3) := by decide +kernel
theorem dX4_findBest_101 : decode cX4_findBest 101 = .ok (.ifCond .ne 6, 3) := by decide +kernel
theorem dX4_findBest_104 : decode cX4_findBest 104 = .ok (.goto 9, 3) := by decide +kernel
theorem dX4_findBest_107 : decode cX4_findBest 107 = .ok (.iinc 4 1, 3) := by decide +kernel
theorem dX4_findBest_110 : decode cX4_findBest 110 = .ok (.goto (-82), 3) := by decide +kernel
theorem dX4_findBest_113 : decode cX4_findBest 113 = .ok (.return_, 1) := by decide +kernel
theorem dX4_findExchanges_0 : decode cX4_findExchanges 0 = .ok (.aload_n 0, 1) := by decide +kernel
theorem dX4_findExchanges_1 : decode cX4_findExchanges 1 = .ok (.getfield 22, 3) := by decide +kernel
theorem dX4_findExchanges_4 : decode cX4_findExchanges 4 = .ok (.iload_n 3, 1) := by decide +kernel
theorem dX4_findExchanges_5 : decode cX4_findExchanges 5 = .ok (.if_icmp .ne 4, 3) := by decide +kernel
theorem dX4_findExchanges_8 : decode cX4_findExchanges 8 = .ok (.return_, 1) := by decide +kernel
theorem dX4_findExchanges_9 : decode cX4_findExchanges 9 = .ok (.aload_n 0, 1) := by decide +kernel
theorem dX4_findExchanges_10 : decode cX4_findExchanges 10 = .ok (.iload_n 3, 1) := by decide +kernel
theorem dX4_findExchanges_11 : decode cX4_findExchanges 11 = .ok (.putfield 22, 3) := by decide +kernel
theorem dX4_findExchanges_14 : decode cX4_findExchanges 14 = .ok (.aload_n 0, 1) := by decide +kernel
theorem dX4_findExchanges_15 : decode cX4_findExchanges 15 = .ok (.aload_n 1, 1) := by decide +kernel
theorem dX4_findExchanges_16 : decode cX4_findExchanges 16 = .ok (.aload_n 2, 1) := by decide +kernel
theorem dX4_findExchanges_17 : decode cX4_findExchanges 17 = .ok (.invokevirtual 86, 3) := by decide +kernel
theorem dX4_findExchanges_20 : decode cX4_findExchanges 20 = .ok (.aload_n 2, 1) := by decide +kernel
theorem dX4_findExchanges_21 : decode cX4_findExchanges 21 = .ok (.getfield 53, 3) := by decide +kernel
theorem dX4_findExchanges_24 : decode cX4_findExchanges 24 = .ok (.iconst 0, 1) := by decide +kernel
theorem dX4_findExchanges_25 : decode cX4_findExchanges 25 = .ok (.aload_n 0, 1) := by decide +kernel
theorem dX4_findExchanges_26 : decode cX4_findExchanges 26 = .ok (.getfield 31, 3) := by decide +kernel
theorem dX4_findExchanges_29 : decode cX4_findExchanges 29 = .ok (.getfield 53, 3) := by decide +kernel
theorem dX4_findExchanges_32 : decode cX4_findExchanges 32 = .ok (.iconst 0, 1) := by decide +kernel
theorem dX4_findExchanges_33 : decode cX4_findExchanges 33 = .ok (.bipush 12, 2) := by decide +kernel
theorem dX4_findExchanges_35 : decode cX4_findExchanges 35 = .ok (.invokestatic 89, 3) := by decide +kernel
theorem dX4_findExchanges_38 : decode cX4_findExchanges 38 = .ok (.aload_n 0, 1) := by decide +kernel
theorem dX4_findExchanges_39 : decode cX4_findExchanges 39 = .ok (.aload_n 0, 1) := by decide +kernel
theorem dX4_findExchanges_40 : decode cX4_findExchanges 40 = .ok (.aload_n 1, 1) := by decide +kernel
theorem dX4_findExchanges_41 : decode cX4_findExchanges 41 = .ok (.invokevirtual 95, 3) := by decide +kernel
theorem dX4_findExchanges_44 : decode cX4_findExchanges 44 = .ok (.putfield 106, 3) := by decide +kernel
theorem dX4_findExchanges_47 : decode cX4_findExchanges 47 = .ok (.aload_n 0, 1) := by decide +kernel
theorem dX4_findExchanges_48 : decode cX4_findExchanges 48 = .ok (.iconst 0, 1) := by decide +kernel
theorem dX4_findExchanges_49 : decode cX4_findExchanges 49 = .ok (.putfield 109, 3) := by decide +kernel
theorem dX4_findExchanges_52 : decode cX4_findExchanges 52 = .ok (.iconst 0, 1) := by decide +kernel
theorem dX4_findExchanges_53 : decode cX4_findExchanges 53 = .ok (.istore 4, 2) := by decide +kernel
theorem dX4_findExchanges_55 : decode cX4_findExchanges 55 = .ok (.iload 4, 2) := by decide +kernel
theorem dX4_findExchanges_57 : decode cX4_findExchanges 57 = .ok (.ldc 112, 2) := by decide +kernel
theorem dX4_findExchanges_59 : decode cX4_findExchanges 59 = .ok (.if_icmp .ge 150, 3) := by decide +kernel
theorem dX4_findExchanges_62 : decode cX4_findExchanges 62 = .ok (.aload_n 0, 1) := by decide +kernel
theorem dX4_findExchanges_63 : decode cX4_findExchanges 63 = .ok (.getfield 106, 3) := by decide +kernel
theorem dX4_findExchanges_66 : decode cX4_findExchanges 66 = .ok (.istore 5, 2) := by decide +kernel
theorem dX4_findExchanges_68 : decode cX4_findExchanges 68 = .ok (.iconst (-1), 1) := by decide +kernel
theorem dX4_findExchanges_69 : decode cX4_findExchanges 69 = .ok (.istore 6, 2) := by decide +kernel
theorem dX4_findExchanges_71 : decode cX4_findExchanges 71 = .ok (.iconst (-1), 1) := by decide +kernel
theorem dX4_findExchanges_72 : decode cX4_findExchanges 72 = .ok (.istore 7, 2) := by decide +kernel
theorem dX4_findExchanges_74 : decode cX4_findExchanges 74 = .ok (.iconst 0, 1) := by decide +kernel
theorem dX4_findExchanges_75 : decode cX4_findExchanges 75 = .ok (.istore 8, 2) := by decide +kernel
theorem dX4_findExchanges_77 : decode cX4_findExchanges 77 = .ok (.iload 8, 2) := by decide +kernel
theorem dX4_findExchanges_79 : decode cX4_findExchanges 79 = .ok (.aload_n 0, 1) := by decide +kernel
theorem dX4_findExchanges_80 : decode cX4_findExchanges 80 = .ok (.getfield 31, 3) := by decide +kernel
theorem dX4_findExchanges_83 : decode cX4_findExchanges 83 = .ok (.getfield 50, 3) := by decide +kernel
theorem dX4_findExchanges_86 : decode cX4_findExchanges 86 = .ok (.if_icmp .ge 81, 3) := by decide +kernel
theorem dX4_findExchanges_89 : decode cX4_findExchanges 89 = .ok (.iload 8, 2) := by decide +kernel
theorem dX4_findExchanges_91 : decode cX4_findExchanges 91 = .ok (.iconst 1, 1) := by decide +kernel
theorem dX4_findExchanges_92 : decode cX4_findExchanges 92 = .ok (.iadd, 1) := by decide +kernel
theorem dX4_findExchanges_93 : decode cX4_findExchanges 93 = .ok (.istore 9, 2) := by decide +kernel
theorem dX4_findExchanges_95 : decode cX4_findExchanges 95 = .ok (.iload 9, 2) := by decide +kernel
theorem dX4_findExchanges_97 : decode cX4_findExchanges 97 = .ok (.aload_n 0, 1) := by decide +kernel
theorem dX4_findExchanges_98 : decode cX4_findExchanges 98 = .ok (.getfield 31, 3) := by decide +kernel
theorem dX4_findExchanges_101 : decode cX4_findExchanges 101 = .ok (.getfield 50, 3) := by decide +kernel
theorem dX4_findExchanges_104 : decode cX4_findExchanges 104 = .ok (.if_icmp .ge 57, 3) := by decide +kernel
theorem dX4_findExchanges_107 : decode cX4_findExchanges 107 = .ok (.aload_n 0, 1) := by decide +kernel
theorem dX4_findExchanges_108 : decode cX4_findExchanges 108 = .ok (.getfield 31, 3) := by decide +kernel
theorem dX4_findExchanges_111 : decode cX4_findExchanges 111 = .ok (.iload 8, 2) := by decide +kernel
theorem dX4_findExchanges_113 : decode cX4_findExchanges 113 = .ok (.iload 9, 2) := by decide +kernel
theorem dX4_findExchanges_115 : decode cX4_findExchanges 115 = .ok (.invokevirtual 113, 3) := by decide +kernel
theorem dX4_findExchanges_118 : decode cX4_findExchanges 118 = .ok (.aload_n 0, 1) := by decide +kernel
theorem dX4_findExchanges_119 : decode cX4_findExchanges 119 = .ok (.aload_n 1, 1) := by decide +kernel
theorem dX4_findExchanges_120 : decode cX4_findExchanges 120 = .ok (.invokevirtual 95, 3) := by decide +kernel
theorem dX4_findExchanges_123 : decode cX4_findExchanges 123 = .ok (.istore 10, 2) := by decide +kernel
theorem dX4_findExchanges_125 : decode cX4_findExchanges 125 = .ok (.aload_n 0, 1) := by decide +kernel
theorem dX4_findExchanges_126 : decode cX4_findExchanges 126 = .ok (.getfield 31, 3) := by decide +kernel
theorem dX4_findExchanges_129 : decode cX4_findExchanges 129 = .ok (.iload 8, 2) := by decide +kernel
theorem dX4_findExchanges_131 : decode cX4_findExchanges 131 = .ok (.iload 9, 2) := by decide +kernel
theorem dX4_findExchanges_133 : decode cX4_findExchanges 133 = .ok (.invokevirtual 113, 3) := by decide +kernel
theorem dX4_findExchanges_136 : decode cX4_findExchanges 136 = .ok (.iload 10, 2) := by decide +kernel
theorem dX4_findExchanges_138 : decode cX4_findExchanges 138 = .ok (.iload 5, 2) := by decide +kernel
theorem dX4_findExchanges_140 : decode cX4_findExchanges 140 = .ok (.if_icmp .ge 15, 3) := by decide +kernel
theorem dX4_findExchanges_143 : decode cX4_findExchanges 143 = .ok (.iload 10, 2) := by decide +kernel
theorem dX4_findExchanges_145 : decode cX4_findExchanges 145 = .ok (.istore 5, 2) := by decide +kernel
theorem dX4_findExchanges_147 : decode cX4_findExchanges 147 = .ok (.iload 8, 2) := by decide +kernel
theorem dX4_findExchanges_149 : decode cX4_findExchanges 149 = .ok (.istore 6, 2) := by decide +kernel
theorem dX4_findExchanges_151 : decode cX4_findExchanges 151 = .ok (.iload 9, 2) := by decide +kernel
theorem dX4_findExchanges_153 : decode cX4_findExchanges 153 = .ok (.istore 7, 2) := by decide +kernel
theorem dX4_findExchanges_155 : decode cX4_findExchanges 155 = .ok (.iinc 9 1, 3) := by decide +kernel
theorem dX4_findExchanges_158 : decode cX4_findExchanges 158 = .ok (.goto (-63), 3) := by decide +kernel
theorem dX4_findExchanges_161 : decode cX4_findExchanges 161 = .ok (.iinc 8 1, 3) := by decide +kernel
theorem dX4_findExchanges_164 : decode cX4_findExchanges 164 = .ok (.goto (-87), 3) := by decide +kernel
theorem dX4_findExchanges_167 : decode cX4_findExchanges 167 = .ok (.iload 6, 2) := by decide +kernel
theorem dX4_findExchanges_169 : decode cX4_findExchanges 169 = .ok (.iconst (-1), 1) := by decide +kernel
theorem dX4_findExchanges_170 : decode cX4_findExchanges 170 = .ok (.if_icmp .ne 6, 3) := by decide +kernel
theorem dX4_findExchanges_173 : decode cX4_findExchanges 173 = .ok (.goto 36, 3) := by decide +kernel
theorem dX4_findExchanges_176 : decode cX4_findExchanges 176 = .ok (.aload_n 0, 1) := by decide +kernel
theorem dX4_findExchanges_177 : decode cX4_findExchanges 177 = .ok (.getfield 31, 3) := by decide +kernel
theorem dX4_findExchanges_180 : decode cX4_findExchanges 180 = .ok (.iload 6, 2) := by decide +kernel
theorem dX4_findExchanges_182 : decode cX4_findExchanges 182 = .ok (.iload 7, 2) := by decide +kernel
theorem dX4_findExchanges_184 : decode cX4_findExchanges 184 = .ok (.invokevirtual 113, 3) := by decide +kernel
theorem dX4_findExchanges_187 : decode cX4_findExchanges 187 = .ok (.aload_n 0, 1) := by decide +kernel
theorem dX4_findExchanges_188 : decode cX4_findExchanges 188 = .ok (.iload 5, 2) := by decide +kernel
theorem dX4_findExchanges_190 : decode cX4_findExchanges 190 = .ok (.putfield 106, 3) := by decide +kernel
theorem dX4_findExchanges_193 : decode cX4_findExchanges 193 = .ok (.aload_n 0, 1) := by decide +kernel
theorem dX4_findExchanges_194 : decode cX4_findExchanges 194 = .ok (.dup, 1) := by decide +kernel
theorem dX4_findExchanges_195 : decode cX4_findExchanges 195 = .ok (.getfield 109, 3) := by decide +kernel
theorem dX4_findExchanges_198 : decode cX4_findExchanges 198 = .ok (.iconst 1, 1) := by decide +kernel
theorem dX4_findExchanges_199 : decode cX4_findExchanges 199 = .ok (.iadd, 1) := by decide +kernel
theorem dX4_findExchanges_200 : decode cX4_findExchanges 200 = .ok (.putfield 109, 3) := by decide +kernel
theorem dX4_findExchanges_203 : decode cX4_findExchanges 203 = .ok (.iinc 4 1, 3) := by decide +kernel
theorem dX4_findExchanges_206 : decode cX4_findExchanges 206 = .ok (.goto (-151), 3) := by decide +kernel
theorem dX4_findExchanges_209 : decode cX4_findExchanges 209 = .ok (.aload_n 0, 1) := by decide +kernel
theorem dX4_findExchanges_210 : decode cX4_findExchanges 210 = .ok (.getfield 31, 3) := by decide +kernel
theorem dX4_findExchanges_213 : decode cX4_findExchanges 213 = .ok (.getfield 53, 3) := by decide +kernel
theorem dX4_findExchanges_216 : decode cX4_findExchanges 216 = .ok (.iconst 0, 1) := by decide +kernel
theorem dX4_findExchanges_217 : decode cX4_findExchanges 217 = .ok (.aload_n 0, 1) := by decide +kernel
theorem dX4_findExchanges_218 : decode cX4_findExchanges 218 = .ok (.getfield 15, 3) := by decide +kernel
theorem dX4_findExchanges_221 : decode cX4_findExchanges 221 = .ok (.iconst 0, 1) := by decide +kernel
theorem dX4_findExchanges_222 : decode cX4_findExchanges 222 = .ok (.bipush 12, 2) := by decide +kernel
theorem dX4_findExchanges_224 : decode cX4_findExchanges 224 = .ok (.invokestatic 89, 3) := by decide +kernel
theorem dX4_findExchanges_227 : decode cX4_findExchanges 227 = .ok (.return_, 1) := by decide +kernel
theorem dX4_findTwo_0 : decode cX4_findTwo 0 = .ok (.aload_n 0, 1) := by decide +kernel
theorem dX4_findTwo_1 : decode cX4_findTwo 1 = .ok (.getfield 25, 3) := by decide +kernel
theorem dX4_findTwo_4 : decode cX4_findTwo 4 = .ok (.iload_n 3, 1) := by decide +kernel
theorem dX4_findTwo_5 : decode cX4_findTwo 5 = .ok (.if_icmp .ne 4, 3) := by decide +kernel
theorem dX4_findTwo_8 : decode cX4_findTwo 8 = .ok (.return_, 1) := by decide +kernel
theorem dX4_findTwo_9 : decode cX4_findTwo 9 = .ok (.aload_n 0, 1) := by decide +kernel
theorem dX4_findTwo_10 : decode cX4_findTwo 10 = .ok (.iload_n 3, 1) := by decide +kernel
theorem dX4_findTwo_11 : decode cX4_findTwo 11 = .ok (.putfield 25, 3) := by decide +kernel
theorem dX4_findTwo_14 : decode cX4_findTwo 14 = .ok (.aload_n 0, 1) := by decide +kernel
theorem dX4_findTwo_15 : decode cX4_findTwo 15 = .ok (.aload_n 1, 1) := by decide +kernel
theorem dX4_findTwo_16 : decode cX4_findTwo 16 = .ok (.aload_n 2, 1) := by decide +kernel
theorem dX4_findTwo_17 : decode cX4_findTwo 17 = .ok (.invokevirtual 86, 3) := by decide +kernel
theorem dX4_findTwo_20 : decode cX4_findTwo 20 = .ok (.aload_n 0, 1) := by decide +kernel
theorem dX4_findTwo_21 : decode cX4_findTwo 21 = .ok (.iconst (-1), 1) := by decide +kernel
theorem dX4_findTwo_22 : decode cX4_findTwo 22 = .ok (.putfield 117, 3) := by decide +kernel
theorem dX4_findTwo_25 : decode cX4_findTwo 25 = .ok (.iconst 0, 1) := by decide +kernel
theorem dX4_findTwo_26 : decode cX4_findTwo 26 = .ok (.istore 4, 2) := by decide +kernel
theorem dX4_findTwo_28 : decode cX4_findTwo 28 = .ok (.iload 4, 2) := by decide +kernel
theorem dX4_findTwo_30 : decode cX4_findTwo 30 = .ok (.iconst 1, 1) := by decide +kernel
theorem dX4_findTwo_31 : decode cX4_findTwo 31 = .ok (.aload_n 2, 1) := by decide +kernel
theorem dX4_findTwo_32 : decode cX4_findTwo 32 = .ok (.getfield 50, 3) := by decide +kernel
theorem dX4_findTwo_35 : decode cX4_findTwo 35 = .ok (.ishl, 1) := by decide +kernel
theorem dX4_findTwo_36 : decode cX4_findTwo 36 = .ok (.if_icmp .ge 162, 3) := by decide +kernel
theorem dX4_findTwo_39 : decode cX4_findTwo 39 = .ok (.iload 4, 2) := by decide +kernel
theorem dX4_findTwo_41 : decode cX4_findTwo 41 = .ok (.aload_n 2, 1) := by decide +kernel
theorem dX4_findTwo_42 : decode cX4_findTwo 42 = .ok (.getfield 53, 3) := by decide +kernel
theorem dX4_findTwo_45 : decode cX4_findTwo 45 = .ok (.iconst 0, 1) := by decide +kernel
theorem dX4_findTwo_46 : decode cX4_findTwo 46 = .ok (.iaload, 1) := by decide +kernel
theorem dX4_findTwo_47 : decode cX4_findTwo 47 = .ok (.ishr, 1) := by decide +kernel
theorem dX4_findTwo_48 : decode cX4_findTwo 48 = .ok (.iconst 1, 1) := by decide +kernel
theorem dX4_findTwo_49 : decode cX4_findTwo 49 = .ok (.iand, 1) := by decide +kernel
theorem dX4_findTwo_50 : decode cX4_findTwo 50 = .ok (.iconst 1, 1) := by decide +kernel
theorem dX4_findTwo_51 : decode cX4_findTwo 51 = .ok (.if_icmp .ne 6, 3) := by decide +kernel
theorem dX4_findTwo_54 : decode cX4_findTwo 54 = .ok (.goto 138, 3) := by decide +kernel
theorem dX4_findTwo_57 : decode cX4_findTwo 57 = .ok (.iconst 0, 1) := by decide +kernel
theorem dX4_findTwo_58 : decode cX4_findTwo 58 = .ok (.istore 5, 2) := by decide +kernel
theorem dX4_findTwo_60 : decode cX4_findTwo 60 = .ok (.iconst 0, 1) := by decide +kernel
theorem dX4_findTwo_61 : decode cX4_findTwo 61 = .ok (.istore 6, 2) := by decide +kernel
theorem dX4_findTwo_63 : decode cX4_findTwo 63 = .ok (.iload 6, 2) := by decide +kernel
theorem dX4_findTwo_65 : decode cX4_findTwo 65 = .ok (.iconst 1, 1) := by decide +kernel
theorem dX4_findTwo_66 : decode cX4_findTwo 66 = .ok (.if_icmp .gt 97, 3) := by decide +kernel
theorem dX4_findTwo_69 : decode cX4_findTwo 69 = .ok (.aload_n 0, 1) := by decide +kernel
theorem dX4_findTwo_70 : decode cX4_findTwo 70 = .ok (.getfield 31, 3) := by decide +kernel
theorem dX4_findTwo_73 : decode cX4_findTwo 73 = .ok (.iconst 0, 1) := by decide +kernel
theorem dX4_findTwo_74 : decode cX4_findTwo 74 = .ok (.putfield 50, 3) := by decide +kernel
theorem dX4_findTwo_77 : decode cX4_findTwo 77 = .ok (.iconst 0, 1) := by decide +kernel
theorem dX4_findTwo_78 : decode cX4_findTwo 78 = .ok (.istore 7, 2) := by decide +kernel
theorem dX4_findTwo_80 : decode cX4_findTwo 80 = .ok (.iload 7, 2) := by decide +kernel
theorem dX4_findTwo_82 : decode cX4_findTwo 82 = .ok (.aload_n 2, 1) := by decide +kernel
theorem dX4_findTwo_83 : decode cX4_findTwo 83 = .ok (.getfield 50, 3) := by decide +kernel
theorem dX4_findTwo_86 : decode cX4_findTwo 86 = .ok (.if_icmp .ge 61, 3) := by decide +kernel
theorem dX4_findTwo_89 : decode cX4_findTwo 89 = .ok (.iload 4, 2) := by decide +kernel
theorem dX4_findTwo_91 : decode cX4_findTwo 91 = .ok (.aload_n 2, 1) := by decide +kernel
theorem dX4_findTwo_92 : decode cX4_findTwo 92 = .ok (.getfield 53, 3) := by decide +kernel
theorem dX4_findTwo_95 : decode cX4_findTwo 95 = .ok (.iload 7, 2) := by decide +kernel
theorem dX4_findTwo_97 : decode cX4_findTwo 97 = .ok (.iaload, 1) := by decide +kernel
theorem dX4_findTwo_98 : decode cX4_findTwo 98 = .ok (.ishr, 1) := by decide +kernel
theorem dX4_findTwo_99 : decode cX4_findTwo 99 = .ok (.iconst 1, 1) := by decide +kernel
theorem dX4_findTwo_100 : decode cX4_findTwo 100 = .ok (.iand, 1) := by decide +kernel
theorem dX4_findTwo_101 : decode cX4_findTwo 101 = .ok (.iload 6, 2) := by decide +kernel
theorem dX4_findTwo_103 : decode cX4_findTwo 103 = .ok (.if_icmp .ne 38, 3) := by decide +kernel
theorem dX4_findTwo_106 : decode cX4_findTwo 106 = .ok (.aload_n 0, 1) := by decide +kernel
theorem dX4_findTwo_107 : decode cX4_findTwo 107 = .ok (.getfield 31, 3) := by decide +kernel
theorem dX4_findTwo_110 : decode cX4_findTwo 110 = .ok (.getfield 53, 3) := by decide +kernel
theorem dX4_findTwo_113 : decode cX4_findTwo 113 = .ok (.aload_n 0, 1) := by decide +kernel
theorem dX4_findTwo_114 : decode cX4_findTwo 114 = .ok (.getfield 31, 3) := by decide +kernel
theorem dX4_findTwo_117 : decode cX4_findTwo 117 = .ok (.getfield 50, 3) := by decide +kernel
theorem dX4_findTwo_120 : decode cX4_findTwo 120 = .ok (.aload_n 2, 1) := by decide +kernel
theorem dX4_findTwo_121 : decode cX4_findTwo 121 = .ok (.getfield 53, 3) := by decide +kernel
theorem dX4_findTwo_124 : decode cX4_findTwo 124 = .ok (.iload 7, 2) := by decide +kernel
theorem dX4_findTwo_126 : decode cX4_findTwo 126 = .ok (.iaload, 1) := by decide +kernel
theorem dX4_findTwo_127 : decode cX4_findTwo 127 = .ok (.iastore, 1) := by decide +kernel
theorem dX4_findTwo_128 : decode cX4_findTwo 128 = .ok (.aload_n 0, 1) := by decide +kernel
theorem dX4_findTwo_129 : decode cX4_findTwo 129 = .ok (.getfield 31, 3) := by decide +kernel
theorem dX4_findTwo_132 : decode cX4_findTwo 132 = .ok (.dup, 1) := by decide +kernel
theorem dX4_findTwo_133 : decode cX4_findTwo 133 = .ok (.getfield 50, 3) := by decide +kernel
theorem dX4_findTwo_136 : decode cX4_findTwo 136 = .ok (.iconst 1, 1) := by decide +kernel
theorem dX4_findTwo_137 : decode cX4_findTwo 137 = .ok (.iadd, 1) := by decide +kernel
theorem dX4_findTwo_138 : decode cX4_findTwo 138 = .ok (.putfield 50, 3) := by decide +kernel
theorem dX4_findTwo_141 : decode cX4_findTwo 141 = .ok (.iinc 7 1, 3) := by decide +kernel
theorem dX4_findTwo_144 : decode cX4_findTwo 144 = .ok (.goto (-64), 3) := by decide +kernel
theorem dX4_findTwo_147 : decode cX4_findTwo 147 = .ok (.iload 5, 2) := by decide +kernel
theorem dX4_findTwo_149 : decode cX4_findTwo 149 = .ok (.aload_n 0, 1) := by decide +kernel
theorem dX4_findTwo_150 : decode cX4_findTwo 150 = .ok (.aload_n 1, 1) := by decide +kernel
theorem dX4_findTwo_151 : decode cX4_findTwo 151 = .ok (.invokevirtual 95, 3) := by decide +kernel
theorem dX4_findTwo_154 : decode cX4_findTwo 154 = .ok (.iadd, 1) := by decide +kernel
theorem dX4_findTwo_155 : decode cX4_findTwo 155 = .ok (.istore 5, 2) := by decide +kernel
theorem dX4_findTwo_157 : decode cX4_findTwo 157 = .ok (.iinc 6 1, 3) := by decide +kernel
theorem dX4_findTwo_160 : decode cX4_findTwo 160 = .ok (.goto (-97), 3) := by decide +kernel
theorem dX4_findTwo_163 : decode cX4_findTwo 163 = .ok (.aload_n 0, 1) := by decide +kernel
theorem dX4_findTwo_164 : decode cX4_findTwo 164 = .ok (.getfield 117, 3) := by decide +kernel
theorem dX4_findTwo_167 : decode cX4_findTwo 167 = .ok (.iconst (-1), 1) := by decide +kernel
theorem dX4_findTwo_168 : decode cX4_findTwo 168 = .ok (.if_icmp .eq 12, 3) := by decide +kernel
theorem dX4_findTwo_171 : decode cX4_findTwo 171 = .ok (.iload 5, 2) := by decide +kernel
theorem dX4_findTwo_173 : decode cX4_findTwo 173 = .ok (.aload_n 0, 1) := by decide +kernel
theorem dX4_findTwo_174 : decode cX4_findTwo 174 = .ok (.getfield 117, 3) := by decide +kernel
theorem dX4_findTwo_177 : decode cX4_findTwo 177 = .ok (.if_icmp .ge 15, 3) := by decide +kernel
theorem dX4_findTwo_180 : decode cX4_findTwo 180 = .ok (.aload_n 0, 1) := by decide +kernel
theorem dX4_findTwo_181 : decode cX4_findTwo 181 = .ok (.iload 5, 2) := by decide +kernel
theorem dX4_findTwo_183 : decode cX4_findTwo 183 = .ok (.putfield 117, 3) := by decide +kernel
theorem dX4_findTwo_186 : decode cX4_findTwo 186 = .ok (.aload_n 0, 1) := by decide +kernel
theorem dX4_findTwo_187 : decode cX4_findTwo 187 = .ok (.iload 4, 2) := by decide +kernel
theorem dX4_findTwo_189 : decode cX4_findTwo 189 = .ok (.putfield 120, 3) := by decide +kernel
theorem dX4_findTwo_192 : decode cX4_findTwo 192 = .ok (.iinc 4 1, 3) := by decide +kernel
theorem dX4_findTwo_195 : decode cX4_findTwo 195 = .ok (.goto (-167), 3) := by decide +kernel
theorem dX4_findTwo_198 : decode cX4_findTwo 198 = .ok (.return_, 1) := by decide +kernel
theorem dX4_nextOrder_0 : decode cX4_nextOrder 0 = .ok (.iload_n 1, 1) := by decide +kernel
theorem dX4_nextOrder_1 : decode cX4_nextOrder 1 = .ok (.iconst 2, 1) := by decide +kernel
theorem dX4_nextOrder_2 : decode cX4_nextOrder 2 = .ok (.isub, 1) := by decide +kernel
theorem dX4_nextOrder_3 : decode cX4_nextOrder 3 = .ok (.istore_n 2, 1) := by decide +kernel
theorem dX4_nextOrder_4 : decode cX4_nextOrder 4 = .ok (.iload_n 2, 1) := by decide +kernel
theorem dX4_nextOrder_5 : decode cX4_nextOrder 5 = .ok (.ifCond .lt 20, 3) := by decide +kernel
theorem dX4_nextOrder_8 : decode cX4_nextOrder 8 = .ok (.aload_n 0, 1) := by decide +kernel
theorem dX4_nextOrder_9 : decode cX4_nextOrder 9 = .ok (.iload_n 2, 1) := by decide +kernel
theorem dX4_nextOrder_10 : decode cX4_nextOrder 10 = .ok (.iaload, 1) := by decide +kernel
theorem dX4_nextOrder_11 : decode cX4_nextOrder 11 = .ok (.aload_n 0, 1) := by decide +kernel
theorem dX4_nextOrder_12 : decode cX4_nextOrder 12 = .ok (.iload_n 2, 1) := by decide +kernel
theorem dX4_nextOrder_13 : decode cX4_nextOrder 13 = .ok (.iconst 1, 1) := by decide +kernel
theorem dX4_nextOrder_14 : decode cX4_nextOrder 14 = .ok (.iadd, 1) := by decide +kernel
theorem dX4_nextOrder_15 : decode cX4_nextOrder 15 = .ok (.iaload, 1) := by decide +kernel
theorem dX4_nextOrder_16 : decode cX4_nextOrder 16 = .ok (.if_icmp .le 9, 3) := by decide +kernel
theorem dX4_nextOrder_19 : decode cX4_nextOrder 19 = .ok (.iinc 2 (-1), 3) := by decide +kernel
theorem dX4_nextOrder_22 : decode cX4_nextOrder 22 = .ok (.goto (-18), 3) := by decide +kernel
theorem dX4_nextOrder_25 : decode cX4_nextOrder 25 = .ok (.iload_n 2, 1) := by decide +kernel
theorem dX4_nextOrder_26 : decode cX4_nextOrder 26 = .ok (.ifCond .ge 5, 3) := by decide +kernel
theorem dX4_nextOrder_29 : decode cX4_nextOrder 29 = .ok (.iconst 0, 1) := by decide +kernel
theorem dX4_nextOrder_30 : decode cX4_nextOrder 30 = .ok (.ireturn, 1) := by decide +kernel
theorem dX4_nextOrder_31 : decode cX4_nextOrder 31 = .ok (.iload_n 1, 1) := by decide +kernel
theorem dX4_nextOrder_32 : decode cX4_nextOrder 32 = .ok (.iconst 1, 1) := by decide +kernel
theorem dX4_nextOrder_33 : decode cX4_nextOrder 33 = .ok (.isub, 1) := by decide +kernel
theorem dX4_nextOrder_34 : decode cX4_nextOrder 34 = .ok (.istore_n 3, 1) := by decide +kernel
theorem dX4_nextOrder_35 : decode cX4_nextOrder 35 = .ok (.iload_n 3, 1) := by decide +kernel
theorem dX4_nextOrder_36 : decode cX4_nextOrder 36 = .ok (.iload_n 2, 1) := by decide +kernel
theorem dX4_nextOrder_37 : decode cX4_nextOrder 37 = .ok (.if_icmp .le 18, 3) := by decide +kernel
theorem dX4_nextOrder_40 : decode cX4_nextOrder 40 = .ok (.aload_n 0, 1) := by decide +kernel
theorem dX4_nextOrder_41 : decode cX4_nextOrder 41 = .ok (.iload_n 3, 1) := by decide +kernel
theorem dX4_nextOrder_42 : decode cX4_nextOrder 42 = .ok (.iaload, 1) := by decide +kernel
theorem dX4_nextOrder_43 : decode cX4_nextOrder 43 = .ok (.aload_n 0, 1) := by decide +kernel
theorem dX4_nextOrder_44 : decode cX4_nextOrder 44 = .ok (.iload_n 2, 1) := by decide +kernel
theorem dX4_nextOrder_45 : decode cX4_nextOrder 45 = .ok (.iaload, 1) := by decide +kernel
theorem dX4_nextOrder_46 : decode cX4_nextOrder 46 = .ok (.if_icmp .ge 9, 3) := by decide +kernel
theorem dX4_nextOrder_49 : decode cX4_nextOrder 49 = .ok (.iinc 3 (-1), 3) := by decide +kernel
theorem dX4_nextOrder_52 : decode cX4_nextOrder 52 = .ok (.goto (-17), 3) := by decide +kernel
theorem dX4_nextOrder_55 : decode cX4_nextOrder 55 = .ok (.aload_n 0, 1) := by decide +kernel
theorem dX4_nextOrder_56 : decode cX4_nextOrder 56 = .ok (.iload_n 2, 1) := by decide +kernel
theorem dX4_nextOrder_57 : decode cX4_nextOrder 57 = .ok (.iaload, 1) := by decide +kernel
theorem dX4_nextOrder_58 : decode cX4_nextOrder 58 = .ok (.istore 4, 2) := by decide +kernel
theorem dX4_nextOrder_60 : decode cX4_nextOrder 60 = .ok (.aload_n 0, 1) := by decide +kernel
theorem dX4_nextOrder_61 : decode cX4_nextOrder 61 = .ok (.iload_n 2, 1) := by decide +kernel
theorem dX4_nextOrder_62 : decode cX4_nextOrder 62 = .ok (.aload_n 0, 1) := by decide +kernel
theorem dX4_nextOrder_63 : decode cX4_nextOrder 63 = .ok (.iload_n 3, 1) := by decide +kernel
theorem dX4_nextOrder_64 : decode cX4_nextOrder 64 = .ok (.iaload, 1) := by decide +kernel
theorem dX4_nextOrder_65 : decode cX4_nextOrder 65 = .ok (.iastore, 1) := by decide +kernel
theorem dX4_nextOrder_66 : decode cX4_nextOrder 66 = .ok (.aload_n 0, 1) := by decide +kernel
theorem dX4_nextOrder_67 : decode cX4_nextOrder 67 = .ok (.iload_n 3, 1) := by decide +kernel
theorem dX4_nextOrder_68 : decode cX4_nextOrder 68 = .ok (.iload 4, 2) := by decide +kernel
theorem dX4_nextOrder_70 : decode cX4_nextOrder 70 = .ok (.iastore, 1) := by decide +kernel
theorem dX4_nextOrder_71 : decode cX4_nextOrder 71 = .ok (.iload_n 2, 1) := by decide +kernel
theorem dX4_nextOrder_72 : decode cX4_nextOrder 72 = .ok (.iconst 1, 1) := by decide +kernel
theorem dX4_nextOrder_73 : decode cX4_nextOrder 73 = .ok (.iadd, 1) := by decide +kernel
theorem dX4_nextOrder_74 : decode cX4_nextOrder 74 = .ok (.istore 5, 2) := by decide +kernel
theorem dX4_nextOrder_76 : decode cX4_nextOrder 76 = .ok (.iload_n 1, 1) := by decide +kernel
theorem dX4_nextOrder_77 : decode cX4_nextOrder 77 = .ok (.iconst 1, 1) := by decide +kernel
theorem dX4_nextOrder_78 : decode cX4_nextOrder 78 = .ok (.isub, 1) := by decide +kernel
theorem dX4_nextOrder_79 : decode cX4_nextOrder 79 = .ok (.istore 6, 2) := by decide +kernel
theorem dX4_nextOrder_81 : decode cX4_nextOrder 81 = .ok (.iload 5, 2) := by decide +kernel
theorem dX4_nextOrder_83 : decode cX4_nextOrder 83 = .ok (.iload 6, 2) := by decide +kernel
theorem dX4_nextOrder_85 : decode cX4_nextOrder 85 = .ok (.if_icmp .ge 32, 3) := by decide +kernel
theorem dX4_nextOrder_88 : decode cX4_nextOrder 88 = .ok (.aload_n 0, 1) := by decide +kernel
theorem dX4_nextOrder_89 : decode cX4_nextOrder 89 = .ok (.iload 5, 2) := by decide +kernel
theorem dX4_nextOrder_91 : decode cX4_nextOrder 91 = .ok (.iaload, 1) := by decide +kernel
theorem dX4_nextOrder_92 : decode cX4_nextOrder 92 = .ok (.istore 4, 2) := by decide +kernel
theorem dX4_nextOrder_94 : decode cX4_nextOrder 94 = .ok (.aload_n 0, 1) := by decide +kernel
theorem dX4_nextOrder_95 : decode cX4_nextOrder 95 = .ok (.iload 5, 2) := by decide +kernel
theorem dX4_nextOrder_97 : decode cX4_nextOrder 97 = .ok (.aload_n 0, 1) := by decide +kernel
theorem dX4_nextOrder_98 : decode cX4_nextOrder 98 = .ok (.iload 6, 2) := by decide +kernel
theorem dX4_nextOrder_100 : decode cX4_nextOrder 100 = .ok (.iaload, 1) := by decide +kernel
theorem dX4_nextOrder_101 : decode cX4_nextOrder 101 = .ok (.iastore, 1) := by decide +kernel
theorem dX4_nextOrder_102 : decode cX4_nextOrder 102 = .ok (.aload_n 0, 1) := by decide +kernel
theorem dX4_nextOrder_103 : decode cX4_nextOrder 103 = .ok (.iload 6, 2) := by decide +kernel
theorem dX4_nextOrder_105 : decode cX4_nextOrder 105 = .ok (.iload 4, 2) := by decide +kernel
theorem dX4_nextOrder_107 : decode cX4_nextOrder 107 = .ok (.iastore, 1) := by decide +kernel
theorem dX4_nextOrder_108 : decode cX4_nextOrder 108 = .ok (.iinc 5 1, 3) := by decide +kernel
theorem dX4_nextOrder_111 : decode cX4_nextOrder 111 = .ok (.iinc 6 (-1), 3) := by decide +kernel
theorem dX4_nextOrder_114 : decode cX4_nextOrder 114 = .ok (.goto (-33), 3) := by decide +kernel
theorem dX4_nextOrder_117 : decode cX4_nextOrder 117 = .ok (.iconst 1, 1) := by decide +kernel
theorem dX4_nextOrder_118 : decode cX4_nextOrder 118 = .ok (.ireturn, 1) := by decide +kernel
theorem dX5_add_0 : decode cX5_add 0 = .ok (.aload_n 0, 1) := by decide +kernel
theorem dX5_add_1 : decode cX5_add 1 = .ok (.getfield 91, 3) := by decide +kernel
theorem dX5_add_4 : decode cX5_add 4 = .ok (.sipush 1600, 3) := by decide +kernel
theorem dX5_add_7 : decode cX5_add 7 = .ok (.if_icmp .gt 43, 3) := by decide +kernel
theorem dX5_add_10 : decode cX5_add 10 = .ok (.aload_n 0, 1) := by decide +kernel
theorem dX5_add_11 : decode cX5_add 11 = .ok (.getfield 19, 3) := by decide +kernel
theorem dX5_add_14 : decode cX5_add 14 = .ok (.aload_n 0, 1) := by decide +kernel
theorem dX5_add_15 : decode cX5_add 15 = .ok (.getfield 91, 3) := by decide +kernel
theorem dX5_add_18 : decode cX5_add 18 = .ok (.iload_n 1, 1) := by decide +kernel
theorem dX5_add_19 : decode cX5_add 19 = .ok (.iastore, 1) := by decide +kernel
theorem dX5_add_20 : decode cX5_add 20 = .ok (.aload_n 0, 1) := by decide +kernel
theorem dX5_add_21 : decode cX5_add 21 = .ok (.getfield 22, 3) := by decide +kernel
theorem dX5_add_24 : decode cX5_add 24 = .ok (.aload_n 0, 1) := by decide +kernel
theorem dX5_add_25 : decode cX5_add 25 = .ok (.getfield 91, 3) := by decide +kernel
theorem dX5_add_28 : decode cX5_add 28 = .ok (.iload_n 2, 1) := by decide +kernel
theorem dX5_add_29 : decode cX5_add 29 = .ok (.iastore, 1) := by decide +kernel
theorem dX5_add_30 : decode cX5_add 30 = .ok (.aload_n 0, 1) := by decide +kernel
theorem dX5_add_31 : decode cX5_add 31 = .ok (.getfield 25, 3) := by decide +kernel
theorem dX5_add_34 : decode cX5_add 34 = .ok (.aload_n 0, 1) := by decide +kernel
theorem dX5_add_35 : decode cX5_add 35 = .ok (.getfield 91, 3) := by decide +kernel
theorem dX5_add_38 : decode cX5_add 38 = .ok (.iload_n 3, 1) := by decide +kernel
theorem dX5_add_39 : decode cX5_add 39 = .ok (.iastore, 1) := by decide +kernel
theorem dX5_add_40 : decode cX5_add 40 = .ok (.aload_n 0, 1) := by decide +kernel
theorem dX5_add_41 : decode cX5_add 41 = .ok (.dup, 1) := by decide +kernel
theorem dX5_add_42 : decode cX5_add 42 = .ok (.getfield 91, 3) := by decide +kernel
theorem dX5_add_45 : decode cX5_add 45 = .ok (.iconst 1, 1) := by decide +kernel
theorem dX5_add_46 : decode cX5_add 46 = .ok (.iadd, 1) := by decide +kernel
theorem dX5_add_47 : decode cX5_add 47 = .ok (.putfield 91, 3) := by decide +kernel
theorem dX5_add_50 : decode cX5_add 50 = .ok (.return_, 1) := by decide +kernel
theorem dX5_fails_0 : decode cX5_fails 0 = .ok (.aload_n 0, 1) := by decide +kernel
theorem dX5_fails_1 : decode cX5_fails 1 = .ok (.iload_n 1, 1) := by decide +kernel
theorem dX5_fails_2 : decode cX5_fails 2 = .ok (.putfield 50, 3) := by decide +kernel
theorem dX5_fails_5 : decode cX5_fails 5 = .ok (.iload_n 1, 1) := by decide +kernel
theorem dX5_fails_6 : decode cX5_fails 6 = .ok (.iconst 1, 1) := by decide +kernel
theorem dX5_fails_7 : decode cX5_fails 7 = .ok (.if_icmp .ne 20, 3) := by decide +kernel
theorem dX5_fails_10 : decode cX5_fails 10 = .ok (.aload_n 0, 1) := by decide +kernel
theorem dX5_fails_11 : decode cX5_fails 11 = .ok (.getfield 19, 3) := by decide +kernel
theorem dX5_fails_14 : decode cX5_fails 14 = .ok (.aload_n 0, 1) := by decide +kernel
theorem dX5_fails_15 : decode cX5_fails 15 = .ok (.getfield 53, 3) := by decide +kernel
theorem dX5_fails_18 : decode cX5_fails 18 = .ok (.iaload, 1) := by decide +kernel
theorem dX5_fails_19 : decode cX5_fails 19 = .ok (.iconst 1, 1) := by decide +kernel
theorem dX5_fails_20 : decode cX5_fails 20 = .ok (.if_icmp .ne 7, 3) := by decide +kernel
theorem dX5_fails_23 : decode cX5_fails 23 = .ok (.iconst 1, 1) := by decide +kernel
theorem dX5_fails_24 : decode cX5_fails 24 = .ok (.goto 4, 3) := by decide +kernel
theorem dX5_fails_27 : decode cX5_fails 27 = .ok (.iconst 0, 1) := by decide +kernel
theorem dX5_fails_28 : decode cX5_fails 28 = .ok (.istore_n 2, 1) := by decide +kernel
theorem dX5_fails_29 : decode cX5_fails 29 = .ok (.aload_n 0, 1) := by decide +kernel
theorem dX5_fails_30 : decode cX5_fails 30 = .ok (.iload_n 2, 1) := by decide +kernel
theorem dX5_fails_31 : decode cX5_fails 31 = .ok (.ifCond .eq 15, 3) := by decide +kernel
theorem dX5_fails_34 : decode cX5_fails 34 = .ok (.aload_n 0, 1) := by decide +kernel
theorem dX5_fails_35 : decode cX5_fails 35 = .ok (.getfield 22, 3) := by decide +kernel
theorem dX5_fails_38 : decode cX5_fails 38 = .ok (.aload_n 0, 1) := by decide +kernel
theorem dX5_fails_39 : decode cX5_fails 39 = .ok (.getfield 53, 3) := by decide +kernel
theorem dX5_fails_42 : decode cX5_fails 42 = .ok (.iaload, 1) := by decide +kernel
theorem dX5_fails_43 : decode cX5_fails 43 = .ok (.goto 12, 3) := by decide +kernel
theorem dX5_fails_46 : decode cX5_fails 46 = .ok (.aload_n 0, 1) := by decide +kernel
theorem dX5_fails_47 : decode cX5_fails 47 = .ok (.getfield 25, 3) := by decide +kernel
theorem dX5_fails_50 : decode cX5_fails 50 = .ok (.aload_n 0, 1) := by decide +kernel
theorem dX5_fails_51 : decode cX5_fails 51 = .ok (.getfield 53, 3) := by decide +kernel
theorem dX5_fails_54 : decode cX5_fails 54 = .ok (.iaload, 1) := by decide +kernel
theorem dX5_fails_55 : decode cX5_fails 55 = .ok (.putfield 9, 3) := by decide +kernel
theorem dX5_fails_58 : decode cX5_fails 58 = .ok (.iconst 0, 1) := by decide +kernel
theorem dX5_fails_59 : decode cX5_fails 59 = .ok (.ireturn, 1) := by decide +kernel
theorem dX5_isSign_0 : decode cX5_isSign 0 = .ok (.aload_n 0, 1) := by decide +kernel
theorem dX5_isSign_1 : decode cX5_isSign 1 = .ok (.getfield 19, 3) := by decide +kernel
theorem dX5_isSign_4 : decode cX5_isSign 4 = .ok (.aload_n 0, 1) := by decide +kernel
theorem dX5_isSign_5 : decode cX5_isSign 5 = .ok (.getfield 53, 3) := by decide +kernel
theorem dX5_isSign_8 : decode cX5_isSign 8 = .ok (.iaload, 1) := by decide +kernel
theorem dX5_isSign_9 : decode cX5_isSign 9 = .ok (.iconst 5, 1) := by decide +kernel
theorem dX5_isSign_10 : decode cX5_isSign 10 = .ok (.if_icmp .ne 20, 3) := by decide +kernel
theorem dX5_isSign_13 : decode cX5_isSign 13 = .ok (.aload_n 0, 1) := by decide +kernel
theorem dX5_isSign_14 : decode cX5_isSign 14 = .ok (.getfield 22, 3) := by decide +kernel
theorem dX5_isSign_17 : decode cX5_isSign 17 = .ok (.aload_n 0, 1) := by decide +kernel
theorem dX5_isSign_18 : decode cX5_isSign 18 = .ok (.getfield 53, 3) := by decide +kernel
theorem dX5_isSign_21 : decode cX5_isSign 21 = .ok (.iaload, 1) := by decide +kernel
theorem dX5_isSign_22 : decode cX5_isSign 22 = .ok (.iload_n 1, 1) := by decide +kernel
theorem dX5_isSign_23 : decode cX5_isSign 23 = .ok (.if_icmp .ne 7, 3) := by decide +kernel
theorem dX5_isSign_26 : decode cX5_isSign 26 = .ok (.iconst 1, 1) := by decide +kernel
theorem dX5_isSign_27 : decode cX5_isSign 27 = .ok (.goto 4, 3) := by decide +kernel
theorem dX5_isSign_30 : decode cX5_isSign 30 = .ok (.iconst 0, 1) := by decide +kernel
theorem dX5_isSign_31 : decode cX5_isSign 31 = .ok (.ireturn, 1) := by decide +kernel
theorem dX5_kindOf_0 : decode cX5_kindOf 0 = .ok (.iload_n 0, 1) := by decide +kernel
theorem dX5_kindOf_1 : decode cX5_kindOf 1 = .ok (.bipush 32, 2) := by decide +kernel
theorem dX5_kindOf_3 : decode cX5_kindOf 3 = .ok (.if_icmp .eq 9, 3) := by decide +kernel
theorem dX5_kindOf_6 : decode cX5_kindOf 6 = .ok (.iload_n 0, 1) := by decide +kernel
theorem dX5_kindOf_7 : decode cX5_kindOf 7 = .ok (.bipush 10, 2) := by decide +kernel
theorem dX5_kindOf_9 : decode cX5_kindOf 9 = .ok (.if_icmp .ne 5, 3) := by decide +kernel
theorem dX5_kindOf_12 : decode cX5_kindOf 12 = .ok (.iconst 0, 1) := by decide +kernel
theorem dX5_kindOf_13 : decode cX5_kindOf 13 = .ok (.ireturn, 1) := by decide +kernel
theorem dX5_kindOf_14 : decode cX5_kindOf 14 = .ok (.iload_n 0, 1) := by decide +kernel
theorem dX5_kindOf_15 : decode cX5_kindOf 15 = .ok (.bipush 97, 2) := by decide +kernel
theorem dX5_kindOf_17 : decode cX5_kindOf 17 = .ok (.if_icmp .lt 11, 3) := by decide +kernel
theorem dX5_kindOf_20 : decode cX5_kindOf 20 = .ok (.iload_n 0, 1) := by decide +kernel
theorem dX5_kindOf_21 : decode cX5_kindOf 21 = .ok (.bipush 122, 2) := by decide +kernel
theorem dX5_kindOf_23 : decode cX5_kindOf 23 = .ok (.if_icmp .gt 5, 3) := by decide +kernel
theorem dX5_kindOf_26 : decode cX5_kindOf 26 = .ok (.iconst 2, 1) := by decide +kernel
theorem dX5_kindOf_27 : decode cX5_kindOf 27 = .ok (.ireturn, 1) := by decide +kernel
theorem dX5_kindOf_28 : decode cX5_kindOf 28 = .ok (.iload_n 0, 1) := by decide +kernel
theorem dX5_kindOf_29 : decode cX5_kindOf 29 = .ok (.bipush 48, 2) := by decide +kernel
theorem dX5_kindOf_31 : decode cX5_kindOf 31 = .ok (.if_icmp .lt 11, 3) := by decide +kernel
theorem dX5_kindOf_34 : decode cX5_kindOf 34 = .ok (.iload_n 0, 1) := by decide +kernel
theorem dX5_kindOf_35 : decode cX5_kindOf 35 = .ok (.bipush 57, 2) := by decide +kernel
theorem dX5_kindOf_37 : decode cX5_kindOf 37 = .ok (.if_icmp .gt 5, 3) := by decide +kernel
theorem dX5_kindOf_40 : decode cX5_kindOf 40 = .ok (.iconst 4, 1) := by decide +kernel
theorem dX5_kindOf_41 : decode cX5_kindOf 41 = .ok (.ireturn, 1) := by decide +kernel
theorem dX5_kindOf_42 : decode cX5_kindOf 42 = .ok (.iload_n 0, 1) := by decide +kernel
theorem dX5_kindOf_43 : decode cX5_kindOf 43 = .ok (.ifCond .le 17, 3) := by decide +kernel
theorem dX5_kindOf_46 : decode cX5_kindOf 46 = .ok (.ldc 106, 2) := by decide +kernel
theorem dX5_kindOf_48 : decode cX5_kindOf 48 = .ok (.iload_n 0, 1) := by decide +kernel
theorem dX5_kindOf_49 : decode cX5_kindOf 49 = .ok (.i2c, 1) := by decide +kernel
theorem dX5_kindOf_50 : decode cX5_kindOf 50 = .ok (.invokevirtual 108, 3) := by decide +kernel
theorem dX5_kindOf_53 : decode cX5_kindOf 53 = .ok (.ifCond .lt 7, 3) := by decide +kernel
theorem dX5_kindOf_56 : decode cX5_kindOf 56 = .ok (.iconst 5, 1) := by decide +kernel
theorem dX5_kindOf_57 : decode cX5_kindOf 57 = .ok (.goto 4, 3) := by decide +kernel
theorem dX5_kindOf_60 : decode cX5_kindOf 60 = .ok (.iconst 1, 1) := by decide +kernel
theorem dX5_kindOf_61 : decode cX5_kindOf 61 = .ok (.ireturn, 1) := by decide +kernel
theorem dX5_lengthen_0 : decode cX5_lengthen 0 = .ok (.aload_n 0, 1) := by decide +kernel
theorem dX5_lengthen_1 : decode cX5_lengthen 1 = .ok (.getfield 91, 3) := by decide +kernel
theorem dX5_lengthen_4 : decode cX5_lengthen 4 = .ok (.iconst 1, 1) := by decide +kernel
theorem dX5_lengthen_5 : decode cX5_lengthen 5 = .ok (.isub, 1) := by decide +kernel
theorem dX5_lengthen_6 : decode cX5_lengthen 6 = .ok (.istore 4, 2) := by decide +kernel
theorem dX5_lengthen_8 : decode cX5_lengthen 8 = .ok (.iload 4, 2) := by decide +kernel
theorem dX5_lengthen_10 : decode cX5_lengthen 10 = .ok (.ifCond .ge 5, 3) := by decide +kernel
theorem dX5_lengthen_13 : decode cX5_lengthen 13 = .ok (.iconst 0, 1) := by decide +kernel
theorem dX5_lengthen_14 : decode cX5_lengthen 14 = .ok (.ireturn, 1) := by decide +kernel
theorem dX5_lengthen_15 : decode cX5_lengthen 15 = .ok (.aload_n 0, 1) := by decide +kernel
theorem dX5_lengthen_16 : decode cX5_lengthen 16 = .ok (.getfield 19, 3) := by decide +kernel
theorem dX5_lengthen_19 : decode cX5_lengthen 19 = .ok (.iload 4, 2) := by decide +kernel
theorem dX5_lengthen_21 : decode cX5_lengthen 21 = .ok (.iaload, 1) := by decide +kernel
theorem dX5_lengthen_22 : decode cX5_lengthen 22 = .ok (.iconst 2, 1) := by decide +kernel
theorem dX5_lengthen_23 : decode cX5_lengthen 23 = .ok (.if_icmp .ne 7, 3) := by decide +kernel
theorem dX5_lengthen_26 : decode cX5_lengthen 26 = .ok (.iconst 1, 1) := by decide +kernel
theorem dX5_lengthen_27 : decode cX5_lengthen 27 = .ok (.goto 4, 3) := by decide +kernel
theorem dX5_lengthen_30 : decode cX5_lengthen 30 = .ok (.iconst 0, 1) := by decide +kernel
theorem dX5_lengthen_31 : decode cX5_lengthen 31 = .ok (.istore 5, 2) := by decide +kernel
theorem dX5_lengthen_33 : decode cX5_lengthen 33 = .ok (.iload_n 2, 1) := by decide +kernel
theorem dX5_lengthen_34 : decode cX5_lengthen 34 = .ok (.iload 5, 2) := by decide +kernel
theorem dX5_lengthen_36 : decode cX5_lengthen 36 = .ok (.ifCond .eq 8, 3) := by decide +kernel
theorem dX5_lengthen_39 : decode cX5_lengthen 39 = .ok (.bipush 6, 2) := by decide +kernel
theorem dX5_lengthen_41 : decode cX5_lengthen 41 = .ok (.goto 4, 3) := by decide +kernel
theorem dX5_lengthen_44 : decode cX5_lengthen 44 = .ok (.iconst 4, 1) := by decide +kernel
theorem dX5_lengthen_45 : decode cX5_lengthen 45 = .ok (.if_icmp .le 21, 3) := by decide +kernel
theorem dX5_lengthen_48 : decode cX5_lengthen 48 = .ok (.aload_n 0, 1) := by decide +kernel
theorem dX5_lengthen_49 : decode cX5_lengthen 49 = .ok (.getfield 19, 3) := by decide +kernel
theorem dX5_lengthen_52 : decode cX5_lengthen 52 = .ok (.iload 4, 2) := by decide +kernel
theorem dX5_lengthen_54 : decode cX5_lengthen 54 = .ok (.iconst 1, 1) := by decide +kernel
theorem dX5_lengthen_55 : decode cX5_lengthen 55 = .ok (.iastore, 1) := by decide +kernel
theorem dX5_lengthen_56 : decode cX5_lengthen 56 = .ok (.aload_n 0, 1) := by decide +kernel
theorem dX5_lengthen_57 : decode cX5_lengthen 57 = .ok (.getfield 22, 3) := by decide +kernel
theorem dX5_lengthen_60 : decode cX5_lengthen 60 = .ok (.iload 4, 2) := by decide +kernel
theorem dX5_lengthen_62 : decode cX5_lengthen 62 = .ok (.iload_n 3, 1) := by decide +kernel
theorem dX5_lengthen_63 : decode cX5_lengthen 63 = .ok (.iastore, 1) := by decide +kernel
theorem dX5_lengthen_64 : decode cX5_lengthen 64 = .ok (.iconst 0, 1) := by decide +kernel
theorem dX5_lengthen_65 : decode cX5_lengthen 65 = .ok (.ireturn, 1) := by decide +kernel
theorem dX5_lengthen_66 : decode cX5_lengthen 66 = .ok (.iload 5, 2) := by decide +kernel
theorem dX5_lengthen_68 : decode cX5_lengthen 68 = .ok (.ifCond .eq 28, 3) := by decide +kernel
theorem dX5_lengthen_71 : decode cX5_lengthen 71 = .ok (.aload_n 0, 1) := by decide +kernel
theorem dX5_lengthen_72 : decode cX5_lengthen 72 = .ok (.getfield 22, 3) := by decide +kernel
theorem dX5_lengthen_75 : decode cX5_lengthen 75 = .ok (.iload 4, 2) := by decide +kernel
theorem dX5_lengthen_77 : decode cX5_lengthen 77 = .ok (.dup2, 1) := by decide +kernel
theorem dX5_lengthen_78 : decode cX5_lengthen 78 = .ok (.iaload, 1) := by decide +kernel
theorem dX5_lengthen_79 : decode cX5_lengthen 79 = .ok (.iload_n 1, 1) := by decide +kernel
theorem dX5_lengthen_80 : decode cX5_lengthen 80 = .ok (.bipush 97, 2) := by decide +kernel
theorem dX5_lengthen_82 : decode cX5_lengthen 82 = .ok (.isub, 1) := by decide +kernel
theorem dX5_lengthen_83 : decode cX5_lengthen 83 = .ok (.iconst 1, 1) := by decide +kernel
theorem dX5_lengthen_84 : decode cX5_lengthen 84 = .ok (.iadd, 1) := by decide +kernel
theorem dX5_lengthen_85 : decode cX5_lengthen 85 = .ok (.iconst 5, 1) := by decide +kernel
theorem dX5_lengthen_86 : decode cX5_lengthen 86 = .ok (.iload_n 2, 1) := by decide +kernel
theorem dX5_lengthen_87 : decode cX5_lengthen 87 = .ok (.iconst 1, 1) := by decide +kernel
theorem dX5_lengthen_88 : decode cX5_lengthen 88 = .ok (.isub, 1) := by decide +kernel
theorem dX5_lengthen_89 : decode cX5_lengthen 89 = .ok (.imul, 1) := by decide +kernel
theorem dX5_lengthen_90 : decode cX5_lengthen 90 = .ok (.ishl, 1) := by decide +kernel
theorem dX5_lengthen_91 : decode cX5_lengthen 91 = .ok (.ior, 1) := by decide +kernel
theorem dX5_lengthen_92 : decode cX5_lengthen 92 = .ok (.iastore, 1) := by decide +kernel
theorem dX5_lengthen_93 : decode cX5_lengthen 93 = .ok (.goto 25, 3) := by decide +kernel
theorem dX5_lengthen_96 : decode cX5_lengthen 96 = .ok (.aload_n 0, 1) := by decide +kernel
theorem dX5_lengthen_97 : decode cX5_lengthen 97 = .ok (.getfield 22, 3) := by decide +kernel
theorem dX5_lengthen_100 : decode cX5_lengthen 100 = .ok (.iload 4, 2) := by decide +kernel
theorem dX5_lengthen_102 : decode cX5_lengthen 102 = .ok (.bipush 10, 2) := by decide +kernel
theorem dX5_lengthen_104 : decode cX5_lengthen 104 = .ok (.aload_n 0, 1) := by decide +kernel
theorem dX5_lengthen_105 : decode cX5_lengthen 105 = .ok (.getfield 22, 3) := by decide +kernel
theorem dX5_lengthen_108 : decode cX5_lengthen 108 = .ok (.iload 4, 2) := by decide +kernel
theorem dX5_lengthen_110 : decode cX5_lengthen 110 = .ok (.iaload, 1) := by decide +kernel
theorem dX5_lengthen_111 : decode cX5_lengthen 111 = .ok (.imul, 1) := by decide +kernel
theorem dX5_lengthen_112 : decode cX5_lengthen 112 = .ok (.iload_n 1, 1) := by decide +kernel
theorem dX5_lengthen_113 : decode cX5_lengthen 113 = .ok (.iadd, 1) := by decide +kernel
theorem dX5_lengthen_114 : decode cX5_lengthen 114 = .ok (.bipush 48, 2) := by decide +kernel
theorem dX5_lengthen_116 : decode cX5_lengthen 116 = .ok (.isub, 1) := by decide +kernel
theorem dX5_lengthen_117 : decode cX5_lengthen 117 = .ok (.iastore, 1) := by decide +kernel
theorem dX5_lengthen_118 : decode cX5_lengthen 118 = .ok (.iconst 1, 1) := by decide +kernel
theorem dX5_lengthen_119 : decode cX5_lengthen 119 = .ok (.ireturn, 1) := by decide +kernel
theorem dX5_needsName_0 : decode cX5_needsName 0 = .ok (.aload_n 0, 1) := by decide +kernel
theorem dX5_needsName_1 : decode cX5_needsName 1 = .ok (.getfield 19, 3) := by decide +kernel
theorem dX5_needsName_4 : decode cX5_needsName 4 = .ok (.aload_n 0, 1) := by decide +kernel
theorem dX5_needsName_5 : decode cX5_needsName 5 = .ok (.getfield 53, 3) := by decide +kernel
theorem dX5_needsName_8 : decode cX5_needsName 8 = .ok (.iaload, 1) := by decide +kernel
theorem dX5_needsName_9 : decode cX5_needsName 9 = .ok (.iconst 2, 1) := by decide +kernel
theorem dX5_needsName_10 : decode cX5_needsName 10 = .ok (.if_icmp .ne 11, 3) := by decide +kernel
theorem dX5_needsName_13 : decode cX5_needsName 13 = .ok (.aload_n 0, 1) := by decide +kernel
theorem dX5_needsName_14 : decode cX5_needsName 14 = .ok (.invokevirtual 67, 3) := by decide +kernel
theorem dX5_needsName_17 : decode cX5_needsName 17 = .ok (.iconst (-1), 1) := by decide +kernel
theorem dX5_needsName_18 : decode cX5_needsName 18 = .ok (.if_icmp .eq 9, 3) := by decide +kernel
theorem dX5_needsName_21 : decode cX5_needsName 21 = .ok (.aload_n 0, 1) := by decide +kernel
theorem dX5_needsName_22 : decode cX5_needsName 22 = .ok (.iconst 1, 1) := by decide +kernel
theorem dX5_needsName_23 : decode cX5_needsName 23 = .ok (.invokevirtual 63, 3) := by decide +kernel
theorem dX5_needsName_26 : decode cX5_needsName 26 = .ok (.ireturn, 1) := by decide +kernel
theorem dX5_needsName_27 : decode cX5_needsName 27 = .ok (.aload_n 0, 1) := by decide +kernel
theorem dX5_needsName_28 : decode cX5_needsName 28 = .ok (.aload_n 0, 1) := by decide +kernel
theorem dX5_needsName_29 : decode cX5_needsName 29 = .ok (.getfield 22, 3) := by decide +kernel
theorem dX5_needsName_32 : decode cX5_needsName 32 = .ok (.aload_n 0, 1) := by decide +kernel
theorem dX5_needsName_33 : decode cX5_needsName 33 = .ok (.getfield 53, 3) := by decide +kernel
theorem dX5_needsName_36 : decode cX5_needsName 36 = .ok (.iaload, 1) := by decide +kernel
theorem dX5_needsName_37 : decode cX5_needsName 37 = .ok (.putfield 114, 3) := by decide +kernel
theorem dX5_needsName_40 : decode cX5_needsName 40 = .ok (.aload_n 0, 1) := by decide +kernel
theorem dX5_needsName_41 : decode cX5_needsName 41 = .ok (.getfield 31, 3) := by decide +kernel
theorem dX5_needsName_44 : decode cX5_needsName 44 = .ok (.aload_n 0, 1) := by decide +kernel
theorem dX5_needsName_45 : decode cX5_needsName 45 = .ok (.getfield 114, 3) := by decide +kernel
theorem dX5_needsName_48 : decode cX5_needsName 48 = .ok (.invokevirtual 117, 3) := by decide +kernel
theorem dX5_needsName_51 : decode cX5_needsName 51 = .ok (.ifCond .eq 9, 3) := by decide +kernel
theorem dX5_needsName_54 : decode cX5_needsName 54 = .ok (.aload_n 0, 1) := by decide +kernel
theorem dX5_needsName_55 : decode cX5_needsName 55 = .ok (.iconst 2, 1) := by decide +kernel
theorem dX5_needsName_56 : decode cX5_needsName 56 = .ok (.invokevirtual 63, 3) := by decide +kernel
theorem dX5_needsName_59 : decode cX5_needsName 59 = .ok (.ireturn, 1) := by decide +kernel
theorem dX5_needsName_60 : decode cX5_needsName 60 = .ok (.aload_n 0, 1) := by decide +kernel
theorem dX5_needsName_61 : decode cX5_needsName 61 = .ok (.invokevirtual 88, 3) := by decide +kernel
theorem dX5_needsName_64 : decode cX5_needsName 64 = .ok (.iconst 1, 1) := by decide +kernel
theorem dX5_needsName_65 : decode cX5_needsName 65 = .ok (.ireturn, 1) := by decide +kernel
theorem dX5_needsNumber_0 : decode cX5_needsNumber 0 = .ok (.aload_n 0, 1) := by decide +kernel
theorem dX5_needsNumber_1 : decode cX5_needsNumber 1 = .ok (.getfield 19, 3) := by decide +kernel
theorem dX5_needsNumber_4 : decode cX5_needsNumber 4 = .ok (.aload_n 0, 1) := by decide +kernel
theorem dX5_needsNumber_5 : decode cX5_needsNumber 5 = .ok (.getfield 53, 3) := by decide +kernel
theorem dX5_needsNumber_8 : decode cX5_needsNumber 8 = .ok (.iaload, 1) := by decide +kernel
theorem dX5_needsNumber_9 : decode cX5_needsNumber 9 = .ok (.iconst 4, 1) := by decide +kernel
theorem dX5_needsNumber_10 : decode cX5_needsNumber 10 = .ok (.if_icmp .eq 9, 3) := by decide +kernel
theorem dX5_needsNumber_13 : decode cX5_needsNumber 13 = .ok (.aload_n 0, 1) := by decide +kernel
theorem dX5_needsNumber_14 : decode cX5_needsNumber 14 = .ok (.iconst 1, 1) := by decide +kernel
theorem dX5_needsNumber_15 : decode cX5_needsNumber 15 = .ok (.invokevirtual 63, 3) := by decide +kernel
theorem dX5_needsNumber_18 : decode cX5_needsNumber 18 = .ok (.ireturn, 1) := by decide +kernel
theorem dX5_needsNumber_19 : decode cX5_needsNumber 19 = .ok (.aload_n 0, 1) := by decide +kernel
theorem dX5_needsNumber_20 : decode cX5_needsNumber 20 = .ok (.aload_n 0, 1) := by decide +kernel
theorem dX5_needsNumber_21 : decode cX5_needsNumber 21 = .ok (.getfield 22, 3) := by decide +kernel
theorem dX5_needsNumber_24 : decode cX5_needsNumber 24 = .ok (.aload_n 0, 1) := by decide +kernel
theorem dX5_needsNumber_25 : decode cX5_needsNumber 25 = .ok (.getfield 53, 3) := by decide +kernel
theorem dX5_needsNumber_28 : decode cX5_needsNumber 28 = .ok (.iaload, 1) := by decide +kernel
theorem dX5_needsNumber_29 : decode cX5_needsNumber 29 = .ok (.putfield 111, 3) := by decide +kernel
theorem dX5_needsNumber_32 : decode cX5_needsNumber 32 = .ok (.aload_n 0, 1) := by decide +kernel
theorem dX5_needsNumber_33 : decode cX5_needsNumber 33 = .ok (.getfield 111, 3) := by decide +kernel
theorem dX5_needsNumber_36 : decode cX5_needsNumber 36 = .ok (.iload_n 1, 1) := by decide +kernel
theorem dX5_needsNumber_37 : decode cX5_needsNumber 37 = .ok (.if_icmp .lt 11, 3) := by decide +kernel
theorem dX5_needsNumber_40 : decode cX5_needsNumber 40 = .ok (.aload_n 0, 1) := by decide +kernel
theorem dX5_needsNumber_41 : decode cX5_needsNumber 41 = .ok (.getfield 111, 3) := by decide +kernel
theorem dX5_needsNumber_44 : decode cX5_needsNumber 44 = .ok (.iload_n 2, 1) := by decide +kernel
theorem dX5_needsNumber_45 : decode cX5_needsNumber 45 = .ok (.if_icmp .le 9, 3) := by decide +kernel
theorem dX5_needsNumber_48 : decode cX5_needsNumber 48 = .ok (.aload_n 0, 1) := by decide +kernel
theorem dX5_needsNumber_49 : decode cX5_needsNumber 49 = .ok (.iconst 4, 1) := by decide +kernel
theorem dX5_needsNumber_50 : decode cX5_needsNumber 50 = .ok (.invokevirtual 63, 3) := by decide +kernel
theorem dX5_needsNumber_53 : decode cX5_needsNumber 53 = .ok (.ireturn, 1) := by decide +kernel
theorem dX5_needsNumber_54 : decode cX5_needsNumber 54 = .ok (.aload_n 0, 1) := by decide +kernel
theorem dX5_needsNumber_55 : decode cX5_needsNumber 55 = .ok (.invokevirtual 88, 3) := by decide +kernel
theorem dX5_needsNumber_58 : decode cX5_needsNumber 58 = .ok (.iconst 1, 1) := by decide +kernel
theorem dX5_needsNumber_59 : decode cX5_needsNumber 59 = .ok (.ireturn, 1) := by decide +kernel
theorem dX5_needsOwn_0 : decode cX5_needsOwn 0 = .ok (.aload_n 0, 1) := by decide +kernel
theorem dX5_needsOwn_1 : decode cX5_needsOwn 1 = .ok (.invokevirtual 67, 3) := by decide +kernel
theorem dX5_needsOwn_4 : decode cX5_needsOwn 4 = .ok (.iload_n 1, 1) := by decide +kernel
theorem dX5_needsOwn_5 : decode cX5_needsOwn 5 = .ok (.if_icmp .eq 9, 3) := by decide +kernel
theorem dX5_needsOwn_8 : decode cX5_needsOwn 8 = .ok (.aload_n 0, 1) := by decide +kernel
theorem dX5_needsOwn_9 : decode cX5_needsOwn 9 = .ok (.iconst 1, 1) := by decide +kernel
theorem dX5_needsOwn_10 : decode cX5_needsOwn 10 = .ok (.invokevirtual 63, 3) := by decide +kernel
theorem dX5_needsOwn_13 : decode cX5_needsOwn 13 = .ok (.ireturn, 1) := by decide +kernel
theorem dX5_needsOwn_14 : decode cX5_needsOwn 14 = .ok (.aload_n 0, 1) := by decide +kernel
theorem dX5_needsOwn_15 : decode cX5_needsOwn 15 = .ok (.invokevirtual 88, 3) := by decide +kernel
theorem dX5_needsOwn_18 : decode cX5_needsOwn 18 = .ok (.iconst 1, 1) := by decide +kernel
theorem dX5_needsOwn_19 : decode cX5_needsOwn 19 = .ok (.ireturn, 1) := by decide +kernel
theorem dX5_own_0 : decode cX5_own 0 = .ok (.aload_n 0, 1) := by decide +kernel
theorem dX5_own_1 : decode cX5_own 1 = .ok (.getfield 19, 3) := by decide +kernel
theorem dX5_own_4 : decode cX5_own 4 = .ok (.aload_n 0, 1) := by decide +kernel
theorem dX5_own_5 : decode cX5_own 5 = .ok (.getfield 53, 3) := by decide +kernel
theorem dX5_own_8 : decode cX5_own 8 = .ok (.iaload, 1) := by decide +kernel
theorem dX5_own_9 : decode cX5_own 9 = .ok (.iconst 2, 1) := by decide +kernel
theorem dX5_own_10 : decode cX5_own 10 = .ok (.if_icmp .ne 37, 3) := by decide +kernel
theorem dX5_own_13 : decode cX5_own 13 = .ok (.iconst 0, 1) := by decide +kernel
theorem dX5_own_14 : decode cX5_own 14 = .ok (.istore_n 1, 1) := by decide +kernel
theorem dX5_own_15 : decode cX5_own 15 = .ok (.iload_n 1, 1) := by decide +kernel
theorem dX5_own_16 : decode cX5_own 16 = .ok (.bipush 27, 2) := by decide +kernel
theorem dX5_own_18 : decode cX5_own 18 = .ok (.if_icmp .ge 29, 3) := by decide +kernel
theorem dX5_own_21 : decode cX5_own 21 = .ok (.aload_n 0, 1) := by decide +kernel
theorem dX5_own_22 : decode cX5_own 22 = .ok (.getfield 15, 3) := by decide +kernel
theorem dX5_own_25 : decode cX5_own 25 = .ok (.iload_n 1, 1) := by decide +kernel
theorem dX5_own_26 : decode cX5_own 26 = .ok (.iaload, 1) := by decide +kernel
theorem dX5_own_27 : decode cX5_own 27 = .ok (.aload_n 0, 1) := by decide +kernel
theorem dX5_own_28 : decode cX5_own 28 = .ok (.getfield 22, 3) := by decide +kernel
theorem dX5_own_31 : decode cX5_own 31 = .ok (.aload_n 0, 1) := by decide +kernel
theorem dX5_own_32 : decode cX5_own 32 = .ok (.getfield 53, 3) := by decide +kernel
theorem dX5_own_35 : decode cX5_own 35 = .ok (.iaload, 1) := by decide +kernel
theorem dX5_own_36 : decode cX5_own 36 = .ok (.if_icmp .ne 5, 3) := by decide +kernel
theorem dX5_own_39 : decode cX5_own 39 = .ok (.iload_n 1, 1) := by decide +kernel
theorem dX5_own_40 : decode cX5_own 40 = .ok (.ireturn, 1) := by decide +kernel
theorem dX5_own_41 : decode cX5_own 41 = .ok (.iinc 1 1, 3) := by decide +kernel
theorem dX5_own_44 : decode cX5_own 44 = .ok (.goto (-29), 3) := by decide +kernel
theorem dX5_own_47 : decode cX5_own 47 = .ok (.iconst (-1), 1) := by decide +kernel
theorem dX5_own_48 : decode cX5_own 48 = .ok (.ireturn, 1) := by decide +kernel
theorem dX5_read_0 : decode cX5_read 0 = .ok (.aload_n 0, 1) := by decide +kernel
theorem dX5_read_1 : decode cX5_read 1 = .ok (.getfield 31, 3) := by decide +kernel
theorem dX5_read_4 : decode cX5_read 4 = .ok (.invokevirtual 47, 3) := by decide +kernel
theorem dX5_read_7 : decode cX5_read 7 = .ok (.aload_n 0, 1) := by decide +kernel
theorem dX5_read_8 : decode cX5_read 8 = .ok (.iconst 0, 1) := by decide +kernel
theorem dX5_read_9 : decode cX5_read 9 = .ok (.putfield 50, 3) := by decide +kernel
theorem dX5_read_12 : decode cX5_read 12 = .ok (.aload_n 0, 1) := by decide +kernel
theorem dX5_read_13 : decode cX5_read 13 = .ok (.iconst (-1), 1) := by decide +kernel
theorem dX5_read_14 : decode cX5_read 14 = .ok (.putfield 9, 3) := by decide +kernel
theorem dX5_read_17 : decode cX5_read 17 = .ok (.aload_n 0, 1) := by decide +kernel
theorem dX5_read_18 : decode cX5_read 18 = .ok (.iconst 0, 1) := by decide +kernel
theorem dX5_read_19 : decode cX5_read 19 = .ok (.putfield 53, 3) := by decide +kernel
theorem dX5_read_22 : decode cX5_read 22 = .ok (.aload_n 0, 1) := by decide +kernel
theorem dX5_read_23 : decode cX5_read 23 = .ok (.aload_n 1, 1) := by decide +kernel
theorem dX5_read_24 : decode cX5_read 24 = .ok (.iload_n 2, 1) := by decide +kernel
theorem dX5_read_25 : decode cX5_read 25 = .ok (.invokevirtual 56, 3) := by decide +kernel
theorem dX5_read_28 : decode cX5_read 28 = .ok (.iconst 0, 1) := by decide +kernel
theorem dX5_read_29 : decode cX5_read 29 = .ok (.istore_n 3, 1) := by decide +kernel
theorem dX5_read_30 : decode cX5_read 30 = .ok (.iload_n 3, 1) := by decide +kernel
theorem dX5_read_31 : decode cX5_read 31 = .ok (.bipush 90, 2) := by decide +kernel
theorem dX5_read_33 : decode cX5_read 33 = .ok (.if_icmp .gt 193, 3) := by decide +kernel
theorem dX5_read_36 : decode cX5_read 36 = .ok (.aload_n 0, 1) := by decide +kernel
theorem dX5_read_37 : decode cX5_read 37 = .ok (.getfield 19, 3) := by decide +kernel
theorem dX5_read_40 : decode cX5_read 40 = .ok (.aload_n 0, 1) := by decide +kernel
theorem dX5_read_41 : decode cX5_read 41 = .ok (.getfield 53, 3) := by decide +kernel
theorem dX5_read_44 : decode cX5_read 44 = .ok (.iaload, 1) := by decide +kernel
theorem dX5_read_45 : decode cX5_read 45 = .ok (.ifCond .ne 13, 3) := by decide +kernel
theorem dX5_read_48 : decode cX5_read 48 = .ok (.aload_n 0, 1) := by decide +kernel
theorem dX5_read_49 : decode cX5_read 49 = .ok (.getfield 31, 3) := by decide +kernel
theorem dX5_read_52 : decode cX5_read 52 = .ok (.iload_n 3, 1) := by decide +kernel
theorem dX5_read_53 : decode cX5_read 53 = .ok (.putfield 60, 3) := by decide +kernel
theorem dX5_read_56 : decode cX5_read 56 = .ok (.iconst 1, 1) := by decide +kernel
theorem dX5_read_57 : decode cX5_read 57 = .ok (.ireturn, 1) := by decide +kernel
theorem dX5_read_58 : decode cX5_read 58 = .ok (.iload_n 3, 1) := by decide +kernel
theorem dX5_read_59 : decode cX5_read 59 = .ok (.bipush 90, 2) := by decide +kernel
theorem dX5_read_61 : decode cX5_read 61 = .ok (.if_icmp .ne 9, 3) := by decide +kernel
theorem dX5_read_64 : decode cX5_read 64 = .ok (.aload_n 0, 1) := by decide +kernel
theorem dX5_read_65 : decode cX5_read 65 = .ok (.iconst 5, 1) := by decide +kernel
theorem dX5_read_66 : decode cX5_read 66 = .ok (.invokevirtual 63, 3) := by decide +kernel
theorem dX5_read_69 : decode cX5_read 69 = .ok (.ireturn, 1) := by decide +kernel
theorem dX5_read_70 : decode cX5_read 70 = .ok (.aload_n 0, 1) := by decide +kernel
theorem dX5_read_71 : decode cX5_read 71 = .ok (.invokevirtual 67, 3) := by decide +kernel
theorem dX5_read_74 : decode cX5_read 74 = .ok (.tableswitch 113 7 19 #[66, 113, 113, 113, 113, 75, 113, 84, 113, 113, 113, 93, 103], 66) := by decide +kernel
theorem dX5_read_140 : decode cX5_read 140 = .ok (.aload_n 0, 1) := by decide +kernel
theorem dX5_read_141 : decode cX5_read 141 = .ok (.invokevirtual 70, 3) := by decide +kernel
theorem dX5_read_144 : decode cX5_read 144 = .ok (.istore 4, 2) := by decide +kernel
theorem dX5_read_146 : decode cX5_read 146 = .ok (.goto 48, 3) := by decide +kernel
theorem dX5_read_149 : decode cX5_read 149 = .ok (.aload_n 0, 1) := by decide +kernel
theorem dX5_read_150 : decode cX5_read 150 = .ok (.invokevirtual 74, 3) := by decide +kernel
theorem dX5_read_153 : decode cX5_read 153 = .ok (.istore 4, 2) := by decide +kernel
theorem dX5_read_155 : decode cX5_read 155 = .ok (.goto 39, 3) := by decide +kernel
theorem dX5_read_158 : decode cX5_read 158 = .ok (.aload_n 0, 1) := by decide +kernel
theorem dX5_read_159 : decode cX5_read 159 = .ok (.invokevirtual 77, 3) := by decide +kernel
theorem dX5_read_162 : decode cX5_read 162 = .ok (.istore 4, 2) := by decide +kernel
theorem dX5_read_164 : decode cX5_read 164 = .ok (.goto 30, 3) := by decide +kernel
theorem dX5_read_167 : decode cX5_read 167 = .ok (.aload_n 0, 1) := by decide +kernel
theorem dX5_read_168 : decode cX5_read 168 = .ok (.iconst 0, 1) := by decide +kernel
theorem dX5_read_169 : decode cX5_read 169 = .ok (.invokevirtual 80, 3) := by decide +kernel
theorem dX5_read_172 : decode cX5_read 172 = .ok (.istore 4, 2) := by decide +kernel
theorem dX5_read_174 : decode cX5_read 174 = .ok (.goto 20, 3) := by decide +kernel
theorem dX5_read_177 : decode cX5_read 177 = .ok (.aload_n 0, 1) := by decide +kernel
theorem dX5_read_178 : decode cX5_read 178 = .ok (.iconst 1, 1) := by decide +kernel
theorem dX5_read_179 : decode cX5_read 179 = .ok (.invokevirtual 80, 3) := by decide +kernel
theorem dX5_read_182 : decode cX5_read 182 = .ok (.istore 4, 2) := by decide +kernel
theorem dX5_read_184 : decode cX5_read 184 = .ok (.goto 10, 3) := by decide +kernel
theorem dX5_read_187 : decode cX5_read 187 = .ok (.aload_n 0, 1) := by decide +kernel
theorem dX5_read_188 : decode cX5_read 188 = .ok (.iconst 1, 1) := by decide +kernel
theorem dX5_read_189 : decode cX5_read 189 = .ok (.invokevirtual 63, 3) := by decide +kernel
theorem dX5_read_192 : decode cX5_read 192 = .ok (.istore 4, 2) := by decide +kernel
theorem dX5_read_194 : decode cX5_read 194 = .ok (.iload 4, 2) := by decide +kernel
theorem dX5_read_196 : decode cX5_read 196 = .ok (.ifCond .ne 5, 3) := by decide +kernel
theorem dX5_read_199 : decode cX5_read 199 = .ok (.iconst 0, 1) := by decide +kernel
theorem dX5_read_200 : decode cX5_read 200 = .ok (.ireturn, 1) := by decide +kernel
theorem dX5_read_201 : decode cX5_read 201 = .ok (.aload_n 0, 1) := by decide +kernel
theorem dX5_read_202 : decode cX5_read 202 = .ok (.bipush 59, 2) := by decide +kernel
theorem dX5_read_204 : decode cX5_read 204 = .ok (.invokevirtual 84, 3) := by decide +kernel
theorem dX5_read_207 : decode cX5_read 207 = .ok (.ifCond .ne 9, 3) := by decide +kernel
theorem dX5_read_210 : decode cX5_read 210 = .ok (.aload_n 0, 1) := by decide +kernel
theorem dX5_read_211 : decode cX5_read 211 = .ok (.iconst 1, 1) := by decide +kernel
theorem dX5_read_212 : decode cX5_read 212 = .ok (.invokevirtual 63, 3) := by decide +kernel
theorem dX5_read_215 : decode cX5_read 215 = .ok (.ireturn, 1) := by decide +kernel
theorem dX5_read_216 : decode cX5_read 216 = .ok (.aload_n 0, 1) := by decide +kernel
theorem dX5_read_217 : decode cX5_read 217 = .ok (.invokevirtual 88, 3) := by decide +kernel
theorem dX5_read_220 : decode cX5_read 220 = .ok (.iinc 3 1, 3) := by decide +kernel
theorem dX5_read_223 : decode cX5_read 223 = .ok (.goto (-193), 3) := by decide +kernel
theorem dX5_read_226 : decode cX5_read 226 = .ok (.iconst 0, 1) := by decide +kernel
theorem dX5_read_227 : decode cX5_read 227 = .ok (.ireturn, 1) := by decide +kernel
theorem dX5_readBoy_0 : decode cX5_readBoy 0 = .ok (.aload_n 0, 1) := by decide +kernel
theorem dX5_readBoy_1 : decode cX5_readBoy 1 = .ok (.getfield 31, 3) := by decide +kernel
theorem dX5_readBoy_4 : decode cX5_readBoy 4 = .ok (.getfield 120, 3) := by decide +kernel
theorem dX5_readBoy_7 : decode cX5_readBoy 7 = .ok (.istore_n 1, 1) := by decide +kernel
theorem dX5_readBoy_8 : decode cX5_readBoy 8 = .ok (.iload_n 1, 1) := by decide +kernel
theorem dX5_readBoy_9 : decode cX5_readBoy 9 = .ok (.bipush 12, 2) := by decide +kernel
theorem dX5_readBoy_11 : decode cX5_readBoy 11 = .ok (.if_icmp .lt 9, 3) := by decide +kernel
theorem dX5_readBoy_14 : decode cX5_readBoy 14 = .ok (.aload_n 0, 1) := by decide +kernel
theorem dX5_readBoy_15 : decode cX5_readBoy 15 = .ok (.iconst 5, 1) := by decide +kernel
theorem dX5_readBoy_16 : decode cX5_readBoy 16 = .ok (.invokevirtual 63, 3) := by decide +kernel
theorem dX5_readBoy_19 : decode cX5_readBoy 19 = .ok (.ireturn, 1) := by decide +kernel
theorem dX5_readBoy_20 : decode cX5_readBoy 20 = .ok (.aload_n 0, 1) := by decide +kernel
theorem dX5_readBoy_21 : decode cX5_readBoy 21 = .ok (.invokevirtual 88, 3) := by decide +kernel
theorem dX5_readBoy_24 : decode cX5_readBoy 24 = .ok (.aload_n 0, 1) := by decide +kernel
theorem dX5_readBoy_25 : decode cX5_readBoy 25 = .ok (.invokevirtual 123, 3) := by decide +kernel
theorem dX5_readBoy_28 : decode cX5_readBoy 28 = .ok (.ifCond .ne 5, 3) := by decide +kernel
theorem dX5_readBoy_31 : decode cX5_readBoy 31 = .ok (.iconst 0, 1) := by decide +kernel
theorem dX5_readBoy_32 : decode cX5_readBoy 32 = .ok (.ireturn, 1) := by decide +kernel
theorem dX5_readBoy_33 : decode cX5_readBoy 33 = .ok (.aload_n 0, 1) := by decide +kernel
theorem dX5_readBoy_34 : decode cX5_readBoy 34 = .ok (.getfield 31, 3) := by decide +kernel
theorem dX5_readBoy_37 : decode cX5_readBoy 37 = .ok (.getfield 126, 3) := by decide +kernel
theorem dX5_readBoy_40 : decode cX5_readBoy 40 = .ok (.iload_n 1, 1) := by decide +kernel
theorem dX5_readBoy_41 : decode cX5_readBoy 41 = .ok (.aload_n 0, 1) := by decide +kernel
theorem dX5_readBoy_42 : decode cX5_readBoy 42 = .ok (.getfield 114, 3) := by decide +kernel
theorem dX5_readBoy_45 : decode cX5_readBoy 45 = .ok (.iastore, 1) := by decide +kernel
theorem dX5_readBoy_46 : decode cX5_readBoy 46 = .ok (.aload_n 0, 1) := by decide +kernel
theorem dX5_readBoy_47 : decode cX5_readBoy 47 = .ok (.iconst 1, 1) := by decide +kernel
theorem dX5_readBoy_48 : decode cX5_readBoy 48 = .ok (.invokevirtual 129, 3) := by decide +kernel
theorem dX5_readBoy_51 : decode cX5_readBoy 51 = .ok (.ifCond .eq 13, 3) := by decide +kernel
theorem dX5_readBoy_54 : decode cX5_readBoy 54 = .ok (.aload_n 0, 1) := by decide +kernel
theorem dX5_readBoy_55 : decode cX5_readBoy 55 = .ok (.iconst 1, 1) := by decide +kernel
theorem dX5_readBoy_56 : decode cX5_readBoy 56 = .ok (.bipush 99, 2) := by decide +kernel
theorem dX5_readBoy_58 : decode cX5_readBoy 58 = .ok (.invokevirtual 132, 3) := by decide +kernel
theorem dX5_readBoy_61 : decode cX5_readBoy 61 = .ok (.ifCond .ne 5, 3) := by decide +kernel
theorem dX5_readBoy_64 : decode cX5_readBoy 64 = .ok (.iconst 0, 1) := by decide +kernel
theorem dX5_readBoy_65 : decode cX5_readBoy 65 = .ok (.ireturn, 1) := by decide +kernel
theorem dX5_readBoy_66 : decode cX5_readBoy 66 = .ok (.aload_n 0, 1) := by decide +kernel
theorem dX5_readBoy_67 : decode cX5_readBoy 67 = .ok (.getfield 31, 3) := by decide +kernel
theorem dX5_readBoy_70 : decode cX5_readBoy 70 = .ok (.getfield 136, 3) := by decide +kernel
theorem dX5_readBoy_73 : decode cX5_readBoy 73 = .ok (.iload_n 1, 1) := by decide +kernel
theorem dX5_readBoy_74 : decode cX5_readBoy 74 = .ok (.aload_n 0, 1) := by decide +kernel
theorem dX5_readBoy_75 : decode cX5_readBoy 75 = .ok (.getfield 111, 3) := by decide +kernel
theorem dX5_readBoy_78 : decode cX5_readBoy 78 = .ok (.iastore, 1) := by decide +kernel
theorem dX5_readBoy_79 : decode cX5_readBoy 79 = .ok (.aload_n 0, 1) := by decide +kernel
theorem dX5_readBoy_80 : decode cX5_readBoy 80 = .ok (.iconst 2, 1) := by decide +kernel
theorem dX5_readBoy_81 : decode cX5_readBoy 81 = .ok (.invokevirtual 129, 3) := by decide +kernel
theorem dX5_readBoy_84 : decode cX5_readBoy 84 = .ok (.ifCond .eq 14, 3) := by decide +kernel
theorem dX5_readBoy_87 : decode cX5_readBoy 87 = .ok (.aload_n 0, 1) := by decide +kernel
theorem dX5_readBoy_88 : decode cX5_readBoy 88 = .ok (.iconst 1, 1) := by decide +kernel
theorem dX5_readBoy_89 : decode cX5_readBoy 89 = .ok (.sipush 999, 3) := by decide +kernel
theorem dX5_readBoy_92 : decode cX5_readBoy 92 = .ok (.invokevirtual 132, 3) := by decide +kernel
theorem dX5_readBoy_95 : decode cX5_readBoy 95 = .ok (.ifCond .ne 5, 3) := by decide +kernel
theorem dX5_readBoy_98 : decode cX5_readBoy 98 = .ok (.iconst 0, 1) := by decide +kernel
theorem dX5_readBoy_99 : decode cX5_readBoy 99 = .ok (.ireturn, 1) := by decide +kernel
theorem dX5_readBoy_100 : decode cX5_readBoy 100 = .ok (.aload_n 0, 1) := by decide +kernel
theorem dX5_readBoy_101 : decode cX5_readBoy 101 = .ok (.getfield 31, 3) := by decide +kernel
theorem dX5_readBoy_104 : decode cX5_readBoy 104 = .ok (.getfield 139, 3) := by decide +kernel
theorem dX5_readBoy_107 : decode cX5_readBoy 107 = .ok (.iload_n 1, 1) := by decide +kernel
theorem dX5_readBoy_108 : decode cX5_readBoy 108 = .ok (.aload_n 0, 1) := by decide +kernel
theorem dX5_readBoy_109 : decode cX5_readBoy 109 = .ok (.getfield 111, 3) := by decide +kernel
theorem dX5_readBoy_112 : decode cX5_readBoy 112 = .ok (.iastore, 1) := by decide +kernel
theorem dX5_readBoy_113 : decode cX5_readBoy 113 = .ok (.aload_n 0, 1) := by decide +kernel
theorem dX5_readBoy_114 : decode cX5_readBoy 114 = .ok (.bipush 8, 2) := by decide +kernel
theorem dX5_readBoy_116 : decode cX5_readBoy 116 = .ok (.invokevirtual 129, 3) := by decide +kernel
theorem dX5_readBoy_119 : decode cX5_readBoy 119 = .ok (.ifCond .eq 13, 3) := by decide +kernel
theorem dX5_readBoy_122 : decode cX5_readBoy 122 = .ok (.aload_n 0, 1) := by decide +kernel
theorem dX5_readBoy_123 : decode cX5_readBoy 123 = .ok (.iconst 0, 1) := by decide +kernel
theorem dX5_readBoy_124 : decode cX5_readBoy 124 = .ok (.bipush 100, 2) := by decide +kernel
theorem dX5_readBoy_126 : decode cX5_readBoy 126 = .ok (.invokevirtual 132, 3) := by decide +kernel
theorem dX5_readBoy_129 : decode cX5_readBoy 129 = .ok (.ifCond .ne 5, 3) := by decide +kernel
theorem dX5_readBoy_132 : decode cX5_readBoy 132 = .ok (.iconst 0, 1) := by decide +kernel
theorem dX5_readBoy_133 : decode cX5_readBoy 133 = .ok (.ireturn, 1) := by decide +kernel
theorem dX5_readBoy_134 : decode cX5_readBoy 134 = .ok (.aload_n 0, 1) := by decide +kernel
theorem dX5_readBoy_135 : decode cX5_readBoy 135 = .ok (.getfield 31, 3) := by decide +kernel
theorem dX5_readBoy_138 : decode cX5_readBoy 138 = .ok (.getfield 142, 3) := by decide +kernel
theorem dX5_readBoy_141 : decode cX5_readBoy 141 = .ok (.iload_n 1, 1) := by decide +kernel
theorem dX5_readBoy_142 : decode cX5_readBoy 142 = .ok (.aload_n 0, 1) := by decide +kernel
theorem dX5_readBoy_143 : decode cX5_readBoy 143 = .ok (.getfield 111, 3) := by decide +kernel
theorem dX5_readBoy_146 : decode cX5_readBoy 146 = .ok (.iastore, 1) := by decide +kernel
theorem dX5_readBoy_147 : decode cX5_readBoy 147 = .ok (.aload_n 0, 1) := by decide +kernel
theorem dX5_readBoy_148 : decode cX5_readBoy 148 = .ok (.bipush 9, 2) := by decide +kernel
theorem dX5_readBoy_150 : decode cX5_readBoy 150 = .ok (.invokevirtual 129, 3) := by decide +kernel
theorem dX5_readBoy_153 : decode cX5_readBoy 153 = .ok (.ifCond .eq 13, 3) := by decide +kernel
theorem dX5_readBoy_156 : decode cX5_readBoy 156 = .ok (.aload_n 0, 1) := by decide +kernel
theorem dX5_readBoy_157 : decode cX5_readBoy 157 = .ok (.iconst 0, 1) := by decide +kernel
theorem dX5_readBoy_158 : decode cX5_readBoy 158 = .ok (.bipush 99, 2) := by decide +kernel
theorem dX5_readBoy_160 : decode cX5_readBoy 160 = .ok (.invokevirtual 132, 3) := by decide +kernel
theorem dX5_readBoy_163 : decode cX5_readBoy 163 = .ok (.ifCond .ne 5, 3) := by decide +kernel
theorem dX5_readBoy_166 : decode cX5_readBoy 166 = .ok (.iconst 0, 1) := by decide +kernel
theorem dX5_readBoy_167 : decode cX5_readBoy 167 = .ok (.ireturn, 1) := by decide +kernel
theorem dX5_readBoy_168 : decode cX5_readBoy 168 = .ok (.aload_n 0, 1) := by decide +kernel
theorem dX5_readBoy_169 : decode cX5_readBoy 169 = .ok (.getfield 31, 3) := by decide +kernel
theorem dX5_readBoy_172 : decode cX5_readBoy 172 = .ok (.getfield 145, 3) := by decide +kernel
theorem dX5_readBoy_175 : decode cX5_readBoy 175 = .ok (.iload_n 1, 1) := by decide +kernel
theorem dX5_readBoy_176 : decode cX5_readBoy 176 = .ok (.aload_n 0, 1) := by decide +kernel
theorem dX5_readBoy_177 : decode cX5_readBoy 177 = .ok (.getfield 111, 3) := by decide +kernel
theorem dX5_readBoy_180 : decode cX5_readBoy 180 = .ok (.iastore, 1) := by decide +kernel
theorem dX5_readBoy_181 : decode cX5_readBoy 181 = .ok (.aload_n 0, 1) := by decide +kernel
theorem dX5_readBoy_182 : decode cX5_readBoy 182 = .ok (.getfield 31, 3) := by decide +kernel
theorem dX5_readBoy_185 : decode cX5_readBoy 185 = .ok (.dup, 1) := by decide +kernel
theorem dX5_readBoy_186 : decode cX5_readBoy 186 = .ok (.getfield 120, 3) := by decide +kernel
theorem dX5_readBoy_189 : decode cX5_readBoy 189 = .ok (.iconst 1, 1) := by decide +kernel
theorem dX5_readBoy_190 : decode cX5_readBoy 190 = .ok (.iadd, 1) := by decide +kernel
theorem dX5_readBoy_191 : decode cX5_readBoy 191 = .ok (.putfield 120, 3) := by decide +kernel
theorem dX5_readBoy_194 : decode cX5_readBoy 194 = .ok (.aload_n 0, 1) := by decide +kernel
theorem dX5_readBoy_195 : decode cX5_readBoy 195 = .ok (.iload_n 1, 1) := by decide +kernel
theorem dX5_readBoy_196 : decode cX5_readBoy 196 = .ok (.invokevirtual 148, 3) := by decide +kernel
theorem dX5_readBoy_199 : decode cX5_readBoy 199 = .ok (.ireturn, 1) := by decide +kernel
theorem dX5_readDream_0 : decode cX5_readDream 0 = .ok (.aload_n 0, 1) := by decide +kernel
theorem dX5_readDream_1 : decode cX5_readDream 1 = .ok (.getfield 31, 3) := by decide +kernel
theorem dX5_readDream_4 : decode cX5_readDream 4 = .ok (.getfield 157, 3) := by decide +kernel
theorem dX5_readDream_7 : decode cX5_readDream 7 = .ok (.istore_n 1, 1) := by decide +kernel
theorem dX5_readDream_8 : decode cX5_readDream 8 = .ok (.iload_n 1, 1) := by decide +kernel
theorem dX5_readDream_9 : decode cX5_readDream 9 = .ok (.bipush 6, 2) := by decide +kernel
theorem dX5_readDream_11 : decode cX5_readDream 11 = .ok (.if_icmp .lt 9, 3) := by decide +kernel
theorem dX5_readDream_14 : decode cX5_readDream 14 = .ok (.aload_n 0, 1) := by decide +kernel
theorem dX5_readDream_15 : decode cX5_readDream 15 = .ok (.iconst 5, 1) := by decide +kernel
theorem dX5_readDream_16 : decode cX5_readDream 16 = .ok (.invokevirtual 63, 3) := by decide +kernel
theorem dX5_readDream_19 : decode cX5_readDream 19 = .ok (.ireturn, 1) := by decide +kernel
theorem dX5_readDream_20 : decode cX5_readDream 20 = .ok (.aload_n 0, 1) := by decide +kernel
theorem dX5_readDream_21 : decode cX5_readDream 21 = .ok (.invokevirtual 88, 3) := by decide +kernel
theorem dX5_readDream_24 : decode cX5_readDream 24 = .ok (.aload_n 0, 1) := by decide +kernel
theorem dX5_readDream_25 : decode cX5_readDream 25 = .ok (.invokevirtual 123, 3) := by decide +kernel
theorem dX5_readDream_28 : decode cX5_readDream 28 = .ok (.ifCond .ne 5, 3) := by decide +kernel
theorem dX5_readDream_31 : decode cX5_readDream 31 = .ok (.iconst 0, 1) := by decide +kernel
theorem dX5_readDream_32 : decode cX5_readDream 32 = .ok (.ireturn, 1) := by decide +kernel
theorem dX5_readDream_33 : decode cX5_readDream 33 = .ok (.aload_n 0, 1) := by decide +kernel
theorem dX5_readDream_34 : decode cX5_readDream 34 = .ok (.getfield 31, 3) := by decide +kernel
theorem dX5_readDream_37 : decode cX5_readDream 37 = .ok (.getfield 160, 3) := by decide +kernel
theorem dX5_readDream_40 : decode cX5_readDream 40 = .ok (.iload_n 1, 1) := by decide +kernel
theorem dX5_readDream_41 : decode cX5_readDream 41 = .ok (.aload_n 0, 1) := by decide +kernel
theorem dX5_readDream_42 : decode cX5_readDream 42 = .ok (.getfield 114, 3) := by decide +kernel
theorem dX5_readDream_45 : decode cX5_readDream 45 = .ok (.iastore, 1) := by decide +kernel
theorem dX5_readDream_46 : decode cX5_readDream 46 = .ok (.aload_n 0, 1) := by decide +kernel
theorem dX5_readDream_47 : decode cX5_readDream 47 = .ok (.bipush 15, 2) := by decide +kernel
theorem dX5_readDream_49 : decode cX5_readDream 49 = .ok (.invokevirtual 129, 3) := by decide +kernel
theorem dX5_readDream_52 : decode cX5_readDream 52 = .ok (.ifCond .eq 14, 3) := by decide +kernel
theorem dX5_readDream_55 : decode cX5_readDream 55 = .ok (.aload_n 0, 1) := by decide +kernel
theorem dX5_readDream_56 : decode cX5_readDream 56 = .ok (.iconst 1, 1) := by decide +kernel
theorem dX5_readDream_57 : decode cX5_readDream 57 = .ok (.sipush 999, 3) := by decide +kernel
theorem dX5_readDream_60 : decode cX5_readDream 60 = .ok (.invokevirtual 132, 3) := by decide +kernel
theorem dX5_readDream_63 : decode cX5_readDream 63 = .ok (.ifCond .ne 5, 3) := by decide +kernel
theorem dX5_readDream_66 : decode cX5_readDream 66 = .ok (.iconst 0, 1) := by decide +kernel
theorem dX5_readDream_67 : decode cX5_readDream 67 = .ok (.ireturn, 1) := by decide +kernel
theorem dX5_readDream_68 : decode cX5_readDream 68 = .ok (.aload_n 0, 1) := by decide +kernel
theorem dX5_readDream_69 : decode cX5_readDream 69 = .ok (.getfield 31, 3) := by decide +kernel
theorem dX5_readDream_72 : decode cX5_readDream 72 = .ok (.getfield 163, 3) := by decide +kernel
theorem dX5_readDream_75 : decode cX5_readDream 75 = .ok (.iload_n 1, 1) := by decide +kernel
theorem dX5_readDream_76 : decode cX5_readDream 76 = .ok (.aload_n 0, 1) := by decide +kernel
theorem dX5_readDream_77 : decode cX5_readDream 77 = .ok (.getfield 111, 3) := by decide +kernel
theorem dX5_readDream_80 : decode cX5_readDream 80 = .ok (.iastore, 1) := by decide +kernel
theorem dX5_readDream_81 : decode cX5_readDream 81 = .ok (.aload_n 0, 1) := by decide +kernel
theorem dX5_readDream_82 : decode cX5_readDream 82 = .ok (.bipush 16, 2) := by decide +kernel
theorem dX5_readDream_84 : decode cX5_readDream 84 = .ok (.invokevirtual 129, 3) := by decide +kernel
theorem dX5_readDream_87 : decode cX5_readDream 87 = .ok (.ifCond .eq 13, 3) := by decide +kernel
theorem dX5_readDream_90 : decode cX5_readDream 90 = .ok (.aload_n 0, 1) := by decide +kernel
theorem dX5_readDream_91 : decode cX5_readDream 91 = .ok (.iconst 1, 1) := by decide +kernel
theorem dX5_readDream_92 : decode cX5_readDream 92 = .ok (.bipush 60, 2) := by decide +kernel
theorem dX5_readDream_94 : decode cX5_readDream 94 = .ok (.invokevirtual 132, 3) := by decide +kernel
theorem dX5_readDream_97 : decode cX5_readDream 97 = .ok (.ifCond .ne 5, 3) := by decide +kernel
theorem dX5_readDream_100 : decode cX5_readDream 100 = .ok (.iconst 0, 1) := by decide +kernel
theorem dX5_readDream_101 : decode cX5_readDream 101 = .ok (.ireturn, 1) := by decide +kernel
theorem dX5_readDream_102 : decode cX5_readDream 102 = .ok (.aload_n 0, 1) := by decide +kernel
theorem dX5_readDream_103 : decode cX5_readDream 103 = .ok (.getfield 31, 3) := by decide +kernel
theorem dX5_readDream_106 : decode cX5_readDream 106 = .ok (.getfield 166, 3) := by decide +kernel
theorem dX5_readDream_109 : decode cX5_readDream 109 = .ok (.iload_n 1, 1) := by decide +kernel
theorem dX5_readDream_110 : decode cX5_readDream 110 = .ok (.aload_n 0, 1) := by decide +kernel
theorem dX5_readDream_111 : decode cX5_readDream 111 = .ok (.getfield 111, 3) := by decide +kernel
theorem dX5_readDream_114 : decode cX5_readDream 114 = .ok (.iastore, 1) := by decide +kernel
theorem dX5_readDream_115 : decode cX5_readDream 115 = .ok (.aload_n 0, 1) := by decide +kernel
theorem dX5_readDream_116 : decode cX5_readDream 116 = .ok (.bipush 17, 2) := by decide +kernel
theorem dX5_readDream_118 : decode cX5_readDream 118 = .ok (.invokevirtual 129, 3) := by decide +kernel
theorem dX5_readDream_121 : decode cX5_readDream 121 = .ok (.ifCond .eq 14, 3) := by decide +kernel
theorem dX5_readDream_124 : decode cX5_readDream 124 = .ok (.aload_n 0, 1) := by decide +kernel
theorem dX5_readDream_125 : decode cX5_readDream 125 = .ok (.iconst 1, 1) := by decide +kernel
theorem dX5_readDream_126 : decode cX5_readDream 126 = .ok (.sipush 999, 3) := by decide +kernel
theorem dX5_readDream_129 : decode cX5_readDream 129 = .ok (.invokevirtual 132, 3) := by decide +kernel
theorem dX5_readDream_132 : decode cX5_readDream 132 = .ok (.ifCond .ne 5, 3) := by decide +kernel
theorem dX5_readDream_135 : decode cX5_readDream 135 = .ok (.iconst 0, 1) := by decide +kernel
theorem dX5_readDream_136 : decode cX5_readDream 136 = .ok (.ireturn, 1) := by decide +kernel
theorem dX5_readDream_137 : decode cX5_readDream 137 = .ok (.aload_n 0, 1) := by decide +kernel
theorem dX5_readDream_138 : decode cX5_readDream 138 = .ok (.getfield 31, 3) := by decide +kernel
theorem dX5_readDream_141 : decode cX5_readDream 141 = .ok (.getfield 169, 3) := by decide +kernel
theorem dX5_readDream_144 : decode cX5_readDream 144 = .ok (.iload_n 1, 1) := by decide +kernel
theorem dX5_readDream_145 : decode cX5_readDream 145 = .ok (.aload_n 0, 1) := by decide +kernel
theorem dX5_readDream_146 : decode cX5_readDream 146 = .ok (.getfield 111, 3) := by decide +kernel
theorem dX5_readDream_149 : decode cX5_readDream 149 = .ok (.iastore, 1) := by decide +kernel
theorem dX5_readDream_150 : decode cX5_readDream 150 = .ok (.aload_n 0, 1) := by decide +kernel
theorem dX5_readDream_151 : decode cX5_readDream 151 = .ok (.bipush 8, 2) := by decide +kernel
theorem dX5_readDream_153 : decode cX5_readDream 153 = .ok (.invokevirtual 129, 3) := by decide +kernel
theorem dX5_readDream_156 : decode cX5_readDream 156 = .ok (.ifCond .eq 13, 3) := by decide +kernel
theorem dX5_readDream_159 : decode cX5_readDream 159 = .ok (.aload_n 0, 1) := by decide +kernel
theorem dX5_readDream_160 : decode cX5_readDream 160 = .ok (.iconst 1, 1) := by decide +kernel
theorem dX5_readDream_161 : decode cX5_readDream 161 = .ok (.bipush 99, 2) := by decide +kernel
theorem dX5_readDream_163 : decode cX5_readDream 163 = .ok (.invokevirtual 132, 3) := by decide +kernel
theorem dX5_readDream_166 : decode cX5_readDream 166 = .ok (.ifCond .ne 5, 3) := by decide +kernel
theorem dX5_readDream_169 : decode cX5_readDream 169 = .ok (.iconst 0, 1) := by decide +kernel
theorem dX5_readDream_170 : decode cX5_readDream 170 = .ok (.ireturn, 1) := by decide +kernel
theorem dX5_readDream_171 : decode cX5_readDream 171 = .ok (.aload_n 0, 1) := by decide +kernel
theorem dX5_readDream_172 : decode cX5_readDream 172 = .ok (.getfield 31, 3) := by decide +kernel
theorem dX5_readDream_175 : decode cX5_readDream 175 = .ok (.getfield 172, 3) := by decide +kernel
theorem dX5_readDream_178 : decode cX5_readDream 178 = .ok (.iload_n 1, 1) := by decide +kernel
theorem dX5_readDream_179 : decode cX5_readDream 179 = .ok (.aload_n 0, 1) := by decide +kernel
theorem dX5_readDream_180 : decode cX5_readDream 180 = .ok (.getfield 111, 3) := by decide +kernel
theorem dX5_readDream_183 : decode cX5_readDream 183 = .ok (.iastore, 1) := by decide +kernel
theorem dX5_readDream_184 : decode cX5_readDream 184 = .ok (.aload_n 0, 1) := by decide +kernel
theorem dX5_readDream_185 : decode cX5_readDream 185 = .ok (.getfield 31, 3) := by decide +kernel
theorem dX5_readDream_188 : decode cX5_readDream 188 = .ok (.dup, 1) := by decide +kernel
theorem dX5_readDream_189 : decode cX5_readDream 189 = .ok (.getfield 157, 3) := by decide +kernel
theorem dX5_readDream_192 : decode cX5_readDream 192 = .ok (.iconst 1, 1) := by decide +kernel
theorem dX5_readDream_193 : decode cX5_readDream 193 = .ok (.iadd, 1) := by decide +kernel
theorem dX5_readDream_194 : decode cX5_readDream 194 = .ok (.putfield 157, 3) := by decide +kernel
theorem dX5_readDream_197 : decode cX5_readDream 197 = .ok (.iconst 1, 1) := by decide +kernel
theorem dX5_readDream_198 : decode cX5_readDream 198 = .ok (.ireturn, 1) := by decide +kernel
theorem dX5_readFact_0 : decode cX5_readFact 0 = .ok (.iconst 0, 1) := by decide +kernel
theorem dX5_readFact_1 : decode cX5_readFact 1 = .ok (.istore_n 2, 1) := by decide +kernel
theorem dX5_readFact_2 : decode cX5_readFact 2 = .ok (.iload_n 2, 1) := by decide +kernel
theorem dX5_readFact_3 : decode cX5_readFact 3 = .ok (.sipush 1600, 3) := by decide +kernel
theorem dX5_readFact_6 : decode cX5_readFact 6 = .ok (.if_icmp .gt 22, 3) := by decide +kernel
theorem dX5_readFact_9 : decode cX5_readFact 9 = .ok (.aload_n 0, 1) := by decide +kernel
theorem dX5_readFact_10 : decode cX5_readFact 10 = .ok (.invokevirtual 67, 3) := by decide +kernel
theorem dX5_readFact_13 : decode cX5_readFact 13 = .ok (.bipush 23, 2) := by decide +kernel
theorem dX5_readFact_15 : decode cX5_readFact 15 = .ok (.if_icmp .ne 13, 3) := by decide +kernel
theorem dX5_readFact_18 : decode cX5_readFact 18 = .ok (.aload_n 0, 1) := by decide +kernel
theorem dX5_readFact_19 : decode cX5_readFact 19 = .ok (.invokevirtual 88, 3) := by decide +kernel
theorem dX5_readFact_22 : decode cX5_readFact 22 = .ok (.iinc 2 1, 3) := by decide +kernel
theorem dX5_readFact_25 : decode cX5_readFact 25 = .ok (.goto (-23), 3) := by decide +kernel
theorem dX5_readFact_28 : decode cX5_readFact 28 = .ok (.aload_n 0, 1) := by decide +kernel
theorem dX5_readFact_29 : decode cX5_readFact 29 = .ok (.bipush 91, 2) := by decide +kernel
theorem dX5_readFact_31 : decode cX5_readFact 31 = .ok (.invokevirtual 84, 3) := by decide +kernel
theorem dX5_readFact_34 : decode cX5_readFact 34 = .ok (.ifCond .eq 53, 3) := by decide +kernel
theorem dX5_readFact_37 : decode cX5_readFact 37 = .ok (.iload_n 1, 1) := by decide +kernel
theorem dX5_readFact_38 : decode cX5_readFact 38 = .ok (.bipush 8, 2) := by decide +kernel
theorem dX5_readFact_40 : decode cX5_readFact 40 = .ok (.if_icmp .lt 9, 3) := by decide +kernel
theorem dX5_readFact_43 : decode cX5_readFact 43 = .ok (.aload_n 0, 1) := by decide +kernel
theorem dX5_readFact_44 : decode cX5_readFact 44 = .ok (.iconst 5, 1) := by decide +kernel
theorem dX5_readFact_45 : decode cX5_readFact 45 = .ok (.invokevirtual 63, 3) := by decide +kernel
theorem dX5_readFact_48 : decode cX5_readFact 48 = .ok (.ireturn, 1) := by decide +kernel
theorem dX5_readFact_49 : decode cX5_readFact 49 = .ok (.aload_n 0, 1) := by decide +kernel
theorem dX5_readFact_50 : decode cX5_readFact 50 = .ok (.invokevirtual 88, 3) := by decide +kernel
theorem dX5_readFact_53 : decode cX5_readFact 53 = .ok (.aload_n 0, 1) := by decide +kernel
theorem dX5_readFact_54 : decode cX5_readFact 54 = .ok (.iload_n 1, 1) := by decide +kernel
theorem dX5_readFact_55 : decode cX5_readFact 55 = .ok (.iconst 1, 1) := by decide +kernel
theorem dX5_readFact_56 : decode cX5_readFact 56 = .ok (.iadd, 1) := by decide +kernel
theorem dX5_readFact_57 : decode cX5_readFact 57 = .ok (.invokevirtual 192, 3) := by decide +kernel
theorem dX5_readFact_60 : decode cX5_readFact 60 = .ok (.ifCond .ne 5, 3) := by decide +kernel
theorem dX5_readFact_63 : decode cX5_readFact 63 = .ok (.iconst 0, 1) := by decide +kernel
theorem dX5_readFact_64 : decode cX5_readFact 64 = .ok (.ireturn, 1) := by decide +kernel
theorem dX5_readFact_65 : decode cX5_readFact 65 = .ok (.aload_n 0, 1) := by decide +kernel
theorem dX5_readFact_66 : decode cX5_readFact 66 = .ok (.bipush 93, 2) := by decide +kernel
theorem dX5_readFact_68 : decode cX5_readFact 68 = .ok (.invokevirtual 84, 3) := by decide +kernel
theorem dX5_readFact_71 : decode cX5_readFact 71 = .ok (.ifCond .ne 9, 3) := by decide +kernel
theorem dX5_readFact_74 : decode cX5_readFact 74 = .ok (.aload_n 0, 1) := by decide +kernel
theorem dX5_readFact_75 : decode cX5_readFact 75 = .ok (.iconst 1, 1) := by decide +kernel
theorem dX5_readFact_76 : decode cX5_readFact 76 = .ok (.invokevirtual 63, 3) := by decide +kernel
theorem dX5_readFact_79 : decode cX5_readFact 79 = .ok (.ireturn, 1) := by decide +kernel
theorem dX5_readFact_80 : decode cX5_readFact 80 = .ok (.aload_n 0, 1) := by decide +kernel
theorem dX5_readFact_81 : decode cX5_readFact 81 = .ok (.invokevirtual 88, 3) := by decide +kernel
theorem dX5_readFact_84 : decode cX5_readFact 84 = .ok (.goto 119, 3) := by decide +kernel
theorem dX5_readFact_87 : decode cX5_readFact 87 = .ok (.aload_n 0, 1) := by decide +kernel
theorem dX5_readFact_88 : decode cX5_readFact 88 = .ok (.invokevirtual 67, 3) := by decide +kernel
theorem dX5_readFact_91 : decode cX5_readFact 91 = .ok (.bipush 24, 2) := by decide +kernel
theorem dX5_readFact_93 : decode cX5_readFact 93 = .ok (.if_icmp .ne 21, 3) := by decide +kernel
theorem dX5_readFact_96 : decode cX5_readFact 96 = .ok (.aload_n 0, 1) := by decide +kernel
theorem dX5_readFact_97 : decode cX5_readFact 97 = .ok (.invokevirtual 88, 3) := by decide +kernel
theorem dX5_readFact_100 : decode cX5_readFact 100 = .ok (.aload_n 0, 1) := by decide +kernel
theorem dX5_readFact_101 : decode cX5_readFact 101 = .ok (.getfield 31, 3) := by decide +kernel
theorem dX5_readFact_104 : decode cX5_readFact 104 = .ok (.getfield 175, 3) := by decide +kernel
theorem dX5_readFact_107 : decode cX5_readFact 107 = .ok (.iconst 1, 1) := by decide +kernel
theorem dX5_readFact_108 : decode cX5_readFact 108 = .ok (.invokevirtual 201, 3) := by decide +kernel
theorem dX5_readFact_111 : decode cX5_readFact 111 = .ok (.goto 92, 3) := by decide +kernel
theorem dX5_readFact_114 : decode cX5_readFact 114 = .ok (.aload_n 0, 1) := by decide +kernel
theorem dX5_readFact_115 : decode cX5_readFact 115 = .ok (.iload_n 1, 1) := by decide +kernel
theorem dX5_readFact_116 : decode cX5_readFact 116 = .ok (.invokevirtual 186, 3) := by decide +kernel
theorem dX5_readFact_119 : decode cX5_readFact 119 = .ok (.ifCond .ne 5, 3) := by decide +kernel
theorem dX5_readFact_122 : decode cX5_readFact 122 = .ok (.iconst 0, 1) := by decide +kernel
theorem dX5_readFact_123 : decode cX5_readFact 123 = .ok (.ireturn, 1) := by decide +kernel
theorem dX5_readFact_124 : decode cX5_readFact 124 = .ok (.aload_n 0, 1) := by decide +kernel
theorem dX5_readFact_125 : decode cX5_readFact 125 = .ok (.bipush 60, 2) := by decide +kernel
theorem dX5_readFact_127 : decode cX5_readFact 127 = .ok (.invokevirtual 84, 3) := by decide +kernel
theorem dX5_readFact_130 : decode cX5_readFact 130 = .ok (.ifCond .eq 8, 3) := by decide +kernel
theorem dX5_readFact_133 : decode cX5_readFact 133 = .ok (.bipush (-14), 2) := by decide +kernel
theorem dX5_readFact_135 : decode cX5_readFact 135 = .ok (.goto 32, 3) := by decide +kernel
theorem dX5_readFact_138 : decode cX5_readFact 138 = .ok (.aload_n 0, 1) := by decide +kernel
theorem dX5_readFact_139 : decode cX5_readFact 139 = .ok (.bipush 62, 2) := by decide +kernel
theorem dX5_readFact_141 : decode cX5_readFact 141 = .ok (.invokevirtual 84, 3) := by decide +kernel
theorem dX5_readFact_144 : decode cX5_readFact 144 = .ok (.ifCond .eq 8, 3) := by decide +kernel
theorem dX5_readFact_147 : decode cX5_readFact 147 = .ok (.bipush (-15), 2) := by decide +kernel
theorem dX5_readFact_149 : decode cX5_readFact 149 = .ok (.goto 18, 3) := by decide +kernel
theorem dX5_readFact_152 : decode cX5_readFact 152 = .ok (.aload_n 0, 1) := by decide +kernel
theorem dX5_readFact_153 : decode cX5_readFact 153 = .ok (.bipush 61, 2) := by decide +kernel
theorem dX5_readFact_155 : decode cX5_readFact 155 = .ok (.invokevirtual 84, 3) := by decide +kernel
theorem dX5_readFact_158 : decode cX5_readFact 158 = .ok (.ifCond .eq 8, 3) := by decide +kernel
theorem dX5_readFact_161 : decode cX5_readFact 161 = .ok (.bipush (-16), 2) := by decide +kernel
theorem dX5_readFact_163 : decode cX5_readFact 163 = .ok (.goto 4, 3) := by decide +kernel
theorem dX5_readFact_166 : decode cX5_readFact 166 = .ok (.iconst 0, 1) := by decide +kernel
theorem dX5_readFact_167 : decode cX5_readFact 167 = .ok (.istore_n 3, 1) := by decide +kernel
theorem dX5_readFact_168 : decode cX5_readFact 168 = .ok (.iload_n 3, 1) := by decide +kernel
theorem dX5_readFact_169 : decode cX5_readFact 169 = .ok (.ifCond .ne 9, 3) := by decide +kernel
theorem dX5_readFact_172 : decode cX5_readFact 172 = .ok (.aload_n 0, 1) := by decide +kernel
theorem dX5_readFact_173 : decode cX5_readFact 173 = .ok (.iconst 1, 1) := by decide +kernel
theorem dX5_readFact_174 : decode cX5_readFact 174 = .ok (.invokevirtual 63, 3) := by decide +kernel
theorem dX5_readFact_177 : decode cX5_readFact 177 = .ok (.ireturn, 1) := by decide +kernel
theorem dX5_readFact_178 : decode cX5_readFact 178 = .ok (.aload_n 0, 1) := by decide +kernel
theorem dX5_readFact_179 : decode cX5_readFact 179 = .ok (.invokevirtual 88, 3) := by decide +kernel
theorem dX5_readFact_182 : decode cX5_readFact 182 = .ok (.aload_n 0, 1) := by decide +kernel
theorem dX5_readFact_183 : decode cX5_readFact 183 = .ok (.iload_n 1, 1) := by decide +kernel
theorem dX5_readFact_184 : decode cX5_readFact 184 = .ok (.invokevirtual 186, 3) := by decide +kernel
theorem dX5_readFact_187 : decode cX5_readFact 187 = .ok (.ifCond .ne 5, 3) := by decide +kernel
theorem dX5_readFact_190 : decode cX5_readFact 190 = .ok (.iconst 0, 1) := by decide +kernel
theorem dX5_readFact_191 : decode cX5_readFact 191 = .ok (.ireturn, 1) := by decide +kernel
theorem dX5_readFact_192 : decode cX5_readFact 192 = .ok (.aload_n 0, 1) := by decide +kernel
theorem dX5_readFact_193 : decode cX5_readFact 193 = .ok (.getfield 31, 3) := by decide +kernel
theorem dX5_readFact_196 : decode cX5_readFact 196 = .ok (.getfield 175, 3) := by decide +kernel
theorem dX5_readFact_199 : decode cX5_readFact 199 = .ok (.iload_n 3, 1) := by decide +kernel
theorem dX5_readFact_200 : decode cX5_readFact 200 = .ok (.invokevirtual 201, 3) := by decide +kernel
theorem dX5_readFact_203 : decode cX5_readFact 203 = .ok (.iload_n 2, 1) := by decide +kernel
theorem dX5_readFact_204 : decode cX5_readFact 204 = .ok (.iconst 2, 1) := by decide +kernel
theorem dX5_readFact_205 : decode cX5_readFact 205 = .ok (.irem, 1) := by decide +kernel
theorem dX5_readFact_206 : decode cX5_readFact 206 = .ok (.iconst 1, 1) := by decide +kernel
theorem dX5_readFact_207 : decode cX5_readFact 207 = .ok (.if_icmp .ne 15, 3) := by decide +kernel
theorem dX5_readFact_210 : decode cX5_readFact 210 = .ok (.aload_n 0, 1) := by decide +kernel
theorem dX5_readFact_211 : decode cX5_readFact 211 = .ok (.getfield 31, 3) := by decide +kernel
theorem dX5_readFact_214 : decode cX5_readFact 214 = .ok (.getfield 175, 3) := by decide +kernel
theorem dX5_readFact_217 : decode cX5_readFact 217 = .ok (.bipush (-8), 2) := by decide +kernel
theorem dX5_readFact_219 : decode cX5_readFact 219 = .ok (.invokevirtual 201, 3) := by decide +kernel
theorem dX5_readFact_222 : decode cX5_readFact 222 = .ok (.iconst 1, 1) := by decide +kernel
theorem dX5_readFact_223 : decode cX5_readFact 223 = .ok (.ireturn, 1) := by decide +kernel
theorem dX5_readLaw_0 : decode cX5_readLaw 0 = .ok (.aload_n 0, 1) := by decide +kernel
theorem dX5_readLaw_1 : decode cX5_readLaw 1 = .ok (.getfield 31, 3) := by decide +kernel
theorem dX5_readLaw_4 : decode cX5_readLaw 4 = .ok (.getfield 175, 3) := by decide +kernel
theorem dX5_readLaw_7 : decode cX5_readLaw 7 = .ok (.getfield 179, 3) := by decide +kernel
theorem dX5_readLaw_10 : decode cX5_readLaw 10 = .ok (.bipush 8, 2) := by decide +kernel
theorem dX5_readLaw_12 : decode cX5_readLaw 12 = .ok (.if_icmp .lt 9, 3) := by decide +kernel
theorem dX5_readLaw_15 : decode cX5_readLaw 15 = .ok (.aload_n 0, 1) := by decide +kernel
theorem dX5_readLaw_16 : decode cX5_readLaw 16 = .ok (.iconst 5, 1) := by decide +kernel
theorem dX5_readLaw_17 : decode cX5_readLaw 17 = .ok (.invokevirtual 63, 3) := by decide +kernel
theorem dX5_readLaw_20 : decode cX5_readLaw 20 = .ok (.ireturn, 1) := by decide +kernel
theorem dX5_readLaw_21 : decode cX5_readLaw 21 = .ok (.aload_n 0, 1) := by decide +kernel
theorem dX5_readLaw_22 : decode cX5_readLaw 22 = .ok (.invokevirtual 88, 3) := by decide +kernel
theorem dX5_readLaw_25 : decode cX5_readLaw 25 = .ok (.aload_n 0, 1) := by decide +kernel
theorem dX5_readLaw_26 : decode cX5_readLaw 26 = .ok (.getfield 31, 3) := by decide +kernel
theorem dX5_readLaw_29 : decode cX5_readLaw 29 = .ok (.getfield 175, 3) := by decide +kernel
theorem dX5_readLaw_32 : decode cX5_readLaw 32 = .ok (.iload_n 1, 1) := by decide +kernel
theorem dX5_readLaw_33 : decode cX5_readLaw 33 = .ok (.invokevirtual 182, 3) := by decide +kernel
theorem dX5_readLaw_36 : decode cX5_readLaw 36 = .ok (.aload_n 0, 1) := by decide +kernel
theorem dX5_readLaw_37 : decode cX5_readLaw 37 = .ok (.iconst 0, 1) := by decide +kernel
theorem dX5_readLaw_38 : decode cX5_readLaw 38 = .ok (.invokevirtual 186, 3) := by decide +kernel
theorem dX5_readLaw_41 : decode cX5_readLaw 41 = .ok (.ifCond .eq 12, 3) := by decide +kernel
theorem dX5_readLaw_44 : decode cX5_readLaw 44 = .ok (.aload_n 0, 1) := by decide +kernel
theorem dX5_readLaw_45 : decode cX5_readLaw 45 = .ok (.bipush 20, 2) := by decide +kernel
theorem dX5_readLaw_47 : decode cX5_readLaw 47 = .ok (.invokevirtual 129, 3) := by decide +kernel
theorem dX5_readLaw_50 : decode cX5_readLaw 50 = .ok (.ifCond .ne 5, 3) := by decide +kernel
theorem dX5_readLaw_53 : decode cX5_readLaw 53 = .ok (.iconst 0, 1) := by decide +kernel
theorem dX5_readLaw_54 : decode cX5_readLaw 54 = .ok (.ireturn, 1) := by decide +kernel
theorem dX5_readLaw_55 : decode cX5_readLaw 55 = .ok (.aload_n 0, 1) := by decide +kernel
theorem dX5_readLaw_56 : decode cX5_readLaw 56 = .ok (.getfield 31, 3) := by decide +kernel
theorem dX5_readLaw_59 : decode cX5_readLaw 59 = .ok (.getfield 175, 3) := by decide +kernel
theorem dX5_readLaw_62 : decode cX5_readLaw 62 = .ok (.invokevirtual 189, 3) := by decide +kernel
theorem dX5_readLaw_65 : decode cX5_readLaw 65 = .ok (.aload_n 0, 1) := by decide +kernel
theorem dX5_readLaw_66 : decode cX5_readLaw 66 = .ok (.iconst 0, 1) := by decide +kernel
theorem dX5_readLaw_67 : decode cX5_readLaw 67 = .ok (.invokevirtual 192, 3) := by decide +kernel
theorem dX5_readLaw_70 : decode cX5_readLaw 70 = .ok (.ifCond .ne 5, 3) := by decide +kernel
theorem dX5_readLaw_73 : decode cX5_readLaw 73 = .ok (.iconst 0, 1) := by decide +kernel
theorem dX5_readLaw_74 : decode cX5_readLaw 74 = .ok (.ireturn, 1) := by decide +kernel
theorem dX5_readLaw_75 : decode cX5_readLaw 75 = .ok (.aload_n 0, 1) := by decide +kernel
theorem dX5_readLaw_76 : decode cX5_readLaw 76 = .ok (.getfield 31, 3) := by decide +kernel
theorem dX5_readLaw_79 : decode cX5_readLaw 79 = .ok (.getfield 175, 3) := by decide +kernel
theorem dX5_readLaw_82 : decode cX5_readLaw 82 = .ok (.invokevirtual 195, 3) := by decide +kernel
theorem dX5_readLaw_85 : decode cX5_readLaw 85 = .ok (.iconst 1, 1) := by decide +kernel
theorem dX5_readLaw_86 : decode cX5_readLaw 86 = .ok (.ireturn, 1) := by decide +kernel
theorem dX5_readMarks_0 : decode cX5_readMarks 0 = .ok (.aload_n 0, 1) := by decide +kernel
theorem dX5_readMarks_1 : decode cX5_readMarks 1 = .ok (.getfield 31, 3) := by decide +kernel
theorem dX5_readMarks_4 : decode cX5_readMarks 4 = .ok (.getfield 151, 3) := by decide +kernel
theorem dX5_readMarks_7 : decode cX5_readMarks 7 = .ok (.iload_n 1, 1) := by decide +kernel
theorem dX5_readMarks_8 : decode cX5_readMarks 8 = .ok (.iconst 0, 1) := by decide +kernel
theorem dX5_readMarks_9 : decode cX5_readMarks 9 = .ok (.iastore, 1) := by decide +kernel
theorem dX5_readMarks_10 : decode cX5_readMarks 10 = .ok (.iconst 0, 1) := by decide +kernel
theorem dX5_readMarks_11 : decode cX5_readMarks 11 = .ok (.istore_n 2, 1) := by decide +kernel
theorem dX5_readMarks_12 : decode cX5_readMarks 12 = .ok (.iload_n 2, 1) := by decide +kernel
theorem dX5_readMarks_13 : decode cX5_readMarks 13 = .ok (.iconst 2, 1) := by decide +kernel
theorem dX5_readMarks_14 : decode cX5_readMarks 14 = .ok (.if_icmp .gt 83, 3) := by decide +kernel
theorem dX5_readMarks_17 : decode cX5_readMarks 17 = .ok (.aload_n 0, 1) := by decide +kernel
theorem dX5_readMarks_18 : decode cX5_readMarks 18 = .ok (.invokevirtual 67, 3) := by decide +kernel
theorem dX5_readMarks_21 : decode cX5_readMarks 21 = .ok (.istore_n 3, 1) := by decide +kernel
theorem dX5_readMarks_22 : decode cX5_readMarks 22 = .ok (.iload_n 3, 1) := by decide +kernel
theorem dX5_readMarks_23 : decode cX5_readMarks 23 = .ok (.bipush 10, 2) := by decide +kernel
theorem dX5_readMarks_25 : decode cX5_readMarks 25 = .ok (.if_icmp .ne 7, 3) := by decide +kernel
theorem dX5_readMarks_28 : decode cX5_readMarks 28 = .ok (.iconst 1, 1) := by decide +kernel
theorem dX5_readMarks_29 : decode cX5_readMarks 29 = .ok (.goto 14, 3) := by decide +kernel
theorem dX5_readMarks_32 : decode cX5_readMarks 32 = .ok (.iload_n 3, 1) := by decide +kernel
theorem dX5_readMarks_33 : decode cX5_readMarks 33 = .ok (.bipush 11, 2) := by decide +kernel
theorem dX5_readMarks_35 : decode cX5_readMarks 35 = .ok (.if_icmp .ne 7, 3) := by decide +kernel
theorem dX5_readMarks_38 : decode cX5_readMarks 38 = .ok (.iconst 2, 1) := by decide +kernel
theorem dX5_readMarks_39 : decode cX5_readMarks 39 = .ok (.goto 4, 3) := by decide +kernel
theorem dX5_readMarks_42 : decode cX5_readMarks 42 = .ok (.iconst 0, 1) := by decide +kernel
theorem dX5_readMarks_43 : decode cX5_readMarks 43 = .ok (.istore 4, 2) := by decide +kernel
theorem dX5_readMarks_45 : decode cX5_readMarks 45 = .ok (.iload 4, 2) := by decide +kernel
theorem dX5_readMarks_47 : decode cX5_readMarks 47 = .ok (.ifCond .ne 5, 3) := by decide +kernel
theorem dX5_readMarks_50 : decode cX5_readMarks 50 = .ok (.iconst 1, 1) := by decide +kernel
theorem dX5_readMarks_51 : decode cX5_readMarks 51 = .ok (.ireturn, 1) := by decide +kernel
theorem dX5_readMarks_52 : decode cX5_readMarks 52 = .ok (.aload_n 0, 1) := by decide +kernel
theorem dX5_readMarks_53 : decode cX5_readMarks 53 = .ok (.getfield 31, 3) := by decide +kernel
theorem dX5_readMarks_56 : decode cX5_readMarks 56 = .ok (.getfield 151, 3) := by decide +kernel
theorem dX5_readMarks_59 : decode cX5_readMarks 59 = .ok (.iload_n 1, 1) := by decide +kernel
theorem dX5_readMarks_60 : decode cX5_readMarks 60 = .ok (.iaload, 1) := by decide +kernel
theorem dX5_readMarks_61 : decode cX5_readMarks 61 = .ok (.iload 4, 2) := by decide +kernel
theorem dX5_readMarks_63 : decode cX5_readMarks 63 = .ok (.iand, 1) := by decide +kernel
theorem dX5_readMarks_64 : decode cX5_readMarks 64 = .ok (.ifCond .eq 9, 3) := by decide +kernel
theorem dX5_readMarks_67 : decode cX5_readMarks 67 = .ok (.aload_n 0, 1) := by decide +kernel
theorem dX5_readMarks_68 : decode cX5_readMarks 68 = .ok (.iconst 1, 1) := by decide +kernel
theorem dX5_readMarks_69 : decode cX5_readMarks 69 = .ok (.invokevirtual 63, 3) := by decide +kernel
theorem dX5_readMarks_72 : decode cX5_readMarks 72 = .ok (.ireturn, 1) := by decide +kernel
theorem dX5_readMarks_73 : decode cX5_readMarks 73 = .ok (.aload_n 0, 1) := by decide +kernel
theorem dX5_readMarks_74 : decode cX5_readMarks 74 = .ok (.getfield 31, 3) := by decide +kernel
theorem dX5_readMarks_77 : decode cX5_readMarks 77 = .ok (.getfield 151, 3) := by decide +kernel
theorem dX5_readMarks_80 : decode cX5_readMarks 80 = .ok (.iload_n 1, 1) := by decide +kernel
theorem dX5_readMarks_81 : decode cX5_readMarks 81 = .ok (.dup2, 1) := by decide +kernel
theorem dX5_readMarks_82 : decode cX5_readMarks 82 = .ok (.iaload, 1) := by decide +kernel
theorem dX5_readMarks_83 : decode cX5_readMarks 83 = .ok (.iload 4, 2) := by decide +kernel
theorem dX5_readMarks_85 : decode cX5_readMarks 85 = .ok (.ior, 1) := by decide +kernel
theorem dX5_readMarks_86 : decode cX5_readMarks 86 = .ok (.iastore, 1) := by decide +kernel
theorem dX5_readMarks_87 : decode cX5_readMarks 87 = .ok (.aload_n 0, 1) := by decide +kernel
theorem dX5_readMarks_88 : decode cX5_readMarks 88 = .ok (.invokevirtual 88, 3) := by decide +kernel
theorem dX5_readMarks_91 : decode cX5_readMarks 91 = .ok (.iinc 2 1, 3) := by decide +kernel
theorem dX5_readMarks_94 : decode cX5_readMarks 94 = .ok (.goto (-82), 3) := by decide +kernel
theorem dX5_readMarks_97 : decode cX5_readMarks 97 = .ok (.iconst 1, 1) := by decide +kernel
theorem dX5_readMarks_98 : decode cX5_readMarks 98 = .ok (.ireturn, 1) := by decide +kernel
theorem dX5_readPart_0 : decode cX5_readPart 0 = .ok (.aload_n 0, 1) := by decide +kernel
theorem dX5_readPart_1 : decode cX5_readPart 1 = .ok (.getfield 19, 3) := by decide +kernel
theorem dX5_readPart_4 : decode cX5_readPart 4 = .ok (.aload_n 0, 1) := by decide +kernel
theorem dX5_readPart_5 : decode cX5_readPart 5 = .ok (.getfield 53, 3) := by decide +kernel
theorem dX5_readPart_8 : decode cX5_readPart 8 = .ok (.iaload, 1) := by decide +kernel
theorem dX5_readPart_9 : decode cX5_readPart 9 = .ok (.iconst 4, 1) := by decide +kernel
theorem dX5_readPart_10 : decode cX5_readPart 10 = .ok (.if_icmp .ne 28, 3) := by decide +kernel
theorem dX5_readPart_13 : decode cX5_readPart 13 = .ok (.aload_n 0, 1) := by decide +kernel
theorem dX5_readPart_14 : decode cX5_readPart 14 = .ok (.getfield 31, 3) := by decide +kernel
theorem dX5_readPart_17 : decode cX5_readPart 17 = .ok (.getfield 175, 3) := by decide +kernel
theorem dX5_readPart_20 : decode cX5_readPart 20 = .ok (.aload_n 0, 1) := by decide +kernel
theorem dX5_readPart_21 : decode cX5_readPart 21 = .ok (.getfield 22, 3) := by decide +kernel
theorem dX5_readPart_24 : decode cX5_readPart 24 = .ok (.aload_n 0, 1) := by decide +kernel
theorem dX5_readPart_25 : decode cX5_readPart 25 = .ok (.getfield 53, 3) := by decide +kernel
theorem dX5_readPart_28 : decode cX5_readPart 28 = .ok (.iaload, 1) := by decide +kernel
theorem dX5_readPart_29 : decode cX5_readPart 29 = .ok (.invokevirtual 201, 3) := by decide +kernel
theorem dX5_readPart_32 : decode cX5_readPart 32 = .ok (.aload_n 0, 1) := by decide +kernel
theorem dX5_readPart_33 : decode cX5_readPart 33 = .ok (.invokevirtual 88, 3) := by decide +kernel
theorem dX5_readPart_36 : decode cX5_readPart 36 = .ok (.iconst 1, 1) := by decide +kernel
theorem dX5_readPart_37 : decode cX5_readPart 37 = .ok (.ireturn, 1) := by decide +kernel
theorem dX5_readPart_38 : decode cX5_readPart 38 = .ok (.aload_n 0, 1) := by decide +kernel
theorem dX5_readPart_39 : decode cX5_readPart 39 = .ok (.invokevirtual 67, 3) := by decide +kernel
theorem dX5_readPart_42 : decode cX5_readPart 42 = .ok (.istore_n 2, 1) := by decide +kernel
theorem dX5_readPart_43 : decode cX5_readPart 43 = .ok (.iload_n 2, 1) := by decide +kernel
theorem dX5_readPart_44 : decode cX5_readPart 44 = .ok (.iconst (-1), 1) := by decide +kernel
theorem dX5_readPart_45 : decode cX5_readPart 45 = .ok (.if_icmp .eq 28, 3) := by decide +kernel
theorem dX5_readPart_48 : decode cX5_readPart 48 = .ok (.iload_n 2, 1) := by decide +kernel
theorem dX5_readPart_49 : decode cX5_readPart 49 = .ok (.bipush 7, 2) := by decide +kernel
theorem dX5_readPart_51 : decode cX5_readPart 51 = .ok (.if_icmp .ge 22, 3) := by decide +kernel
theorem dX5_readPart_54 : decode cX5_readPart 54 = .ok (.aload_n 0, 1) := by decide +kernel
theorem dX5_readPart_55 : decode cX5_readPart 55 = .ok (.getfield 31, 3) := by decide +kernel
theorem dX5_readPart_58 : decode cX5_readPart 58 = .ok (.getfield 175, 3) := by decide +kernel
theorem dX5_readPart_61 : decode cX5_readPart 61 = .ok (.iconst (-1), 1) := by decide +kernel
theorem dX5_readPart_62 : decode cX5_readPart 62 = .ok (.iload_n 2, 1) := by decide +kernel
theorem dX5_readPart_63 : decode cX5_readPart 63 = .ok (.isub, 1) := by decide +kernel
theorem dX5_readPart_64 : decode cX5_readPart 64 = .ok (.invokevirtual 201, 3) := by decide +kernel
theorem dX5_readPart_67 : decode cX5_readPart 67 = .ok (.aload_n 0, 1) := by decide +kernel
theorem dX5_readPart_68 : decode cX5_readPart 68 = .ok (.invokevirtual 88, 3) := by decide +kernel
theorem dX5_readPart_71 : decode cX5_readPart 71 = .ok (.iconst 1, 1) := by decide +kernel
theorem dX5_readPart_72 : decode cX5_readPart 72 = .ok (.ireturn, 1) := by decide +kernel
theorem dX5_readPart_73 : decode cX5_readPart 73 = .ok (.iload_n 2, 1) := by decide +kernel
theorem dX5_readPart_74 : decode cX5_readPart 74 = .ok (.bipush 25, 2) := by decide +kernel
theorem dX5_readPart_76 : decode cX5_readPart 76 = .ok (.if_icmp .eq 9, 3) := by decide +kernel
theorem dX5_readPart_79 : decode cX5_readPart 79 = .ok (.iload_n 2, 1) := by decide +kernel
theorem dX5_readPart_80 : decode cX5_readPart 80 = .ok (.bipush 26, 2) := by decide +kernel
theorem dX5_readPart_82 : decode cX5_readPart 82 = .ok (.if_icmp .ne 7, 3) := by decide +kernel
theorem dX5_readPart_85 : decode cX5_readPart 85 = .ok (.iconst 1, 1) := by decide +kernel
theorem dX5_readPart_86 : decode cX5_readPart 86 = .ok (.goto 4, 3) := by decide +kernel
theorem dX5_readPart_89 : decode cX5_readPart 89 = .ok (.iconst 0, 1) := by decide +kernel
theorem dX5_readPart_90 : decode cX5_readPart 90 = .ok (.istore_n 3, 1) := by decide +kernel
theorem dX5_readPart_91 : decode cX5_readPart 91 = .ok (.iload_n 3, 1) := by decide +kernel
theorem dX5_readPart_92 : decode cX5_readPart 92 = .ok (.ifCond .eq 7, 3) := by decide +kernel
theorem dX5_readPart_95 : decode cX5_readPart 95 = .ok (.aload_n 0, 1) := by decide +kernel
theorem dX5_readPart_96 : decode cX5_readPart 96 = .ok (.invokevirtual 88, 3) := by decide +kernel
theorem dX5_readPart_99 : decode cX5_readPart 99 = .ok (.aload_n 0, 1) := by decide +kernel
theorem dX5_readPart_100 : decode cX5_readPart 100 = .ok (.bipush 40, 2) := by decide +kernel
theorem dX5_readPart_102 : decode cX5_readPart 102 = .ok (.invokevirtual 84, 3) := by decide +kernel
theorem dX5_readPart_105 : decode cX5_readPart 105 = .ok (.ifCond .ne 9, 3) := by decide +kernel
theorem dX5_readPart_108 : decode cX5_readPart 108 = .ok (.aload_n 0, 1) := by decide +kernel
theorem dX5_readPart_109 : decode cX5_readPart 109 = .ok (.iconst 1, 1) := by decide +kernel
theorem dX5_readPart_110 : decode cX5_readPart 110 = .ok (.invokevirtual 63, 3) := by decide +kernel
theorem dX5_readPart_113 : decode cX5_readPart 113 = .ok (.ireturn, 1) := by decide +kernel
theorem dX5_readPart_114 : decode cX5_readPart 114 = .ok (.iload_n 1, 1) := by decide +kernel
theorem dX5_readPart_115 : decode cX5_readPart 115 = .ok (.bipush 8, 2) := by decide +kernel
theorem dX5_readPart_117 : decode cX5_readPart 117 = .ok (.if_icmp .lt 9, 3) := by decide +kernel
theorem dX5_readPart_120 : decode cX5_readPart 120 = .ok (.aload_n 0, 1) := by decide +kernel
theorem dX5_readPart_121 : decode cX5_readPart 121 = .ok (.iconst 5, 1) := by decide +kernel
theorem dX5_readPart_122 : decode cX5_readPart 122 = .ok (.invokevirtual 63, 3) := by decide +kernel
theorem dX5_readPart_125 : decode cX5_readPart 125 = .ok (.ireturn, 1) := by decide +kernel
theorem dX5_readPart_126 : decode cX5_readPart 126 = .ok (.aload_n 0, 1) := by decide +kernel
theorem dX5_readPart_127 : decode cX5_readPart 127 = .ok (.invokevirtual 88, 3) := by decide +kernel
theorem dX5_readPart_130 : decode cX5_readPart 130 = .ok (.aload_n 0, 1) := by decide +kernel
theorem dX5_readPart_131 : decode cX5_readPart 131 = .ok (.iload_n 1, 1) := by decide +kernel
theorem dX5_readPart_132 : decode cX5_readPart 132 = .ok (.iconst 1, 1) := by decide +kernel
theorem dX5_readPart_133 : decode cX5_readPart 133 = .ok (.iadd, 1) := by decide +kernel
theorem dX5_readPart_134 : decode cX5_readPart 134 = .ok (.invokevirtual 186, 3) := by decide +kernel
theorem dX5_readPart_137 : decode cX5_readPart 137 = .ok (.ifCond .ne 5, 3) := by decide +kernel
theorem dX5_readPart_140 : decode cX5_readPart 140 = .ok (.iconst 0, 1) := by decide +kernel
theorem dX5_readPart_141 : decode cX5_readPart 141 = .ok (.ireturn, 1) := by decide +kernel
theorem dX5_readPart_142 : decode cX5_readPart 142 = .ok (.iload_n 3, 1) := by decide +kernel
theorem dX5_readPart_143 : decode cX5_readPart 143 = .ok (.ifCond .eq 57, 3) := by decide +kernel
theorem dX5_readPart_146 : decode cX5_readPart 146 = .ok (.aload_n 0, 1) := by decide +kernel
theorem dX5_readPart_147 : decode cX5_readPart 147 = .ok (.bipush 44, 2) := by decide +kernel
theorem dX5_readPart_149 : decode cX5_readPart 149 = .ok (.invokevirtual 84, 3) := by decide +kernel
theorem dX5_readPart_152 : decode cX5_readPart 152 = .ok (.ifCond .ne 9, 3) := by decide +kernel
theorem dX5_readPart_155 : decode cX5_readPart 155 = .ok (.aload_n 0, 1) := by decide +kernel
theorem dX5_readPart_156 : decode cX5_readPart 156 = .ok (.iconst 1, 1) := by decide +kernel
theorem dX5_readPart_157 : decode cX5_readPart 157 = .ok (.invokevirtual 63, 3) := by decide +kernel
theorem dX5_readPart_160 : decode cX5_readPart 160 = .ok (.ireturn, 1) := by decide +kernel
theorem dX5_readPart_161 : decode cX5_readPart 161 = .ok (.aload_n 0, 1) := by decide +kernel
theorem dX5_readPart_162 : decode cX5_readPart 162 = .ok (.invokevirtual 88, 3) := by decide +kernel
theorem dX5_readPart_165 : decode cX5_readPart 165 = .ok (.aload_n 0, 1) := by decide +kernel
theorem dX5_readPart_166 : decode cX5_readPart 166 = .ok (.iload_n 1, 1) := by decide +kernel
theorem dX5_readPart_167 : decode cX5_readPart 167 = .ok (.iconst 1, 1) := by decide +kernel
theorem dX5_readPart_168 : decode cX5_readPart 168 = .ok (.iadd, 1) := by decide +kernel
theorem dX5_readPart_169 : decode cX5_readPart 169 = .ok (.invokevirtual 186, 3) := by decide +kernel
theorem dX5_readPart_172 : decode cX5_readPart 172 = .ok (.ifCond .ne 5, 3) := by decide +kernel
theorem dX5_readPart_175 : decode cX5_readPart 175 = .ok (.iconst 0, 1) := by decide +kernel
theorem dX5_readPart_176 : decode cX5_readPart 176 = .ok (.ireturn, 1) := by decide +kernel
theorem dX5_readPart_177 : decode cX5_readPart 177 = .ok (.aload_n 0, 1) := by decide +kernel
theorem dX5_readPart_178 : decode cX5_readPart 178 = .ok (.getfield 31, 3) := by decide +kernel
theorem dX5_readPart_181 : decode cX5_readPart 181 = .ok (.getfield 175, 3) := by decide +kernel
theorem dX5_readPart_184 : decode cX5_readPart 184 = .ok (.iload_n 2, 1) := by decide +kernel
theorem dX5_readPart_185 : decode cX5_readPart 185 = .ok (.bipush 25, 2) := by decide +kernel
theorem dX5_readPart_187 : decode cX5_readPart 187 = .ok (.if_icmp .ne 8, 3) := by decide +kernel
theorem dX5_readPart_190 : decode cX5_readPart 190 = .ok (.bipush (-19), 2) := by decide +kernel
theorem dX5_readPart_192 : decode cX5_readPart 192 = .ok (.goto 5, 3) := by decide +kernel
theorem dX5_readPart_195 : decode cX5_readPart 195 = .ok (.bipush (-20), 2) := by decide +kernel
theorem dX5_readPart_197 : decode cX5_readPart 197 = .ok (.invokevirtual 201, 3) := by decide +kernel
theorem dX5_readPart_200 : decode cX5_readPart 200 = .ok (.aload_n 0, 1) := by decide +kernel
theorem dX5_readPart_201 : decode cX5_readPart 201 = .ok (.bipush 41, 2) := by decide +kernel
theorem dX5_readPart_203 : decode cX5_readPart 203 = .ok (.invokevirtual 84, 3) := by decide +kernel
theorem dX5_readPart_206 : decode cX5_readPart 206 = .ok (.ifCond .ne 9, 3) := by decide +kernel
theorem dX5_readPart_209 : decode cX5_readPart 209 = .ok (.aload_n 0, 1) := by decide +kernel
theorem dX5_readPart_210 : decode cX5_readPart 210 = .ok (.iconst 1, 1) := by decide +kernel
theorem dX5_readPart_211 : decode cX5_readPart 211 = .ok (.invokevirtual 63, 3) := by decide +kernel
theorem dX5_readPart_214 : decode cX5_readPart 214 = .ok (.ireturn, 1) := by decide +kernel
theorem dX5_readPart_215 : decode cX5_readPart 215 = .ok (.aload_n 0, 1) := by decide +kernel
theorem dX5_readPart_216 : decode cX5_readPart 216 = .ok (.invokevirtual 88, 3) := by decide +kernel
theorem dX5_readPart_219 : decode cX5_readPart 219 = .ok (.iconst 1, 1) := by decide +kernel
theorem dX5_readPart_220 : decode cX5_readPart 220 = .ok (.ireturn, 1) := by decide +kernel
theorem dX5_readSlack_0 : decode cX5_readSlack 0 = .ok (.aload_n 0, 1) := by decide +kernel
theorem dX5_readSlack_1 : decode cX5_readSlack 1 = .ok (.invokevirtual 88, 3) := by decide +kernel
theorem dX5_readSlack_4 : decode cX5_readSlack 4 = .ok (.aload_n 0, 1) := by decide +kernel
theorem dX5_readSlack_5 : decode cX5_readSlack 5 = .ok (.iconst 0, 1) := by decide +kernel
theorem dX5_readSlack_6 : decode cX5_readSlack 6 = .ok (.bipush 99, 2) := by decide +kernel
theorem dX5_readSlack_8 : decode cX5_readSlack 8 = .ok (.invokevirtual 132, 3) := by decide +kernel
theorem dX5_readSlack_11 : decode cX5_readSlack 11 = .ok (.ifCond .ne 5, 3) := by decide +kernel
theorem dX5_readSlack_14 : decode cX5_readSlack 14 = .ok (.iconst 0, 1) := by decide +kernel
theorem dX5_readSlack_15 : decode cX5_readSlack 15 = .ok (.ireturn, 1) := by decide +kernel
theorem dX5_readSlack_16 : decode cX5_readSlack 16 = .ok (.aload_n 0, 1) := by decide +kernel
theorem dX5_readSlack_17 : decode cX5_readSlack 17 = .ok (.getfield 111, 3) := by decide +kernel
theorem dX5_readSlack_20 : decode cX5_readSlack 20 = .ok (.istore_n 1, 1) := by decide +kernel
theorem dX5_readSlack_21 : decode cX5_readSlack 21 = .ok (.aload_n 0, 1) := by decide +kernel
theorem dX5_readSlack_22 : decode cX5_readSlack 22 = .ok (.bipush 13, 2) := by decide +kernel
theorem dX5_readSlack_24 : decode cX5_readSlack 24 = .ok (.invokevirtual 129, 3) := by decide +kernel
theorem dX5_readSlack_27 : decode cX5_readSlack 27 = .ok (.ifCond .eq 13, 3) := by decide +kernel
theorem dX5_readSlack_30 : decode cX5_readSlack 30 = .ok (.aload_n 0, 1) := by decide +kernel
theorem dX5_readSlack_31 : decode cX5_readSlack 31 = .ok (.iconst 0, 1) := by decide +kernel
theorem dX5_readSlack_32 : decode cX5_readSlack 32 = .ok (.bipush 10, 2) := by decide +kernel
theorem dX5_readSlack_34 : decode cX5_readSlack 34 = .ok (.invokevirtual 132, 3) := by decide +kernel
theorem dX5_readSlack_37 : decode cX5_readSlack 37 = .ok (.ifCond .ne 5, 3) := by decide +kernel
theorem dX5_readSlack_40 : decode cX5_readSlack 40 = .ok (.iconst 0, 1) := by decide +kernel
theorem dX5_readSlack_41 : decode cX5_readSlack 41 = .ok (.ireturn, 1) := by decide +kernel
theorem dX5_readSlack_42 : decode cX5_readSlack 42 = .ok (.aload_n 0, 1) := by decide +kernel
theorem dX5_readSlack_43 : decode cX5_readSlack 43 = .ok (.getfield 31, 3) := by decide +kernel
theorem dX5_readSlack_46 : decode cX5_readSlack 46 = .ok (.getfield 154, 3) := by decide +kernel
theorem dX5_readSlack_49 : decode cX5_readSlack 49 = .ok (.aload_n 0, 1) := by decide +kernel
theorem dX5_readSlack_50 : decode cX5_readSlack 50 = .ok (.getfield 111, 3) := by decide +kernel
theorem dX5_readSlack_53 : decode cX5_readSlack 53 = .ok (.iload_n 1, 1) := by decide +kernel
theorem dX5_readSlack_54 : decode cX5_readSlack 54 = .ok (.iastore, 1) := by decide +kernel
theorem dX5_readSlack_55 : decode cX5_readSlack 55 = .ok (.iconst 1, 1) := by decide +kernel
theorem dX5_readSlack_56 : decode cX5_readSlack 56 = .ok (.ireturn, 1) := by decide +kernel
theorem dX5_readSum_0 : decode cX5_readSum 0 = .ok (.iconst 0, 1) := by decide +kernel
theorem dX5_readSum_1 : decode cX5_readSum 1 = .ok (.istore_n 2, 1) := by decide +kernel
theorem dX5_readSum_2 : decode cX5_readSum 2 = .ok (.iconst 0, 1) := by decide +kernel
theorem dX5_readSum_3 : decode cX5_readSum 3 = .ok (.istore_n 3, 1) := by decide +kernel
theorem dX5_readSum_4 : decode cX5_readSum 4 = .ok (.iload_n 3, 1) := by decide +kernel
theorem dX5_readSum_5 : decode cX5_readSum 5 = .ok (.sipush 1600, 3) := by decide +kernel
theorem dX5_readSum_8 : decode cX5_readSum 8 = .ok (.if_icmp .gt 169, 3) := by decide +kernel
theorem dX5_readSum_11 : decode cX5_readSum 11 = .ok (.iconst 0, 1) := by decide +kernel
theorem dX5_readSum_12 : decode cX5_readSum 12 = .ok (.istore 4, 2) := by decide +kernel
theorem dX5_readSum_14 : decode cX5_readSum 14 = .ok (.iconst 0, 1) := by decide +kernel
theorem dX5_readSum_15 : decode cX5_readSum 15 = .ok (.istore 5, 2) := by decide +kernel
theorem dX5_readSum_17 : decode cX5_readSum 17 = .ok (.iload 5, 2) := by decide +kernel
theorem dX5_readSum_19 : decode cX5_readSum 19 = .ok (.sipush 1600, 3) := by decide +kernel
theorem dX5_readSum_22 : decode cX5_readSum 22 = .ok (.if_icmp .gt 93, 3) := by decide +kernel
theorem dX5_readSum_25 : decode cX5_readSum 25 = .ok (.aload_n 0, 1) := by decide +kernel
theorem dX5_readSum_26 : decode cX5_readSum 26 = .ok (.iload_n 1, 1) := by decide +kernel
theorem dX5_readSum_27 : decode cX5_readSum 27 = .ok (.invokevirtual 205, 3) := by decide +kernel
theorem dX5_readSum_30 : decode cX5_readSum 30 = .ok (.ifCond .ne 5, 3) := by decide +kernel
theorem dX5_readSum_33 : decode cX5_readSum 33 = .ok (.iconst 0, 1) := by decide +kernel
theorem dX5_readSum_34 : decode cX5_readSum 34 = .ok (.ireturn, 1) := by decide +kernel
theorem dX5_readSum_35 : decode cX5_readSum 35 = .ok (.iload 4, 2) := by decide +kernel
theorem dX5_readSum_37 : decode cX5_readSum 37 = .ok (.ifCond .eq 15, 3) := by decide +kernel
theorem dX5_readSum_40 : decode cX5_readSum 40 = .ok (.aload_n 0, 1) := by decide +kernel
theorem dX5_readSum_41 : decode cX5_readSum 41 = .ok (.getfield 31, 3) := by decide +kernel
theorem dX5_readSum_44 : decode cX5_readSum 44 = .ok (.getfield 175, 3) := by decide +kernel
theorem dX5_readSum_47 : decode cX5_readSum 47 = .ok (.iload 4, 2) := by decide +kernel
theorem dX5_readSum_49 : decode cX5_readSum 49 = .ok (.invokevirtual 201, 3) := by decide +kernel
theorem dX5_readSum_52 : decode cX5_readSum 52 = .ok (.aload_n 0, 1) := by decide +kernel
theorem dX5_readSum_53 : decode cX5_readSum 53 = .ok (.bipush 42, 2) := by decide +kernel
theorem dX5_readSum_55 : decode cX5_readSum 55 = .ok (.invokevirtual 84, 3) := by decide +kernel
theorem dX5_readSum_58 : decode cX5_readSum 58 = .ok (.ifCond .eq 8, 3) := by decide +kernel
theorem dX5_readSum_61 : decode cX5_readSum 61 = .ok (.bipush (-9), 2) := by decide +kernel
theorem dX5_readSum_63 : decode cX5_readSum 63 = .ok (.goto 32, 3) := by decide +kernel
theorem dX5_readSum_66 : decode cX5_readSum 66 = .ok (.aload_n 0, 1) := by decide +kernel
theorem dX5_readSum_67 : decode cX5_readSum 67 = .ok (.bipush 47, 2) := by decide +kernel
theorem dX5_readSum_69 : decode cX5_readSum 69 = .ok (.invokevirtual 84, 3) := by decide +kernel
theorem dX5_readSum_72 : decode cX5_readSum 72 = .ok (.ifCond .eq 8, 3) := by decide +kernel
theorem dX5_readSum_75 : decode cX5_readSum 75 = .ok (.bipush (-10), 2) := by decide +kernel
theorem dX5_readSum_77 : decode cX5_readSum 77 = .ok (.goto 18, 3) := by decide +kernel
theorem dX5_readSum_80 : decode cX5_readSum 80 = .ok (.aload_n 0, 1) := by decide +kernel
theorem dX5_readSum_81 : decode cX5_readSum 81 = .ok (.bipush 37, 2) := by decide +kernel
theorem dX5_readSum_83 : decode cX5_readSum 83 = .ok (.invokevirtual 84, 3) := by decide +kernel
theorem dX5_readSum_86 : decode cX5_readSum 86 = .ok (.ifCond .eq 8, 3) := by decide +kernel
theorem dX5_readSum_89 : decode cX5_readSum 89 = .ok (.bipush (-11), 2) := by decide +kernel
theorem dX5_readSum_91 : decode cX5_readSum 91 = .ok (.goto 4, 3) := by decide +kernel
theorem dX5_readSum_94 : decode cX5_readSum 94 = .ok (.iconst 0, 1) := by decide +kernel
theorem dX5_readSum_95 : decode cX5_readSum 95 = .ok (.istore 4, 2) := by decide +kernel
theorem dX5_readSum_97 : decode cX5_readSum 97 = .ok (.iload 4, 2) := by decide +kernel
theorem dX5_readSum_99 : decode cX5_readSum 99 = .ok (.ifCond .ne 6, 3) := by decide +kernel
theorem dX5_readSum_102 : decode cX5_readSum 102 = .ok (.goto 13, 3) := by decide +kernel
theorem dX5_readSum_105 : decode cX5_readSum 105 = .ok (.aload_n 0, 1) := by decide +kernel
theorem dX5_readSum_106 : decode cX5_readSum 106 = .ok (.invokevirtual 88, 3) := by decide +kernel
theorem dX5_readSum_109 : decode cX5_readSum 109 = .ok (.iinc 5 1, 3) := by decide +kernel
theorem dX5_readSum_112 : decode cX5_readSum 112 = .ok (.goto (-95), 3) := by decide +kernel
theorem dX5_readSum_115 : decode cX5_readSum 115 = .ok (.iload_n 2, 1) := by decide +kernel
theorem dX5_readSum_116 : decode cX5_readSum 116 = .ok (.ifCond .eq 14, 3) := by decide +kernel
theorem dX5_readSum_119 : decode cX5_readSum 119 = .ok (.aload_n 0, 1) := by decide +kernel
theorem dX5_readSum_120 : decode cX5_readSum 120 = .ok (.getfield 31, 3) := by decide +kernel
theorem dX5_readSum_123 : decode cX5_readSum 123 = .ok (.getfield 175, 3) := by decide +kernel
theorem dX5_readSum_126 : decode cX5_readSum 126 = .ok (.iload_n 2, 1) := by decide +kernel
theorem dX5_readSum_127 : decode cX5_readSum 127 = .ok (.invokevirtual 201, 3) := by decide +kernel
theorem dX5_readSum_130 : decode cX5_readSum 130 = .ok (.aload_n 0, 1) := by decide +kernel
theorem dX5_readSum_131 : decode cX5_readSum 131 = .ok (.bipush 43, 2) := by decide +kernel
theorem dX5_readSum_133 : decode cX5_readSum 133 = .ok (.invokevirtual 84, 3) := by decide +kernel
theorem dX5_readSum_136 : decode cX5_readSum 136 = .ok (.ifCond .eq 8, 3) := by decide +kernel
theorem dX5_readSum_139 : decode cX5_readSum 139 = .ok (.bipush (-12), 2) := by decide +kernel
theorem dX5_readSum_141 : decode cX5_readSum 141 = .ok (.goto 18, 3) := by decide +kernel
theorem dX5_readSum_144 : decode cX5_readSum 144 = .ok (.aload_n 0, 1) := by decide +kernel
theorem dX5_readSum_145 : decode cX5_readSum 145 = .ok (.bipush 45, 2) := by decide +kernel
theorem dX5_readSum_147 : decode cX5_readSum 147 = .ok (.invokevirtual 84, 3) := by decide +kernel
theorem dX5_readSum_150 : decode cX5_readSum 150 = .ok (.ifCond .eq 8, 3) := by decide +kernel
theorem dX5_readSum_153 : decode cX5_readSum 153 = .ok (.bipush (-13), 2) := by decide +kernel
theorem dX5_readSum_155 : decode cX5_readSum 155 = .ok (.goto 4, 3) := by decide +kernel
theorem dX5_readSum_158 : decode cX5_readSum 158 = .ok (.iconst 0, 1) := by decide +kernel
theorem dX5_readSum_159 : decode cX5_readSum 159 = .ok (.istore_n 2, 1) := by decide +kernel
theorem dX5_readSum_160 : decode cX5_readSum 160 = .ok (.iload_n 2, 1) := by decide +kernel
theorem dX5_readSum_161 : decode cX5_readSum 161 = .ok (.ifCond .ne 6, 3) := by decide +kernel
theorem dX5_readSum_164 : decode cX5_readSum 164 = .ok (.goto 13, 3) := by decide +kernel
theorem dX5_readSum_167 : decode cX5_readSum 167 = .ok (.aload_n 0, 1) := by decide +kernel
theorem dX5_readSum_168 : decode cX5_readSum 168 = .ok (.invokevirtual 88, 3) := by decide +kernel
theorem dX5_readSum_171 : decode cX5_readSum 171 = .ok (.iinc 3 1, 3) := by decide +kernel
theorem dX5_readSum_174 : decode cX5_readSum 174 = .ok (.goto (-170), 3) := by decide +kernel
theorem dX5_readSum_177 : decode cX5_readSum 177 = .ok (.iconst 1, 1) := by decide +kernel
theorem dX5_readSum_178 : decode cX5_readSum 178 = .ok (.ireturn, 1) := by decide +kernel
theorem dX5_readTest_0 : decode cX5_readTest 0 = .ok (.iconst 0, 1) := by decide +kernel
theorem dX5_readTest_1 : decode cX5_readTest 1 = .ok (.istore_n 2, 1) := by decide +kernel
theorem dX5_readTest_2 : decode cX5_readTest 2 = .ok (.iload_n 2, 1) := by decide +kernel
theorem dX5_readTest_3 : decode cX5_readTest 3 = .ok (.sipush 1600, 3) := by decide +kernel
theorem dX5_readTest_6 : decode cX5_readTest 6 = .ok (.if_icmp .gt 98, 3) := by decide +kernel
theorem dX5_readTest_9 : decode cX5_readTest 9 = .ok (.iconst 0, 1) := by decide +kernel
theorem dX5_readTest_10 : decode cX5_readTest 10 = .ok (.istore_n 3, 1) := by decide +kernel
theorem dX5_readTest_11 : decode cX5_readTest 11 = .ok (.iload_n 3, 1) := by decide +kernel
theorem dX5_readTest_12 : decode cX5_readTest 12 = .ok (.sipush 1600, 3) := by decide +kernel
theorem dX5_readTest_15 : decode cX5_readTest 15 = .ok (.if_icmp .gt 51, 3) := by decide +kernel
theorem dX5_readTest_18 : decode cX5_readTest 18 = .ok (.aload_n 0, 1) := by decide +kernel
theorem dX5_readTest_19 : decode cX5_readTest 19 = .ok (.iload_n 1, 1) := by decide +kernel
theorem dX5_readTest_20 : decode cX5_readTest 20 = .ok (.invokevirtual 198, 3) := by decide +kernel
theorem dX5_readTest_23 : decode cX5_readTest 23 = .ok (.ifCond .ne 5, 3) := by decide +kernel
theorem dX5_readTest_26 : decode cX5_readTest 26 = .ok (.iconst 0, 1) := by decide +kernel
theorem dX5_readTest_27 : decode cX5_readTest 27 = .ok (.ireturn, 1) := by decide +kernel
theorem dX5_readTest_28 : decode cX5_readTest 28 = .ok (.iload_n 3, 1) := by decide +kernel
theorem dX5_readTest_29 : decode cX5_readTest 29 = .ok (.ifCond .le 15, 3) := by decide +kernel
theorem dX5_readTest_32 : decode cX5_readTest 32 = .ok (.aload_n 0, 1) := by decide +kernel
theorem dX5_readTest_33 : decode cX5_readTest 33 = .ok (.getfield 31, 3) := by decide +kernel
theorem dX5_readTest_36 : decode cX5_readTest 36 = .ok (.getfield 175, 3) := by decide +kernel
theorem dX5_readTest_39 : decode cX5_readTest 39 = .ok (.bipush (-17), 2) := by decide +kernel
theorem dX5_readTest_41 : decode cX5_readTest 41 = .ok (.invokevirtual 201, 3) := by decide +kernel
theorem dX5_readTest_44 : decode cX5_readTest 44 = .ok (.aload_n 0, 1) := by decide +kernel
theorem dX5_readTest_45 : decode cX5_readTest 45 = .ok (.invokevirtual 67, 3) := by decide +kernel
theorem dX5_readTest_48 : decode cX5_readTest 48 = .ok (.bipush 22, 2) := by decide +kernel
theorem dX5_readTest_50 : decode cX5_readTest 50 = .ok (.if_icmp .eq 6, 3) := by decide +kernel
theorem dX5_readTest_53 : decode cX5_readTest 53 = .ok (.goto 13, 3) := by decide +kernel
theorem dX5_readTest_56 : decode cX5_readTest 56 = .ok (.aload_n 0, 1) := by decide +kernel
theorem dX5_readTest_57 : decode cX5_readTest 57 = .ok (.invokevirtual 88, 3) := by decide +kernel
theorem dX5_readTest_60 : decode cX5_readTest 60 = .ok (.iinc 3 1, 3) := by decide +kernel
theorem dX5_readTest_63 : decode cX5_readTest 63 = .ok (.goto (-52), 3) := by decide +kernel
theorem dX5_readTest_66 : decode cX5_readTest 66 = .ok (.iload_n 2, 1) := by decide +kernel
theorem dX5_readTest_67 : decode cX5_readTest 67 = .ok (.ifCond .le 15, 3) := by decide +kernel
theorem dX5_readTest_70 : decode cX5_readTest 70 = .ok (.aload_n 0, 1) := by decide +kernel
theorem dX5_readTest_71 : decode cX5_readTest 71 = .ok (.getfield 31, 3) := by decide +kernel
theorem dX5_readTest_74 : decode cX5_readTest 74 = .ok (.getfield 175, 3) := by decide +kernel
theorem dX5_readTest_77 : decode cX5_readTest 77 = .ok (.bipush (-18), 2) := by decide +kernel
theorem dX5_readTest_79 : decode cX5_readTest 79 = .ok (.invokevirtual 201, 3) := by decide +kernel
theorem dX5_readTest_82 : decode cX5_readTest 82 = .ok (.aload_n 0, 1) := by decide +kernel
theorem dX5_readTest_83 : decode cX5_readTest 83 = .ok (.invokevirtual 67, 3) := by decide +kernel
theorem dX5_readTest_86 : decode cX5_readTest 86 = .ok (.bipush 21, 2) := by decide +kernel
theorem dX5_readTest_88 : decode cX5_readTest 88 = .ok (.if_icmp .eq 6, 3) := by decide +kernel
theorem dX5_readTest_91 : decode cX5_readTest 91 = .ok (.goto 13, 3) := by decide +kernel
theorem dX5_readTest_94 : decode cX5_readTest 94 = .ok (.aload_n 0, 1) := by decide +kernel
theorem dX5_readTest_95 : decode cX5_readTest 95 = .ok (.invokevirtual 88, 3) := by decide +kernel
theorem dX5_readTest_98 : decode cX5_readTest 98 = .ok (.iinc 2 1, 3) := by decide +kernel
theorem dX5_readTest_101 : decode cX5_readTest 101 = .ok (.goto (-99), 3) := by decide +kernel
theorem dX5_readTest_104 : decode cX5_readTest 104 = .ok (.iconst 1, 1) := by decide +kernel
theorem dX5_readTest_105 : decode cX5_readTest 105 = .ok (.ireturn, 1) := by decide +kernel
theorem dX5_scan_0 : decode cX5_scan 0 = .ok (.aload_n 0, 1) := by decide +kernel
theorem dX5_scan_1 : decode cX5_scan 1 = .ok (.iconst 0, 1) := by decide +kernel
theorem dX5_scan_2 : decode cX5_scan 2 = .ok (.putfield 91, 3) := by decide +kernel
theorem dX5_scan_5 : decode cX5_scan 5 = .ok (.iconst 0, 1) := by decide +kernel
theorem dX5_scan_6 : decode cX5_scan 6 = .ok (.istore_n 3, 1) := by decide +kernel
theorem dX5_scan_7 : decode cX5_scan 7 = .ok (.iconst 0, 1) := by decide +kernel
theorem dX5_scan_8 : decode cX5_scan 8 = .ok (.istore 4, 2) := by decide +kernel
theorem dX5_scan_10 : decode cX5_scan 10 = .ok (.iconst 0, 1) := by decide +kernel
theorem dX5_scan_11 : decode cX5_scan 11 = .ok (.istore 5, 2) := by decide +kernel
theorem dX5_scan_13 : decode cX5_scan 13 = .ok (.iload 5, 2) := by decide +kernel
theorem dX5_scan_15 : decode cX5_scan 15 = .ok (.iload_n 2, 1) := by decide +kernel
theorem dX5_scan_16 : decode cX5_scan 16 = .ok (.if_icmp .ge 161, 3) := by decide +kernel
theorem dX5_scan_19 : decode cX5_scan 19 = .ok (.iload 5, 2) := by decide +kernel
theorem dX5_scan_21 : decode cX5_scan 21 = .ok (.aload_n 1, 1) := by decide +kernel
theorem dX5_scan_22 : decode cX5_scan 22 = .ok (.arraylength, 1) := by decide +kernel
theorem dX5_scan_23 : decode cX5_scan 23 = .ok (.if_icmp .ge 154, 3) := by decide +kernel
theorem dX5_scan_26 : decode cX5_scan 26 = .ok (.aload_n 1, 1) := by decide +kernel
theorem dX5_scan_27 : decode cX5_scan 27 = .ok (.iload 5, 2) := by decide +kernel
theorem dX5_scan_29 : decode cX5_scan 29 = .ok (.iaload, 1) := by decide +kernel
theorem dX5_scan_30 : decode cX5_scan 30 = .ok (.istore 6, 2) := by decide +kernel
theorem dX5_scan_32 : decode cX5_scan 32 = .ok (.iload 6, 2) := by decide +kernel
theorem dX5_scan_34 : decode cX5_scan 34 = .ok (.invokestatic 94, 3) := by decide +kernel
theorem dX5_scan_37 : decode cX5_scan 37 = .ok (.istore 7, 2) := by decide +kernel
theorem dX5_scan_39 : decode cX5_scan 39 = .ok (.iload 7, 2) := by decide +kernel
theorem dX5_scan_41 : decode cX5_scan 41 = .ok (.iconst 2, 1) := by decide +kernel
theorem dX5_scan_42 : decode cX5_scan 42 = .ok (.if_icmp .eq 9, 3) := by decide +kernel
theorem dX5_scan_45 : decode cX5_scan 45 = .ok (.iload 7, 2) := by decide +kernel
theorem dX5_scan_47 : decode cX5_scan 47 = .ok (.iconst 4, 1) := by decide +kernel
theorem dX5_scan_48 : decode cX5_scan 48 = .ok (.if_icmp .ne 7, 3) := by decide +kernel
theorem dX5_scan_51 : decode cX5_scan 51 = .ok (.iconst 1, 1) := by decide +kernel
theorem dX5_scan_52 : decode cX5_scan 52 = .ok (.goto 4, 3) := by decide +kernel
theorem dX5_scan_55 : decode cX5_scan 55 = .ok (.iconst 0, 1) := by decide +kernel
theorem dX5_scan_56 : decode cX5_scan 56 = .ok (.istore 8, 2) := by decide +kernel
theorem dX5_scan_58 : decode cX5_scan 58 = .ok (.iload 8, 2) := by decide +kernel
theorem dX5_scan_60 : decode cX5_scan 60 = .ok (.ifCond .eq 26, 3) := by decide +kernel
theorem dX5_scan_63 : decode cX5_scan 63 = .ok (.iload 7, 2) := by decide +kernel
theorem dX5_scan_65 : decode cX5_scan 65 = .ok (.iload_n 3, 1) := by decide +kernel
theorem dX5_scan_66 : decode cX5_scan 66 = .ok (.if_icmp .ne 20, 3) := by decide +kernel
theorem dX5_scan_69 : decode cX5_scan 69 = .ok (.iinc 4 1, 3) := by decide +kernel
theorem dX5_scan_72 : decode cX5_scan 72 = .ok (.aload_n 0, 1) := by decide +kernel
theorem dX5_scan_73 : decode cX5_scan 73 = .ok (.iload 6, 2) := by decide +kernel
theorem dX5_scan_75 : decode cX5_scan 75 = .ok (.iload 4, 2) := by decide +kernel
theorem dX5_scan_77 : decode cX5_scan 77 = .ok (.iload 5, 2) := by decide +kernel
theorem dX5_scan_79 : decode cX5_scan 79 = .ok (.invokevirtual 98, 3) := by decide +kernel
theorem dX5_scan_82 : decode cX5_scan 82 = .ok (.ifCond .ne 77, 3) := by decide +kernel
theorem dX5_scan_85 : decode cX5_scan 85 = .ok (.return_, 1) := by decide +kernel
theorem dX5_scan_86 : decode cX5_scan 86 = .ok (.iload 7, 2) := by decide +kernel
theorem dX5_scan_88 : decode cX5_scan 88 = .ok (.iconst 1, 1) := by decide +kernel
theorem dX5_scan_89 : decode cX5_scan 89 = .ok (.if_icmp .eq 12, 3) := by decide +kernel
theorem dX5_scan_92 : decode cX5_scan 92 = .ok (.iload 8, 2) := by decide +kernel
theorem dX5_scan_94 : decode cX5_scan 94 = .ok (.ifCond .eq 17, 3) := by decide +kernel
theorem dX5_scan_97 : decode cX5_scan 97 = .ok (.iload_n 3, 1) := by decide +kernel
theorem dX5_scan_98 : decode cX5_scan 98 = .ok (.ifCond .eq 13, 3) := by decide +kernel
theorem dX5_scan_101 : decode cX5_scan 101 = .ok (.aload_n 0, 1) := by decide +kernel
theorem dX5_scan_102 : decode cX5_scan 102 = .ok (.iconst 1, 1) := by decide +kernel
theorem dX5_scan_103 : decode cX5_scan 103 = .ok (.iload 5, 2) := by decide +kernel
theorem dX5_scan_105 : decode cX5_scan 105 = .ok (.iload 5, 2) := by decide +kernel
theorem dX5_scan_107 : decode cX5_scan 107 = .ok (.invokevirtual 102, 3) := by decide +kernel
theorem dX5_scan_110 : decode cX5_scan 110 = .ok (.return_, 1) := by decide +kernel
theorem dX5_scan_111 : decode cX5_scan 111 = .ok (.iload 7, 2) := by decide +kernel
theorem dX5_scan_113 : decode cX5_scan 113 = .ok (.ifCond .eq 46, 3) := by decide +kernel
theorem dX5_scan_116 : decode cX5_scan 116 = .ok (.aload_n 0, 1) := by decide +kernel
theorem dX5_scan_117 : decode cX5_scan 117 = .ok (.iload 7, 2) := by decide +kernel
theorem dX5_scan_119 : decode cX5_scan 119 = .ok (.iload 7, 2) := by decide +kernel
theorem dX5_scan_121 : decode cX5_scan 121 = .ok (.iconst 2, 1) := by decide +kernel
theorem dX5_scan_122 : decode cX5_scan 122 = .ok (.if_icmp .ne 13, 3) := by decide +kernel
theorem dX5_scan_125 : decode cX5_scan 125 = .ok (.iload 6, 2) := by decide +kernel
theorem dX5_scan_127 : decode cX5_scan 127 = .ok (.bipush 97, 2) := by decide +kernel
theorem dX5_scan_129 : decode cX5_scan 129 = .ok (.isub, 1) := by decide +kernel
theorem dX5_scan_130 : decode cX5_scan 130 = .ok (.iconst 1, 1) := by decide +kernel
theorem dX5_scan_131 : decode cX5_scan 131 = .ok (.iadd, 1) := by decide +kernel
theorem dX5_scan_132 : decode cX5_scan 132 = .ok (.goto 19, 3) := by decide +kernel
theorem dX5_scan_135 : decode cX5_scan 135 = .ok (.iload 7, 2) := by decide +kernel
theorem dX5_scan_137 : decode cX5_scan 137 = .ok (.iconst 4, 1) := by decide +kernel
theorem dX5_scan_138 : decode cX5_scan 138 = .ok (.if_icmp .ne 11, 3) := by decide +kernel
theorem dX5_scan_141 : decode cX5_scan 141 = .ok (.iload 6, 2) := by decide +kernel
theorem dX5_scan_143 : decode cX5_scan 143 = .ok (.bipush 48, 2) := by decide +kernel
theorem dX5_scan_145 : decode cX5_scan 145 = .ok (.isub, 1) := by decide +kernel
theorem dX5_scan_146 : decode cX5_scan 146 = .ok (.goto 5, 3) := by decide +kernel
theorem dX5_scan_149 : decode cX5_scan 149 = .ok (.iload 6, 2) := by decide +kernel
theorem dX5_scan_151 : decode cX5_scan 151 = .ok (.iload 5, 2) := by decide +kernel
theorem dX5_scan_153 : decode cX5_scan 153 = .ok (.invokevirtual 102, 3) := by decide +kernel
theorem dX5_scan_156 : decode cX5_scan 156 = .ok (.iconst 1, 1) := by decide +kernel
theorem dX5_scan_157 : decode cX5_scan 157 = .ok (.istore 4, 2) := by decide +kernel
theorem dX5_scan_159 : decode cX5_scan 159 = .ok (.iload 8, 2) := by decide +kernel
theorem dX5_scan_161 : decode cX5_scan 161 = .ok (.ifCond .eq 8, 3) := by decide +kernel
theorem dX5_scan_164 : decode cX5_scan 164 = .ok (.iload 7, 2) := by decide +kernel
theorem dX5_scan_166 : decode cX5_scan 166 = .ok (.goto 4, 3) := by decide +kernel
theorem dX5_scan_169 : decode cX5_scan 169 = .ok (.iconst 0, 1) := by decide +kernel
theorem dX5_scan_170 : decode cX5_scan 170 = .ok (.istore_n 3, 1) := by decide +kernel
theorem dX5_scan_171 : decode cX5_scan 171 = .ok (.iinc 5 1, 3) := by decide +kernel
theorem dX5_scan_174 : decode cX5_scan 174 = .ok (.goto (-161), 3) := by decide +kernel
theorem dX5_scan_177 : decode cX5_scan 177 = .ok (.aload_n 0, 1) := by decide +kernel
theorem dX5_scan_178 : decode cX5_scan 178 = .ok (.iconst 0, 1) := by decide +kernel
theorem dX5_scan_179 : decode cX5_scan 179 = .ok (.iload_n 2, 1) := by decide +kernel
theorem dX5_scan_180 : decode cX5_scan 180 = .ok (.iload_n 2, 1) := by decide +kernel
theorem dX5_scan_181 : decode cX5_scan 181 = .ok (.invokevirtual 102, 3) := by decide +kernel
theorem dX5_scan_184 : decode cX5_scan 184 = .ok (.return_, 1) := by decide +kernel
theorem dX5_step_0 : decode cX5_step 0 = .ok (.aload_n 0, 1) := by decide +kernel
theorem dX5_step_1 : decode cX5_step 1 = .ok (.getfield 53, 3) := by decide +kernel
theorem dX5_step_4 : decode cX5_step 4 = .ok (.aload_n 0, 1) := by decide +kernel
theorem dX5_step_5 : decode cX5_step 5 = .ok (.getfield 91, 3) := by decide +kernel
theorem dX5_step_8 : decode cX5_step 8 = .ok (.iconst 1, 1) := by decide +kernel
theorem dX5_step_9 : decode cX5_step 9 = .ok (.isub, 1) := by decide +kernel
theorem dX5_step_10 : decode cX5_step 10 = .ok (.if_icmp .ge 13, 3) := by decide +kernel
theorem dX5_step_13 : decode cX5_step 13 = .ok (.aload_n 0, 1) := by decide +kernel
theorem dX5_step_14 : decode cX5_step 14 = .ok (.dup, 1) := by decide +kernel
theorem dX5_step_15 : decode cX5_step 15 = .ok (.getfield 53, 3) := by decide +kernel
theorem dX5_step_18 : decode cX5_step 18 = .ok (.iconst 1, 1) := by decide +kernel
theorem dX5_step_19 : decode cX5_step 19 = .ok (.iadd, 1) := by decide +kernel
theorem dX5_step_20 : decode cX5_step 20 = .ok (.putfield 53, 3) := by decide +kernel
theorem dX5_step_23 : decode cX5_step 23 = .ok (.return_, 1) := by decide +kernel
theorem dX6_awake_0 : decode cX6_awake 0 = .ok (.iconst 0, 1) := by decide +kernel
theorem dX6_awake_1 : decode cX6_awake 1 = .ok (.istore_n 1, 1) := by decide +kernel
theorem dX6_awake_2 : decode cX6_awake 2 = .ok (.iconst 0, 1) := by decide +kernel
theorem dX6_awake_3 : decode cX6_awake 3 = .ok (.istore_n 2, 1) := by decide +kernel
theorem dX6_awake_4 : decode cX6_awake 4 = .ok (.iload_n 2, 1) := by decide +kernel
theorem dX6_awake_5 : decode cX6_awake 5 = .ok (.aload_n 0, 1) := by decide +kernel
theorem dX6_awake_6 : decode cX6_awake 6 = .ok (.getfield 58, 3) := by decide +kernel
theorem dX6_awake_9 : decode cX6_awake 9 = .ok (.if_icmp .ge 26, 3) := by decide +kernel
theorem dX6_awake_12 : decode cX6_awake 12 = .ok (.iload_n 1, 1) := by decide +kernel
theorem dX6_awake_13 : decode cX6_awake 13 = .ok (.aload_n 0, 1) := by decide +kernel
theorem dX6_awake_14 : decode cX6_awake 14 = .ok (.getfield 15, 3) := by decide +kernel
theorem dX6_awake_17 : decode cX6_awake 17 = .ok (.iload_n 2, 1) := by decide +kernel
theorem dX6_awake_18 : decode cX6_awake 18 = .ok (.baload, 1) := by decide +kernel
theorem dX6_awake_19 : decode cX6_awake 19 = .ok (.ifCond .eq 7, 3) := by decide +kernel
theorem dX6_awake_22 : decode cX6_awake 22 = .ok (.iconst 0, 1) := by decide +kernel
theorem dX6_awake_23 : decode cX6_awake 23 = .ok (.goto 4, 3) := by decide +kernel
theorem dX6_awake_26 : decode cX6_awake 26 = .ok (.iconst 1, 1) := by decide +kernel
theorem dX6_awake_27 : decode cX6_awake 27 = .ok (.iadd, 1) := by decide +kernel
theorem dX6_awake_28 : decode cX6_awake 28 = .ok (.istore_n 1, 1) := by decide +kernel
theorem dX6_awake_29 : decode cX6_awake 29 = .ok (.iinc 2 1, 3) := by decide +kernel
theorem dX6_awake_32 : decode cX6_awake 32 = .ok (.goto (-28), 3) := by decide +kernel
theorem dX6_awake_35 : decode cX6_awake 35 = .ok (.iload_n 1, 1) := by decide +kernel
theorem dX6_awake_36 : decode cX6_awake 36 = .ok (.ireturn, 1) := by decide +kernel
theorem dX6_begin_0 : decode cX6_begin 0 = .ok (.aload_n 0, 1) := by decide +kernel
theorem dX6_begin_1 : decode cX6_begin 1 = .ok (.aload_n 1, 1) := by decide +kernel
theorem dX6_begin_2 : decode cX6_begin 2 = .ok (.getfield 52, 3) := by decide +kernel
theorem dX6_begin_5 : decode cX6_begin 5 = .ok (.putfield 58, 3) := by decide +kernel
theorem dX6_begin_8 : decode cX6_begin 8 = .ok (.aload_n 0, 1) := by decide +kernel
theorem dX6_begin_9 : decode cX6_begin 9 = .ok (.iconst 0, 1) := by decide +kernel
theorem dX6_begin_10 : decode cX6_begin 10 = .ok (.putfield 61, 3) := by decide +kernel
theorem dX6_begin_13 : decode cX6_begin 13 = .ok (.aload_n 0, 1) := by decide +kernel
theorem dX6_begin_14 : decode cX6_begin 14 = .ok (.iconst 0, 1) := by decide +kernel
theorem dX6_begin_15 : decode cX6_begin 15 = .ok (.putfield 64, 3) := by decide +kernel
theorem dX6_begin_18 : decode cX6_begin 18 = .ok (.iconst 0, 1) := by decide +kernel
theorem dX6_begin_19 : decode cX6_begin 19 = .ok (.istore_n 2, 1) := by decide +kernel
theorem dX6_begin_20 : decode cX6_begin 20 = .ok (.iload_n 2, 1) := by decide +kernel
theorem dX6_begin_21 : decode cX6_begin 21 = .ok (.bipush 12, 2) := by decide +kernel
theorem dX6_begin_23 : decode cX6_begin 23 = .ok (.if_icmp .ge 79, 3) := by decide +kernel
theorem dX6_begin_26 : decode cX6_begin 26 = .ok (.aload_n 0, 1) := by decide +kernel
theorem dX6_begin_27 : decode cX6_begin 27 = .ok (.getfield 9, 3) := by decide +kernel
theorem dX6_begin_30 : decode cX6_begin 30 = .ok (.iload_n 2, 1) := by decide +kernel
theorem dX6_begin_31 : decode cX6_begin 31 = .ok (.iload_n 2, 1) := by decide +kernel
theorem dX6_begin_32 : decode cX6_begin 32 = .ok (.iastore, 1) := by decide +kernel
theorem dX6_begin_33 : decode cX6_begin 33 = .ok (.aload_n 0, 1) := by decide +kernel
theorem dX6_begin_34 : decode cX6_begin 34 = .ok (.getfield 15, 3) := by decide +kernel
theorem dX6_begin_37 : decode cX6_begin 37 = .ok (.iload_n 2, 1) := by decide +kernel
theorem dX6_begin_38 : decode cX6_begin 38 = .ok (.iconst 1, 1) := by decide +kernel
theorem dX6_begin_39 : decode cX6_begin 39 = .ok (.bastore, 1) := by decide +kernel
theorem dX6_begin_40 : decode cX6_begin 40 = .ok (.aload_n 0, 1) := by decide +kernel
theorem dX6_begin_41 : decode cX6_begin 41 = .ok (.getfield 19, 3) := by decide +kernel
theorem dX6_begin_44 : decode cX6_begin 44 = .ok (.iload_n 2, 1) := by decide +kernel
theorem dX6_begin_45 : decode cX6_begin 45 = .ok (.iconst (-1), 1) := by decide +kernel
theorem dX6_begin_46 : decode cX6_begin 46 = .ok (.iastore, 1) := by decide +kernel
theorem dX6_begin_47 : decode cX6_begin 47 = .ok (.aload_n 0, 1) := by decide +kernel
theorem dX6_begin_48 : decode cX6_begin 48 = .ok (.getfield 22, 3) := by decide +kernel
theorem dX6_begin_51 : decode cX6_begin 51 = .ok (.iload_n 2, 1) := by decide +kernel
theorem dX6_begin_52 : decode cX6_begin 52 = .ok (.iconst 0, 1) := by decide +kernel
theorem dX6_begin_53 : decode cX6_begin 53 = .ok (.iastore, 1) := by decide +kernel
theorem dX6_begin_54 : decode cX6_begin 54 = .ok (.aload_n 0, 1) := by decide +kernel
theorem dX6_begin_55 : decode cX6_begin 55 = .ok (.getfield 25, 3) := by decide +kernel
theorem dX6_begin_58 : decode cX6_begin 58 = .ok (.iload_n 2, 1) := by decide +kernel
theorem dX6_begin_59 : decode cX6_begin 59 = .ok (.iconst (-1), 1) := by decide +kernel
theorem dX6_begin_60 : decode cX6_begin 60 = .ok (.iastore, 1) := by decide +kernel
theorem dX6_begin_61 : decode cX6_begin 61 = .ok (.aload_n 0, 1) := by decide +kernel
theorem dX6_begin_62 : decode cX6_begin 62 = .ok (.getfield 28, 3) := by decide +kernel
theorem dX6_begin_65 : decode cX6_begin 65 = .ok (.iload_n 2, 1) := by decide +kernel
theorem dX6_begin_66 : decode cX6_begin 66 = .ok (.iconst 0, 1) := by decide +kernel
theorem dX6_begin_67 : decode cX6_begin 67 = .ok (.iastore, 1) := by decide +kernel
theorem dX6_begin_68 : decode cX6_begin 68 = .ok (.aload_n 0, 1) := by decide +kernel
theorem dX6_begin_69 : decode cX6_begin 69 = .ok (.getfield 31, 3) := by decide +kernel
theorem dX6_begin_72 : decode cX6_begin 72 = .ok (.iload_n 2, 1) := by decide +kernel
theorem dX6_begin_73 : decode cX6_begin 73 = .ok (.iconst (-1), 1) := by decide +kernel
theorem dX6_begin_74 : decode cX6_begin 74 = .ok (.iastore, 1) := by decide +kernel
theorem dX6_begin_75 : decode cX6_begin 75 = .ok (.aload_n 0, 1) := by decide +kernel
theorem dX6_begin_76 : decode cX6_begin 76 = .ok (.getfield 34, 3) := by decide +kernel
theorem dX6_begin_79 : decode cX6_begin 79 = .ok (.iload_n 2, 1) := by decide +kernel
theorem dX6_begin_80 : decode cX6_begin 80 = .ok (.iconst 0, 1) := by decide +kernel
theorem dX6_begin_81 : decode cX6_begin 81 = .ok (.iastore, 1) := by decide +kernel
theorem dX6_begin_82 : decode cX6_begin 82 = .ok (.aload_n 0, 1) := by decide +kernel
theorem dX6_begin_83 : decode cX6_begin 83 = .ok (.getfield 37, 3) := by decide +kernel
theorem dX6_begin_86 : decode cX6_begin 86 = .ok (.iload_n 2, 1) := by decide +kernel
theorem dX6_begin_87 : decode cX6_begin 87 = .ok (.iconst 0, 1) := by decide +kernel
theorem dX6_begin_88 : decode cX6_begin 88 = .ok (.iastore, 1) := by decide +kernel
theorem dX6_begin_89 : decode cX6_begin 89 = .ok (.aload_n 0, 1) := by decide +kernel
theorem dX6_begin_90 : decode cX6_begin 90 = .ok (.getfield 40, 3) := by decide +kernel
theorem dX6_begin_93 : decode cX6_begin 93 = .ok (.iload_n 2, 1) := by decide +kernel
theorem dX6_begin_94 : decode cX6_begin 94 = .ok (.iconst 0, 1) := by decide +kernel
theorem dX6_begin_95 : decode cX6_begin 95 = .ok (.iastore, 1) := by decide +kernel
theorem dX6_begin_96 : decode cX6_begin 96 = .ok (.iinc 2 1, 3) := by decide +kernel
theorem dX6_begin_99 : decode cX6_begin 99 = .ok (.goto (-79), 3) := by decide +kernel
theorem dX6_begin_102 : decode cX6_begin 102 = .ok (.iconst 0, 1) := by decide +kernel
theorem dX6_begin_103 : decode cX6_begin 103 = .ok (.istore_n 2, 1) := by decide +kernel
theorem dX6_begin_104 : decode cX6_begin 104 = .ok (.iload_n 2, 1) := by decide +kernel
theorem dX6_begin_105 : decode cX6_begin 105 = .ok (.bipush 11, 2) := by decide +kernel
theorem dX6_begin_107 : decode cX6_begin 107 = .ok (.if_icmp .ge 28, 3) := by decide +kernel
theorem dX6_begin_110 : decode cX6_begin 110 = .ok (.aload_n 0, 1) := by decide +kernel
theorem dX6_begin_111 : decode cX6_begin 111 = .ok (.getfield 43, 3) := by decide +kernel
theorem dX6_begin_114 : decode cX6_begin 114 = .ok (.iload_n 2, 1) := by decide +kernel
theorem dX6_begin_115 : decode cX6_begin 115 = .ok (.iconst 1, 1) := by decide +kernel
theorem dX6_begin_116 : decode cX6_begin 116 = .ok (.bastore, 1) := by decide +kernel
theorem dX6_begin_117 : decode cX6_begin 117 = .ok (.aload_n 0, 1) := by decide +kernel
theorem dX6_begin_118 : decode cX6_begin 118 = .ok (.getfield 46, 3) := by decide +kernel
theorem dX6_begin_121 : decode cX6_begin 121 = .ok (.iload_n 2, 1) := by decide +kernel
theorem dX6_begin_122 : decode cX6_begin 122 = .ok (.aload_n 1, 1) := by decide +kernel
theorem dX6_begin_123 : decode cX6_begin 123 = .ok (.getfield 67, 3) := by decide +kernel
theorem dX6_begin_126 : decode cX6_begin 126 = .ok (.iload_n 2, 1) := by decide +kernel
theorem dX6_begin_127 : decode cX6_begin 127 = .ok (.iaload, 1) := by decide +kernel
theorem dX6_begin_128 : decode cX6_begin 128 = .ok (.iastore, 1) := by decide +kernel
theorem dX6_begin_129 : decode cX6_begin 129 = .ok (.iinc 2 1, 3) := by decide +kernel
theorem dX6_begin_132 : decode cX6_begin 132 = .ok (.goto (-28), 3) := by decide +kernel
theorem dX6_begin_135 : decode cX6_begin 135 = .ok (.return_, 1) := by decide +kernel
theorem dX6_change_0 : decode cX6_change 0 = .ok (.aload_n 0, 1) := by decide +kernel
theorem dX6_change_1 : decode cX6_change 1 = .ok (.getfield 9, 3) := by decide +kernel
theorem dX6_change_4 : decode cX6_change 4 = .ok (.iload_n 1, 1) := by decide +kernel
theorem dX6_change_5 : decode cX6_change 5 = .ok (.iaload, 1) := by decide +kernel
theorem dX6_change_6 : decode cX6_change 6 = .ok (.istore_n 3, 1) := by decide +kernel
theorem dX6_change_7 : decode cX6_change 7 = .ok (.aload_n 0, 1) := by decide +kernel
theorem dX6_change_8 : decode cX6_change 8 = .ok (.getfield 9, 3) := by decide +kernel
theorem dX6_change_11 : decode cX6_change 11 = .ok (.iload_n 1, 1) := by decide +kernel
theorem dX6_change_12 : decode cX6_change 12 = .ok (.aload_n 0, 1) := by decide +kernel
theorem dX6_change_13 : decode cX6_change 13 = .ok (.getfield 9, 3) := by decide +kernel
theorem dX6_change_16 : decode cX6_change 16 = .ok (.iload_n 2, 1) := by decide +kernel
theorem dX6_change_17 : decode cX6_change 17 = .ok (.iaload, 1) := by decide +kernel
theorem dX6_change_18 : decode cX6_change 18 = .ok (.iastore, 1) := by decide +kernel
theorem dX6_change_19 : decode cX6_change 19 = .ok (.aload_n 0, 1) := by decide +kernel
theorem dX6_change_20 : decode cX6_change 20 = .ok (.getfield 9, 3) := by decide +kernel
theorem dX6_change_23 : decode cX6_change 23 = .ok (.iload_n 2, 1) := by decide +kernel
theorem dX6_change_24 : decode cX6_change 24 = .ok (.iload_n 3, 1) := by decide +kernel
theorem dX6_change_25 : decode cX6_change 25 = .ok (.iastore, 1) := by decide +kernel
theorem dX6_change_26 : decode cX6_change 26 = .ok (.return_, 1) := by decide +kernel
theorem dX6_feelsForce_0 : decode cX6_feelsForce 0 = .ok (.aload_n 0, 1) := by decide +kernel
theorem dX6_feelsForce_1 : decode cX6_feelsForce 1 = .ok (.getfield 34, 3) := by decide +kernel
theorem dX6_feelsForce_4 : decode cX6_feelsForce 4 = .ok (.iload_n 1, 1) := by decide +kernel
theorem dX6_feelsForce_5 : decode cX6_feelsForce 5 = .ok (.dup2, 1) := by decide +kernel
theorem dX6_feelsForce_6 : decode cX6_feelsForce 6 = .ok (.iaload, 1) := by decide +kernel
theorem dX6_feelsForce_7 : decode cX6_feelsForce 7 = .ok (.iconst 1, 1) := by decide +kernel
theorem dX6_feelsForce_8 : decode cX6_feelsForce 8 = .ok (.iadd, 1) := by decide +kernel
theorem dX6_feelsForce_9 : decode cX6_feelsForce 9 = .ok (.iastore, 1) := by decide +kernel
theorem dX6_feelsForce_10 : decode cX6_feelsForce 10 = .ok (.aload_n 0, 1) := by decide +kernel
theorem dX6_feelsForce_11 : decode cX6_feelsForce 11 = .ok (.getfield 37, 3) := by decide +kernel
theorem dX6_feelsForce_14 : decode cX6_feelsForce 14 = .ok (.iload_n 1, 1) := by decide +kernel
theorem dX6_feelsForce_15 : decode cX6_feelsForce 15 = .ok (.aload_n 0, 1) := by decide +kernel
theorem dX6_feelsForce_16 : decode cX6_feelsForce 16 = .ok (.getfield 37, 3) := by decide +kernel
theorem dX6_feelsForce_19 : decode cX6_feelsForce 19 = .ok (.iload_n 1, 1) := by decide +kernel
theorem dX6_feelsForce_20 : decode cX6_feelsForce 20 = .ok (.iaload, 1) := by decide +kernel
theorem dX6_feelsForce_21 : decode cX6_feelsForce 21 = .ok (.iload_n 2, 1) := by decide +kernel
theorem dX6_feelsForce_22 : decode cX6_feelsForce 22 = .ok (.invokestatic 78, 3) := by decide +kernel
theorem dX6_feelsForce_25 : decode cX6_feelsForce 25 = .ok (.iastore, 1) := by decide +kernel
theorem dX6_feelsForce_26 : decode cX6_feelsForce 26 = .ok (.aload_n 0, 1) := by decide +kernel
theorem dX6_feelsForce_27 : decode cX6_feelsForce 27 = .ok (.getfield 40, 3) := by decide +kernel
theorem dX6_feelsForce_30 : decode cX6_feelsForce 30 = .ok (.iload_n 1, 1) := by decide +kernel
theorem dX6_feelsForce_31 : decode cX6_feelsForce 31 = .ok (.ldc 84, 2) := by decide +kernel
theorem dX6_feelsForce_33 : decode cX6_feelsForce 33 = .ok (.aload_n 0, 1) := by decide +kernel
theorem dX6_feelsForce_34 : decode cX6_feelsForce 34 = .ok (.getfield 40, 3) := by decide +kernel
theorem dX6_feelsForce_37 : decode cX6_feelsForce 37 = .ok (.iload_n 1, 1) := by decide +kernel
theorem dX6_feelsForce_38 : decode cX6_feelsForce 38 = .ok (.iaload, 1) := by decide +kernel
theorem dX6_feelsForce_39 : decode cX6_feelsForce 39 = .ok (.iload_n 2, 1) := by decide +kernel
theorem dX6_feelsForce_40 : decode cX6_feelsForce 40 = .ok (.iadd, 1) := by decide +kernel
theorem dX6_feelsForce_41 : decode cX6_feelsForce 41 = .ok (.invokestatic 85, 3) := by decide +kernel
theorem dX6_feelsForce_44 : decode cX6_feelsForce 44 = .ok (.iastore, 1) := by decide +kernel
theorem dX6_feelsForce_45 : decode cX6_feelsForce 45 = .ok (.return_, 1) := by decide +kernel
theorem dX6_getsUp_0 : decode cX6_getsUp 0 = .ok (.aload_n 0, 1) := by decide +kernel
theorem dX6_getsUp_1 : decode cX6_getsUp 1 = .ok (.getfield 15, 3) := by decide +kernel
theorem dX6_getsUp_4 : decode cX6_getsUp 4 = .ok (.iload_n 1, 1) := by decide +kernel
theorem dX6_getsUp_5 : decode cX6_getsUp 5 = .ok (.iconst 0, 1) := by decide +kernel
theorem dX6_getsUp_6 : decode cX6_getsUp 6 = .ok (.bastore, 1) := by decide +kernel
theorem dX6_getsUp_7 : decode cX6_getsUp 7 = .ok (.aload_n 0, 1) := by decide +kernel
theorem dX6_getsUp_8 : decode cX6_getsUp 8 = .ok (.getfield 19, 3) := by decide +kernel
theorem dX6_getsUp_11 : decode cX6_getsUp 11 = .ok (.iload_n 1, 1) := by decide +kernel
theorem dX6_getsUp_12 : decode cX6_getsUp 12 = .ok (.iconst (-1), 1) := by decide +kernel
theorem dX6_getsUp_13 : decode cX6_getsUp 13 = .ok (.iastore, 1) := by decide +kernel
theorem dX6_getsUp_14 : decode cX6_getsUp 14 = .ok (.aload_n 0, 1) := by decide +kernel
theorem dX6_getsUp_15 : decode cX6_getsUp 15 = .ok (.getfield 22, 3) := by decide +kernel
theorem dX6_getsUp_18 : decode cX6_getsUp 18 = .ok (.iload_n 1, 1) := by decide +kernel
theorem dX6_getsUp_19 : decode cX6_getsUp 19 = .ok (.iconst 0, 1) := by decide +kernel
theorem dX6_getsUp_20 : decode cX6_getsUp 20 = .ok (.iastore, 1) := by decide +kernel
theorem dX6_getsUp_21 : decode cX6_getsUp 21 = .ok (.aload_n 0, 1) := by decide +kernel
theorem dX6_getsUp_22 : decode cX6_getsUp 22 = .ok (.getfield 25, 3) := by decide +kernel
theorem dX6_getsUp_25 : decode cX6_getsUp 25 = .ok (.iload_n 1, 1) := by decide +kernel
theorem dX6_getsUp_26 : decode cX6_getsUp 26 = .ok (.iconst (-1), 1) := by decide +kernel
theorem dX6_getsUp_27 : decode cX6_getsUp 27 = .ok (.iastore, 1) := by decide +kernel
theorem dX6_getsUp_28 : decode cX6_getsUp 28 = .ok (.return_, 1) := by decide +kernel
theorem dX6_placeOf_0 : decode cX6_placeOf 0 = .ok (.iconst 0, 1) := by decide +kernel
theorem dX6_placeOf_1 : decode cX6_placeOf 1 = .ok (.istore_n 2, 1) := by decide +kernel
theorem dX6_placeOf_2 : decode cX6_placeOf 2 = .ok (.iload_n 2, 1) := by decide +kernel
theorem dX6_placeOf_3 : decode cX6_placeOf 3 = .ok (.aload_n 0, 1) := by decide +kernel
theorem dX6_placeOf_4 : decode cX6_placeOf 4 = .ok (.getfield 58, 3) := by decide +kernel
theorem dX6_placeOf_7 : decode cX6_placeOf 7 = .ok (.if_icmp .ge 21, 3) := by decide +kernel
theorem dX6_placeOf_10 : decode cX6_placeOf 10 = .ok (.aload_n 0, 1) := by decide +kernel
theorem dX6_placeOf_11 : decode cX6_placeOf 11 = .ok (.getfield 9, 3) := by decide +kernel
theorem dX6_placeOf_14 : decode cX6_placeOf 14 = .ok (.iload_n 2, 1) := by decide +kernel
theorem dX6_placeOf_15 : decode cX6_placeOf 15 = .ok (.iaload, 1) := by decide +kernel
theorem dX6_placeOf_16 : decode cX6_placeOf 16 = .ok (.iload_n 1, 1) := by decide +kernel
theorem dX6_placeOf_17 : decode cX6_placeOf 17 = .ok (.if_icmp .ne 5, 3) := by decide +kernel
theorem dX6_placeOf_20 : decode cX6_placeOf 20 = .ok (.iload_n 2, 1) := by decide +kernel
theorem dX6_placeOf_21 : decode cX6_placeOf 21 = .ok (.ireturn, 1) := by decide +kernel
theorem dX6_placeOf_22 : decode cX6_placeOf 22 = .ok (.iinc 2 1, 3) := by decide +kernel
theorem dX6_placeOf_25 : decode cX6_placeOf 25 = .ok (.goto (-23), 3) := by decide +kernel
theorem dX6_placeOf_28 : decode cX6_placeOf 28 = .ok (.iconst (-1), 1) := by decide +kernel
theorem dX6_placeOf_29 : decode cX6_placeOf 29 = .ok (.ireturn, 1) := by decide +kernel
theorem dX6_take_0 : decode cX6_take 0 = .ok (.aload_n 0, 1) := by decide +kernel
theorem dX6_take_1 : decode cX6_take 1 = .ok (.aload_n 1, 1) := by decide +kernel
theorem dX6_take_2 : decode cX6_take 2 = .ok (.getfield 58, 3) := by decide +kernel
theorem dX6_take_5 : decode cX6_take 5 = .ok (.putfield 58, 3) := by decide +kernel
theorem dX6_take_8 : decode cX6_take 8 = .ok (.aload_n 0, 1) := by decide +kernel
theorem dX6_take_9 : decode cX6_take 9 = .ok (.aload_n 1, 1) := by decide +kernel
theorem dX6_take_10 : decode cX6_take 10 = .ok (.getfield 61, 3) := by decide +kernel
theorem dX6_take_13 : decode cX6_take 13 = .ok (.putfield 61, 3) := by decide +kernel
theorem dX6_take_16 : decode cX6_take 16 = .ok (.aload_n 0, 1) := by decide +kernel
theorem dX6_take_17 : decode cX6_take 17 = .ok (.aload_n 1, 1) := by decide +kernel
theorem dX6_take_18 : decode cX6_take 18 = .ok (.getfield 64, 3) := by decide +kernel
theorem dX6_take_21 : decode cX6_take 21 = .ok (.putfield 64, 3) := by decide +kernel
theorem dX6_take_24 : decode cX6_take 24 = .ok (.aload_n 1, 1) := by decide +kernel
theorem dX6_take_25 : decode cX6_take 25 = .ok (.getfield 9, 3) := by decide +kernel
theorem dX6_take_28 : decode cX6_take 28 = .ok (.iconst 0, 1) := by decide +kernel
theorem dX6_take_29 : decode cX6_take 29 = .ok (.aload_n 0, 1) := by decide +kernel
theorem dX6_take_30 : decode cX6_take 30 = .ok (.getfield 9, 3) := by decide +kernel
theorem dX6_take_33 : decode cX6_take 33 = .ok (.iconst 0, 1) := by decide +kernel
theorem dX6_take_34 : decode cX6_take 34 = .ok (.bipush 12, 2) := by decide +kernel
theorem dX6_take_36 : decode cX6_take 36 = .ok (.invokestatic 68, 3) := by decide +kernel
theorem dX6_take_39 : decode cX6_take 39 = .ok (.aload_n 1, 1) := by decide +kernel
theorem dX6_take_40 : decode cX6_take 40 = .ok (.getfield 15, 3) := by decide +kernel
theorem dX6_take_43 : decode cX6_take 43 = .ok (.iconst 0, 1) := by decide +kernel
theorem dX6_take_44 : decode cX6_take 44 = .ok (.aload_n 0, 1) := by decide +kernel
theorem dX6_take_45 : decode cX6_take 45 = .ok (.getfield 15, 3) := by decide +kernel
theorem dX6_take_48 : decode cX6_take 48 = .ok (.iconst 0, 1) := by decide +kernel
theorem dX6_take_49 : decode cX6_take 49 = .ok (.bipush 12, 2) := by decide +kernel
theorem dX6_take_51 : decode cX6_take 51 = .ok (.invokestatic 68, 3) := by decide +kernel
theorem dX6_take_54 : decode cX6_take 54 = .ok (.aload_n 1, 1) := by decide +kernel
theorem dX6_take_55 : decode cX6_take 55 = .ok (.getfield 19, 3) := by decide +kernel
theorem dX6_take_58 : decode cX6_take 58 = .ok (.iconst 0, 1) := by decide +kernel
theorem dX6_take_59 : decode cX6_take 59 = .ok (.aload_n 0, 1) := by decide +kernel
theorem dX6_take_60 : decode cX6_take 60 = .ok (.getfield 19, 3) := by decide +kernel
theorem dX6_take_63 : decode cX6_take 63 = .ok (.iconst 0, 1) := by decide +kernel
theorem dX6_take_64 : decode cX6_take 64 = .ok (.bipush 12, 2) := by decide +kernel
theorem dX6_take_66 : decode cX6_take 66 = .ok (.invokestatic 68, 3) := by decide +kernel
theorem dX6_take_69 : decode cX6_take 69 = .ok (.aload_n 1, 1) := by decide +kernel
theorem dX6_take_70 : decode cX6_take 70 = .ok (.getfield 22, 3) := by decide +kernel
theorem dX6_take_73 : decode cX6_take 73 = .ok (.iconst 0, 1) := by decide +kernel
theorem dX6_take_74 : decode cX6_take 74 = .ok (.aload_n 0, 1) := by decide +kernel
theorem dX6_take_75 : decode cX6_take 75 = .ok (.getfield 22, 3) := by decide +kernel
theorem dX6_take_78 : decode cX6_take 78 = .ok (.iconst 0, 1) := by decide +kernel
theorem dX6_take_79 : decode cX6_take 79 = .ok (.bipush 12, 2) := by decide +kernel
theorem dX6_take_81 : decode cX6_take 81 = .ok (.invokestatic 68, 3) := by decide +kernel
theorem dX6_take_84 : decode cX6_take 84 = .ok (.aload_n 1, 1) := by decide +kernel
theorem dX6_take_85 : decode cX6_take 85 = .ok (.getfield 25, 3) := by decide +kernel
theorem dX6_take_88 : decode cX6_take 88 = .ok (.iconst 0, 1) := by decide +kernel
theorem dX6_take_89 : decode cX6_take 89 = .ok (.aload_n 0, 1) := by decide +kernel
theorem dX6_take_90 : decode cX6_take 90 = .ok (.getfield 25, 3) := by decide +kernel
theorem dX6_take_93 : decode cX6_take 93 = .ok (.iconst 0, 1) := by decide +kernel
theorem dX6_take_94 : decode cX6_take 94 = .ok (.bipush 12, 2) := by decide +kernel
theorem dX6_take_96 : decode cX6_take 96 = .ok (.invokestatic 68, 3) := by decide +kernel
theorem dX6_take_99 : decode cX6_take 99 = .ok (.aload_n 1, 1) := by decide +kernel
theorem dX6_take_100 : decode cX6_take 100 = .ok (.getfield 28, 3) := by decide +kernel
theorem dX6_take_103 : decode cX6_take 103 = .ok (.iconst 0, 1) := by decide +kernel
theorem dX6_take_104 : decode cX6_take 104 = .ok (.aload_n 0, 1) := by decide +kernel
theorem dX6_take_105 : decode cX6_take 105 = .ok (.getfield 28, 3) := by decide +kernel
theorem dX6_take_108 : decode cX6_take 108 = .ok (.iconst 0, 1) := by decide +kernel
theorem dX6_take_109 : decode cX6_take 109 = .ok (.bipush 12, 2) := by decide +kernel
theorem dX6_take_111 : decode cX6_take 111 = .ok (.invokestatic 68, 3) := by decide +kernel
theorem dX6_take_114 : decode cX6_take 114 = .ok (.aload_n 1, 1) := by decide +kernel
theorem dX6_take_115 : decode cX6_take 115 = .ok (.getfield 31, 3) := by decide +kernel
theorem dX6_take_118 : decode cX6_take 118 = .ok (.iconst 0, 1) := by decide +kernel
theorem dX6_take_119 : decode cX6_take 119 = .ok (.aload_n 0, 1) := by decide +kernel
theorem dX6_take_120 : decode cX6_take 120 = .ok (.getfield 31, 3) := by decide +kernel
theorem dX6_take_123 : decode cX6_take 123 = .ok (.iconst 0, 1) := by decide +kernel
theorem dX6_take_124 : decode cX6_take 124 = .ok (.bipush 12, 2) := by decide +kernel
theorem dX6_take_126 : decode cX6_take 126 = .ok (.invokestatic 68, 3) := by decide +kernel
theorem dX6_take_129 : decode cX6_take 129 = .ok (.aload_n 1, 1) := by decide +kernel
theorem dX6_take_130 : decode cX6_take 130 = .ok (.getfield 34, 3) := by decide +kernel
theorem dX6_take_133 : decode cX6_take 133 = .ok (.iconst 0, 1) := by decide +kernel
theorem dX6_take_134 : decode cX6_take 134 = .ok (.aload_n 0, 1) := by decide +kernel
theorem dX6_take_135 : decode cX6_take 135 = .ok (.getfield 34, 3) := by decide +kernel
theorem dX6_take_138 : decode cX6_take 138 = .ok (.iconst 0, 1) := by decide +kernel
theorem dX6_take_139 : decode cX6_take 139 = .ok (.bipush 12, 2) := by decide +kernel
theorem dX6_take_141 : decode cX6_take 141 = .ok (.invokestatic 68, 3) := by decide +kernel
theorem dX6_take_144 : decode cX6_take 144 = .ok (.aload_n 1, 1) := by decide +kernel
theorem dX6_take_145 : decode cX6_take 145 = .ok (.getfield 37, 3) := by decide +kernel
theorem dX6_take_148 : decode cX6_take 148 = .ok (.iconst 0, 1) := by decide +kernel
theorem dX6_take_149 : decode cX6_take 149 = .ok (.aload_n 0, 1) := by decide +kernel
theorem dX6_take_150 : decode cX6_take 150 = .ok (.getfield 37, 3) := by decide +kernel
theorem dX6_take_153 : decode cX6_take 153 = .ok (.iconst 0, 1) := by decide +kernel
theorem dX6_take_154 : decode cX6_take 154 = .ok (.bipush 12, 2) := by decide +kernel
theorem dX6_take_156 : decode cX6_take 156 = .ok (.invokestatic 68, 3) := by decide +kernel
theorem dX6_take_159 : decode cX6_take 159 = .ok (.aload_n 1, 1) := by decide +kernel
theorem dX6_take_160 : decode cX6_take 160 = .ok (.getfield 40, 3) := by decide +kernel
theorem dX6_take_163 : decode cX6_take 163 = .ok (.iconst 0, 1) := by decide +kernel
theorem dX6_take_164 : decode cX6_take 164 = .ok (.aload_n 0, 1) := by decide +kernel
theorem dX6_take_165 : decode cX6_take 165 = .ok (.getfield 40, 3) := by decide +kernel
theorem dX6_take_168 : decode cX6_take 168 = .ok (.iconst 0, 1) := by decide +kernel
theorem dX6_take_169 : decode cX6_take 169 = .ok (.bipush 12, 2) := by decide +kernel
theorem dX6_take_171 : decode cX6_take 171 = .ok (.invokestatic 68, 3) := by decide +kernel
theorem dX6_take_174 : decode cX6_take 174 = .ok (.aload_n 0, 1) := by decide +kernel
theorem dX6_take_175 : decode cX6_take 175 = .ok (.aload_n 1, 1) := by decide +kernel
theorem dX6_take_176 : decode cX6_take 176 = .ok (.invokevirtual 74, 3) := by decide +kernel
theorem dX6_take_179 : decode cX6_take 179 = .ok (.aload_n 1, 1) := by decide +kernel
theorem dX6_take_180 : decode cX6_take 180 = .ok (.getfield 49, 3) := by decide +kernel
theorem dX6_take_183 : decode cX6_take 183 = .ok (.iconst 0, 1) := by decide +kernel
theorem dX6_take_184 : decode cX6_take 184 = .ok (.aload_n 0, 1) := by decide +kernel
theorem dX6_take_185 : decode cX6_take 185 = .ok (.getfield 49, 3) := by decide +kernel
theorem dX6_take_188 : decode cX6_take 188 = .ok (.iconst 0, 1) := by decide +kernel
theorem dX6_take_189 : decode cX6_take 189 = .ok (.sipush 200, 3) := by decide +kernel
theorem dX6_take_192 : decode cX6_take 192 = .ok (.invokestatic 68, 3) := by decide +kernel
theorem dX6_take_195 : decode cX6_take 195 = .ok (.return_, 1) := by decide +kernel
theorem dX6_takeKnots_0 : decode cX6_takeKnots 0 = .ok (.aload_n 1, 1) := by decide +kernel
theorem dX6_takeKnots_1 : decode cX6_takeKnots 1 = .ok (.getfield 43, 3) := by decide +kernel
theorem dX6_takeKnots_4 : decode cX6_takeKnots 4 = .ok (.iconst 0, 1) := by decide +kernel
theorem dX6_takeKnots_5 : decode cX6_takeKnots 5 = .ok (.aload_n 0, 1) := by decide +kernel
theorem dX6_takeKnots_6 : decode cX6_takeKnots 6 = .ok (.getfield 43, 3) := by decide +kernel
theorem dX6_takeKnots_9 : decode cX6_takeKnots 9 = .ok (.iconst 0, 1) := by decide +kernel
theorem dX6_takeKnots_10 : decode cX6_takeKnots 10 = .ok (.bipush 11, 2) := by decide +kernel
theorem dX6_takeKnots_12 : decode cX6_takeKnots 12 = .ok (.invokestatic 68, 3) := by decide +kernel
theorem dX6_takeKnots_15 : decode cX6_takeKnots 15 = .ok (.aload_n 1, 1) := by decide +kernel
theorem dX6_takeKnots_16 : decode cX6_takeKnots 16 = .ok (.getfield 46, 3) := by decide +kernel
theorem dX6_takeKnots_19 : decode cX6_takeKnots 19 = .ok (.iconst 0, 1) := by decide +kernel
theorem dX6_takeKnots_20 : decode cX6_takeKnots 20 = .ok (.aload_n 0, 1) := by decide +kernel
theorem dX6_takeKnots_21 : decode cX6_takeKnots 21 = .ok (.getfield 46, 3) := by decide +kernel
theorem dX6_takeKnots_24 : decode cX6_takeKnots 24 = .ok (.iconst 0, 1) := by decide +kernel
theorem dX6_takeKnots_25 : decode cX6_takeKnots 25 = .ok (.bipush 11, 2) := by decide +kernel
theorem dX6_takeKnots_27 : decode cX6_takeKnots 27 = .ok (.invokestatic 68, 3) := by decide +kernel
theorem dX6_takeKnots_30 : decode cX6_takeKnots 30 = .ok (.return_, 1) := by decide +kernel
theorem dX6_tell_0 : decode cX6_tell 0 = .ok (.aload_n 0, 1) := by decide +kernel
theorem dX6_tell_1 : decode cX6_tell 1 = .ok (.getfield 49, 3) := by decide +kernel
theorem dX6_tell_4 : decode cX6_tell 4 = .ok (.aload_n 0, 1) := by decide +kernel
theorem dX6_tell_5 : decode cX6_tell 5 = .ok (.getfield 64, 3) := by decide +kernel
theorem dX6_tell_8 : decode cX6_tell 8 = .ok (.sipush 200, 3) := by decide +kernel
theorem dX6_tell_11 : decode cX6_tell 11 = .ok (.irem, 1) := by decide +kernel
theorem dX6_tell_12 : decode cX6_tell 12 = .ok (.aload_n 0, 1) := by decide +kernel
theorem dX6_tell_13 : decode cX6_tell 13 = .ok (.getfield 61, 3) := by decide +kernel
theorem dX6_tell_16 : decode cX6_tell 16 = .ok (.iload_n 1, 1) := by decide +kernel
theorem dX6_tell_17 : decode cX6_tell 17 = .ok (.bipush 10, 2) := by decide +kernel
theorem dX6_tell_19 : decode cX6_tell 19 = .ok (.ishl, 1) := by decide +kernel
theorem dX6_tell_20 : decode cX6_tell 20 = .ok (.ior, 1) := by decide +kernel
theorem dX6_tell_21 : decode cX6_tell 21 = .ok (.iload_n 2, 1) := by decide +kernel
theorem dX6_tell_22 : decode cX6_tell 22 = .ok (.bipush 14, 2) := by decide +kernel
theorem dX6_tell_24 : decode cX6_tell 24 = .ok (.ishl, 1) := by decide +kernel
theorem dX6_tell_25 : decode cX6_tell 25 = .ok (.ior, 1) := by decide +kernel
theorem dX6_tell_26 : decode cX6_tell 26 = .ok (.iload_n 3, 1) := by decide +kernel
theorem dX6_tell_27 : decode cX6_tell 27 = .ok (.bipush 17, 2) := by decide +kernel
theorem dX6_tell_29 : decode cX6_tell 29 = .ok (.ishl, 1) := by decide +kernel
theorem dX6_tell_30 : decode cX6_tell 30 = .ok (.ior, 1) := by decide +kernel
theorem dX6_tell_31 : decode cX6_tell 31 = .ok (.iload 4, 2) := by decide +kernel
theorem dX6_tell_33 : decode cX6_tell 33 = .ok (.bipush 27, 2) := by decide +kernel
theorem dX6_tell_35 : decode cX6_tell 35 = .ok (.ishl, 1) := by decide +kernel
theorem dX6_tell_36 : decode cX6_tell 36 = .ok (.ior, 1) := by decide +kernel
theorem dX6_tell_37 : decode cX6_tell 37 = .ok (.iastore, 1) := by decide +kernel
theorem dX6_tell_38 : decode cX6_tell 38 = .ok (.aload_n 0, 1) := by decide +kernel
theorem dX6_tell_39 : decode cX6_tell 39 = .ok (.dup, 1) := by decide +kernel
theorem dX6_tell_40 : decode cX6_tell 40 = .ok (.getfield 64, 3) := by decide +kernel
theorem dX6_tell_43 : decode cX6_tell 43 = .ok (.iconst 1, 1) := by decide +kernel
theorem dX6_tell_44 : decode cX6_tell 44 = .ok (.iadd, 1) := by decide +kernel
theorem dX6_tell_45 : decode cX6_tell 45 = .ok (.putfield 64, 3) := by decide +kernel
theorem dX6_tell_48 : decode cX6_tell 48 = .ok (.return_, 1) := by decide +kernel
theorem dX6_told_0 : decode cX6_told 0 = .ok (.aload_n 0, 1) := by decide +kernel
theorem dX6_told_1 : decode cX6_told 1 = .ok (.getfield 64, 3) := by decide +kernel
theorem dX6_told_4 : decode cX6_told 4 = .ok (.sipush 200, 3) := by decide +kernel
theorem dX6_told_7 : decode cX6_told 7 = .ok (.invokestatic 85, 3) := by decide +kernel
theorem dX6_told_10 : decode cX6_told 10 = .ok (.ireturn, 1) := by decide +kernel
theorem dX6_toldTug_0 : decode cX6_toldTug 0 = .ok (.aload_n 0, 1) := by decide +kernel
theorem dX6_toldTug_1 : decode cX6_toldTug 1 = .ok (.getfield 49, 3) := by decide +kernel
theorem dX6_toldTug_4 : decode cX6_toldTug 4 = .ok (.aload_n 0, 1) := by decide +kernel
theorem dX6_toldTug_5 : decode cX6_toldTug 5 = .ok (.getfield 64, 3) := by decide +kernel
theorem dX6_toldTug_8 : decode cX6_toldTug 8 = .ok (.aload_n 0, 1) := by decide +kernel
theorem dX6_toldTug_9 : decode cX6_toldTug 9 = .ok (.invokevirtual 88, 3) := by decide +kernel
theorem dX6_toldTug_12 : decode cX6_toldTug 12 = .ok (.isub, 1) := by decide +kernel
theorem dX6_toldTug_13 : decode cX6_toldTug 13 = .ok (.iload_n 1, 1) := by decide +kernel
theorem dX6_toldTug_14 : decode cX6_toldTug 14 = .ok (.iadd, 1) := by decide +kernel
theorem dX6_toldTug_15 : decode cX6_toldTug 15 = .ok (.sipush 200, 3) := by decide +kernel
theorem dX6_toldTug_18 : decode cX6_toldTug 18 = .ok (.irem, 1) := by decide +kernel
theorem dX6_toldTug_19 : decode cX6_toldTug 19 = .ok (.iaload, 1) := by decide +kernel
theorem dX6_toldTug_20 : decode cX6_toldTug 20 = .ok (.ireturn, 1) := by decide +kernel
theorem dX7_goes_0 : decode cX7_goes 0 = .ok (.aload_n 0, 1) := by decide +kernel
theorem dX7_goes_1 : decode cX7_goes 1 = .ok (.getfield 9, 3) := by decide +kernel
theorem dX7_goes_4 : decode cX7_goes 4 = .ok (.iconst 0, 1) := by decide +kernel
theorem dX7_goes_5 : decode cX7_goes 5 = .ok (.invokestatic 15, 3) := by decide +kernel
theorem dX7_goes_8 : decode cX7_goes 8 = .ok (.aload_n 0, 1) := by decide +kernel
theorem dX7_goes_9 : decode cX7_goes 9 = .ok (.iconst 0, 1) := by decide +kernel
theorem dX7_goes_10 : decode cX7_goes 10 = .ok (.putfield 21, 3) := by decide +kernel
theorem dX7_goes_13 : decode cX7_goes 13 = .ok (.iload_n 3, 1) := by decide +kernel
theorem dX7_goes_14 : decode cX7_goes 14 = .ok (.ifCond .lt 11, 3) := by decide +kernel
theorem dX7_goes_17 : decode cX7_goes 17 = .ok (.iload_n 3, 1) := by decide +kernel
theorem dX7_goes_18 : decode cX7_goes 18 = .ok (.aload_n 2, 1) := by decide +kernel
theorem dX7_goes_19 : decode cX7_goes 19 = .ok (.getfield 25, 3) := by decide +kernel
theorem dX7_goes_22 : decode cX7_goes 22 = .ok (.if_icmp .lt 4, 3) := by decide +kernel
theorem dX7_goes_25 : decode cX7_goes 25 = .ok (.return_, 1) := by decide +kernel
theorem dX7_goes_26 : decode cX7_goes 26 = .ok (.iload 4, 2) := by decide +kernel
theorem dX7_goes_28 : decode cX7_goes 28 = .ok (.istore 5, 2) := by decide +kernel
theorem dX7_goes_30 : decode cX7_goes 30 = .ok (.iload_n 3, 1) := by decide +kernel
theorem dX7_goes_31 : decode cX7_goes 31 = .ok (.iconst 1, 1) := by decide +kernel
theorem dX7_goes_32 : decode cX7_goes 32 = .ok (.iadd, 1) := by decide +kernel
theorem dX7_goes_33 : decode cX7_goes 33 = .ok (.istore 6, 2) := by decide +kernel
theorem dX7_goes_35 : decode cX7_goes 35 = .ok (.iload 6, 2) := by decide +kernel
theorem dX7_goes_37 : decode cX7_goes 37 = .ok (.aload_n 2, 1) := by decide +kernel
theorem dX7_goes_38 : decode cX7_goes 38 = .ok (.getfield 25, 3) := by decide +kernel
theorem dX7_goes_41 : decode cX7_goes 41 = .ok (.if_icmp .ge 55, 3) := by decide +kernel
theorem dX7_goes_44 : decode cX7_goes 44 = .ok (.aload_n 2, 1) := by decide +kernel
theorem dX7_goes_45 : decode cX7_goes 45 = .ok (.getfield 30, 3) := by decide +kernel
theorem dX7_goes_48 : decode cX7_goes 48 = .ok (.iload 6, 2) := by decide +kernel
theorem dX7_goes_50 : decode cX7_goes 50 = .ok (.iconst 1, 1) := by decide +kernel
theorem dX7_goes_51 : decode cX7_goes 51 = .ok (.isub, 1) := by decide +kernel
theorem dX7_goes_52 : decode cX7_goes 52 = .ok (.baload, 1) := by decide +kernel
theorem dX7_goes_53 : decode cX7_goes 53 = .ok (.ifCond .eq 43, 3) := by decide +kernel
theorem dX7_goes_56 : decode cX7_goes 56 = .ok (.iload 5, 2) := by decide +kernel
theorem dX7_goes_58 : decode cX7_goes 58 = .ok (.aload_n 2, 1) := by decide +kernel
theorem dX7_goes_59 : decode cX7_goes 59 = .ok (.getfield 34, 3) := by decide +kernel
theorem dX7_goes_62 : decode cX7_goes 62 = .ok (.iload 6, 2) := by decide +kernel
theorem dX7_goes_64 : decode cX7_goes 64 = .ok (.iconst 1, 1) := by decide +kernel
theorem dX7_goes_65 : decode cX7_goes 65 = .ok (.isub, 1) := by decide +kernel
theorem dX7_goes_66 : decode cX7_goes 66 = .ok (.iaload, 1) := by decide +kernel
theorem dX7_goes_67 : decode cX7_goes 67 = .ok (.isub, 1) := by decide +kernel
theorem dX7_goes_68 : decode cX7_goes 68 = .ok (.istore 5, 2) := by decide +kernel
theorem dX7_goes_70 : decode cX7_goes 70 = .ok (.iload 5, 2) := by decide +kernel
theorem dX7_goes_72 : decode cX7_goes 72 = .ok (.ifCond .gt 6, 3) := by decide +kernel
theorem dX7_goes_75 : decode cX7_goes 75 = .ok (.goto 21, 3) := by decide +kernel
theorem dX7_goes_78 : decode cX7_goes 78 = .ok (.aload_n 0, 1) := by decide +kernel
theorem dX7_goes_79 : decode cX7_goes 79 = .ok (.aload_n 1, 1) := by decide +kernel
theorem dX7_goes_80 : decode cX7_goes 80 = .ok (.aload_n 2, 1) := by decide +kernel
theorem dX7_goes_81 : decode cX7_goes 81 = .ok (.iload 6, 2) := by decide +kernel
theorem dX7_goes_83 : decode cX7_goes 83 = .ok (.iload 5, 2) := by decide +kernel
theorem dX7_goes_85 : decode cX7_goes 85 = .ok (.invokevirtual 37, 3) := by decide +kernel
theorem dX7_goes_88 : decode cX7_goes 88 = .ok (.istore 5, 2) := by decide +kernel
theorem dX7_goes_90 : decode cX7_goes 90 = .ok (.iinc 6 1, 3) := by decide +kernel
theorem dX7_goes_93 : decode cX7_goes 93 = .ok (.goto (-58), 3) := by decide +kernel
theorem dX7_goes_96 : decode cX7_goes 96 = .ok (.iload 4, 2) := by decide +kernel
theorem dX7_goes_98 : decode cX7_goes 98 = .ok (.istore 5, 2) := by decide +kernel
theorem dX7_goes_100 : decode cX7_goes 100 = .ok (.iload_n 3, 1) := by decide +kernel
theorem dX7_goes_101 : decode cX7_goes 101 = .ok (.iconst 1, 1) := by decide +kernel
theorem dX7_goes_102 : decode cX7_goes 102 = .ok (.isub, 1) := by decide +kernel
theorem dX7_goes_103 : decode cX7_goes 103 = .ok (.istore 6, 2) := by decide +kernel
theorem dX7_goes_105 : decode cX7_goes 105 = .ok (.iload 6, 2) := by decide +kernel
theorem dX7_goes_107 : decode cX7_goes 107 = .ok (.ifCond .lt 51, 3) := by decide +kernel
theorem dX7_goes_110 : decode cX7_goes 110 = .ok (.aload_n 2, 1) := by decide +kernel
theorem dX7_goes_111 : decode cX7_goes 111 = .ok (.getfield 30, 3) := by decide +kernel
theorem dX7_goes_114 : decode cX7_goes 114 = .ok (.iload 6, 2) := by decide +kernel
theorem dX7_goes_116 : decode cX7_goes 116 = .ok (.baload, 1) := by decide +kernel
theorem dX7_goes_117 : decode cX7_goes 117 = .ok (.ifCond .eq 41, 3) := by decide +kernel
theorem dX7_goes_120 : decode cX7_goes 120 = .ok (.iload 5, 2) := by decide +kernel
theorem dX7_goes_122 : decode cX7_goes 122 = .ok (.aload_n 2, 1) := by decide +kernel
theorem dX7_goes_123 : decode cX7_goes 123 = .ok (.getfield 34, 3) := by decide +kernel
theorem dX7_goes_126 : decode cX7_goes 126 = .ok (.iload 6, 2) := by decide +kernel
theorem dX7_goes_128 : decode cX7_goes 128 = .ok (.iaload, 1) := by decide +kernel
theorem dX7_goes_129 : decode cX7_goes 129 = .ok (.isub, 1) := by decide +kernel
theorem dX7_goes_130 : decode cX7_goes 130 = .ok (.istore 5, 2) := by decide +kernel
theorem dX7_goes_132 : decode cX7_goes 132 = .ok (.iload 5, 2) := by decide +kernel
theorem dX7_goes_134 : decode cX7_goes 134 = .ok (.ifCond .gt 6, 3) := by decide +kernel
theorem dX7_goes_137 : decode cX7_goes 137 = .ok (.goto 21, 3) := by decide +kernel
theorem dX7_goes_140 : decode cX7_goes 140 = .ok (.aload_n 0, 1) := by decide +kernel
theorem dX7_goes_141 : decode cX7_goes 141 = .ok (.aload_n 1, 1) := by decide +kernel
theorem dX7_goes_142 : decode cX7_goes 142 = .ok (.aload_n 2, 1) := by decide +kernel
theorem dX7_goes_143 : decode cX7_goes 143 = .ok (.iload 6, 2) := by decide +kernel
theorem dX7_goes_145 : decode cX7_goes 145 = .ok (.iload 5, 2) := by decide +kernel
theorem dX7_goes_147 : decode cX7_goes 147 = .ok (.invokevirtual 37, 3) := by decide +kernel
theorem dX7_goes_150 : decode cX7_goes 150 = .ok (.istore 5, 2) := by decide +kernel
theorem dX7_goes_152 : decode cX7_goes 152 = .ok (.iinc 6 (-1), 3) := by decide +kernel
theorem dX7_goes_155 : decode cX7_goes 155 = .ok (.goto (-50), 3) := by decide +kernel
theorem dX7_goes_158 : decode cX7_goes 158 = .ok (.return_, 1) := by decide +kernel
theorem dX7_look_0 : decode cX7_look 0 = .ok (.aload_n 2, 1) := by decide +kernel
theorem dX7_look_1 : decode cX7_look 1 = .ok (.getfield 41, 3) := by decide +kernel
theorem dX7_look_4 : decode cX7_look 4 = .ok (.iload_n 3, 1) := by decide +kernel
theorem dX7_look_5 : decode cX7_look 5 = .ok (.iaload, 1) := by decide +kernel
theorem dX7_look_6 : decode cX7_look 6 = .ok (.istore 5, 2) := by decide +kernel
theorem dX7_look_8 : decode cX7_look 8 = .ok (.iconst 0, 1) := by decide +kernel
theorem dX7_look_9 : decode cX7_look 9 = .ok (.istore 6, 2) := by decide +kernel
theorem dX7_look_11 : decode cX7_look 11 = .ok (.iload_n 3, 1) := by decide +kernel
theorem dX7_look_12 : decode cX7_look 12 = .ok (.ifCond .le 32, 3) := by decide +kernel
theorem dX7_look_15 : decode cX7_look 15 = .ok (.aload_n 2, 1) := by decide +kernel
theorem dX7_look_16 : decode cX7_look 16 = .ok (.getfield 30, 3) := by decide +kernel
theorem dX7_look_19 : decode cX7_look 19 = .ok (.iload_n 3, 1) := by decide +kernel
theorem dX7_look_20 : decode cX7_look 20 = .ok (.iconst 1, 1) := by decide +kernel
theorem dX7_look_21 : decode cX7_look 21 = .ok (.isub, 1) := by decide +kernel
theorem dX7_look_22 : decode cX7_look 22 = .ok (.baload, 1) := by decide +kernel
theorem dX7_look_23 : decode cX7_look 23 = .ok (.ifCond .eq 21, 3) := by decide +kernel
theorem dX7_look_26 : decode cX7_look 26 = .ok (.aload_n 1, 1) := by decide +kernel
theorem dX7_look_27 : decode cX7_look 27 = .ok (.aload_n 2, 1) := by decide +kernel
theorem dX7_look_28 : decode cX7_look 28 = .ok (.getfield 41, 3) := by decide +kernel
theorem dX7_look_31 : decode cX7_look 31 = .ok (.iload_n 3, 1) := by decide +kernel
theorem dX7_look_32 : decode cX7_look 32 = .ok (.iconst 1, 1) := by decide +kernel
theorem dX7_look_33 : decode cX7_look 33 = .ok (.isub, 1) := by decide +kernel
theorem dX7_look_34 : decode cX7_look 34 = .ok (.iaload, 1) := by decide +kernel
theorem dX7_look_35 : decode cX7_look 35 = .ok (.invokevirtual 74, 3) := by decide +kernel
theorem dX7_look_38 : decode cX7_look 38 = .ok (.ifCond .eq 6, 3) := by decide +kernel
theorem dX7_look_41 : decode cX7_look 41 = .ok (.iinc 6 1, 3) := by decide +kernel
theorem dX7_look_44 : decode cX7_look 44 = .ok (.iload_n 3, 1) := by decide +kernel
theorem dX7_look_45 : decode cX7_look 45 = .ok (.iconst 1, 1) := by decide +kernel
theorem dX7_look_46 : decode cX7_look 46 = .ok (.iadd, 1) := by decide +kernel
theorem dX7_look_47 : decode cX7_look 47 = .ok (.aload_n 2, 1) := by decide +kernel
theorem dX7_look_48 : decode cX7_look 48 = .ok (.getfield 25, 3) := by decide +kernel
theorem dX7_look_51 : decode cX7_look 51 = .ok (.if_icmp .ge 30, 3) := by decide +kernel
theorem dX7_look_54 : decode cX7_look 54 = .ok (.aload_n 2, 1) := by decide +kernel
theorem dX7_look_55 : decode cX7_look 55 = .ok (.getfield 30, 3) := by decide +kernel
theorem dX7_look_58 : decode cX7_look 58 = .ok (.iload_n 3, 1) := by decide +kernel
theorem dX7_look_59 : decode cX7_look 59 = .ok (.baload, 1) := by decide +kernel
theorem dX7_look_60 : decode cX7_look 60 = .ok (.ifCond .eq 21, 3) := by decide +kernel
theorem dX7_look_63 : decode cX7_look 63 = .ok (.aload_n 1, 1) := by decide +kernel
theorem dX7_look_64 : decode cX7_look 64 = .ok (.aload_n 2, 1) := by decide +kernel
theorem dX7_look_65 : decode cX7_look 65 = .ok (.getfield 41, 3) := by decide +kernel
theorem dX7_look_68 : decode cX7_look 68 = .ok (.iload_n 3, 1) := by decide +kernel
theorem dX7_look_69 : decode cX7_look 69 = .ok (.iconst 1, 1) := by decide +kernel
theorem dX7_look_70 : decode cX7_look 70 = .ok (.iadd, 1) := by decide +kernel
theorem dX7_look_71 : decode cX7_look 71 = .ok (.iaload, 1) := by decide +kernel
theorem dX7_look_72 : decode cX7_look 72 = .ok (.invokevirtual 74, 3) := by decide +kernel
theorem dX7_look_75 : decode cX7_look 75 = .ok (.ifCond .eq 6, 3) := by decide +kernel
theorem dX7_look_78 : decode cX7_look 78 = .ok (.iinc 6 1, 3) := by decide +kernel
theorem dX7_look_81 : decode cX7_look 81 = .ok (.aload_n 1, 1) := by decide +kernel
theorem dX7_look_82 : decode cX7_look 82 = .ok (.getfield 53, 3) := by decide +kernel
theorem dX7_look_85 : decode cX7_look 85 = .ok (.getfield 77, 3) := by decide +kernel
theorem dX7_look_88 : decode cX7_look 88 = .ok (.astore 7, 2) := by decide +kernel
theorem dX7_look_90 : decode cX7_look 90 = .ok (.aload 7, 2) := by decide +kernel
theorem dX7_look_92 : decode cX7_look 92 = .ok (.iconst 0, 1) := by decide +kernel
theorem dX7_look_93 : decode cX7_look 93 = .ok (.iload 4, 2) := by decide +kernel
theorem dX7_look_95 : decode cX7_look 95 = .ok (.iastore, 1) := by decide +kernel
theorem dX7_look_96 : decode cX7_look 96 = .ok (.aload 7, 2) := by decide +kernel
theorem dX7_look_98 : decode cX7_look 98 = .ok (.iconst 1, 1) := by decide +kernel
theorem dX7_look_99 : decode cX7_look 99 = .ok (.aload_n 1, 1) := by decide +kernel
theorem dX7_look_100 : decode cX7_look 100 = .ok (.getfield 71, 3) := by decide +kernel
theorem dX7_look_103 : decode cX7_look 103 = .ok (.iload 5, 2) := by decide +kernel
theorem dX7_look_105 : decode cX7_look 105 = .ok (.iaload, 1) := by decide +kernel
theorem dX7_look_106 : decode cX7_look 106 = .ok (.iastore, 1) := by decide +kernel
theorem dX7_look_107 : decode cX7_look 107 = .ok (.aload 7, 2) := by decide +kernel
theorem dX7_look_109 : decode cX7_look 109 = .ok (.iconst 2, 1) := by decide +kernel
theorem dX7_look_110 : decode cX7_look 110 = .ok (.aload_n 1, 1) := by decide +kernel
theorem dX7_look_111 : decode cX7_look 111 = .ok (.getfield 64, 3) := by decide +kernel
theorem dX7_look_114 : decode cX7_look 114 = .ok (.iload 5, 2) := by decide +kernel
theorem dX7_look_116 : decode cX7_look 116 = .ok (.iaload, 1) := by decide +kernel
theorem dX7_look_117 : decode cX7_look 117 = .ok (.iastore, 1) := by decide +kernel
theorem dX7_look_118 : decode cX7_look 118 = .ok (.aload 7, 2) := by decide +kernel
theorem dX7_look_120 : decode cX7_look 120 = .ok (.iconst 3, 1) := by decide +kernel
theorem dX7_look_121 : decode cX7_look 121 = .ok (.iload_n 3, 1) := by decide +kernel
theorem dX7_look_122 : decode cX7_look 122 = .ok (.iastore, 1) := by decide +kernel
theorem dX7_look_123 : decode cX7_look 123 = .ok (.aload 7, 2) := by decide +kernel
theorem dX7_look_125 : decode cX7_look 125 = .ok (.iconst 4, 1) := by decide +kernel
theorem dX7_look_126 : decode cX7_look 126 = .ok (.aload_n 2, 1) := by decide +kernel
theorem dX7_look_127 : decode cX7_look 127 = .ok (.getfield 80, 3) := by decide +kernel
theorem dX7_look_130 : decode cX7_look 130 = .ok (.iastore, 1) := by decide +kernel
theorem dX7_look_131 : decode cX7_look 131 = .ok (.aload 7, 2) := by decide +kernel
theorem dX7_look_133 : decode cX7_look 133 = .ok (.iconst 5, 1) := by decide +kernel
theorem dX7_look_134 : decode cX7_look 134 = .ok (.iload 6, 2) := by decide +kernel
theorem dX7_look_136 : decode cX7_look 136 = .ok (.iastore, 1) := by decide +kernel
theorem dX7_look_137 : decode cX7_look 137 = .ok (.aload 7, 2) := by decide +kernel
theorem dX7_look_139 : decode cX7_look 139 = .ok (.bipush 6, 2) := by decide +kernel
theorem dX7_look_141 : decode cX7_look 141 = .ok (.aload_n 2, 1) := by decide +kernel
theorem dX7_look_142 : decode cX7_look 142 = .ok (.getfield 83, 3) := by decide +kernel
theorem dX7_look_145 : decode cX7_look 145 = .ok (.iload 5, 2) := by decide +kernel
theorem dX7_look_147 : decode cX7_look 147 = .ok (.iaload, 1) := by decide +kernel
theorem dX7_look_148 : decode cX7_look 148 = .ok (.iastore, 1) := by decide +kernel
theorem dX7_look_149 : decode cX7_look 149 = .ok (.return_, 1) := by decide +kernel
theorem dX7_passedOn_0 : decode cX7_passedOn 0 = .ok (.aload_n 0, 1) := by decide +kernel
theorem dX7_passedOn_1 : decode cX7_passedOn 1 = .ok (.getfield 9, 3) := by decide +kernel
theorem dX7_passedOn_4 : decode cX7_passedOn 4 = .ok (.iload_n 3, 1) := by decide +kernel
theorem dX7_passedOn_5 : decode cX7_passedOn 5 = .ok (.iload 4, 2) := by decide +kernel
theorem dX7_passedOn_7 : decode cX7_passedOn 7 = .ok (.iastore, 1) := by decide +kernel
theorem dX7_passedOn_8 : decode cX7_passedOn 8 = .ok (.aload_n 2, 1) := by decide +kernel
theorem dX7_passedOn_9 : decode cX7_passedOn 9 = .ok (.getfield 41, 3) := by decide +kernel
theorem dX7_passedOn_12 : decode cX7_passedOn 12 = .ok (.iload_n 3, 1) := by decide +kernel
theorem dX7_passedOn_13 : decode cX7_passedOn 13 = .ok (.iaload, 1) := by decide +kernel
theorem dX7_passedOn_14 : decode cX7_passedOn 14 = .ok (.istore 5, 2) := by decide +kernel
theorem dX7_passedOn_16 : decode cX7_passedOn 16 = .ok (.aload_n 1, 1) := by decide +kernel
theorem dX7_passedOn_17 : decode cX7_passedOn 17 = .ok (.iload 5, 2) := by decide +kernel
theorem dX7_passedOn_19 : decode cX7_passedOn 19 = .ok (.invokevirtual 44, 3) := by decide +kernel
theorem dX7_passedOn_22 : decode cX7_passedOn 22 = .ok (.ifCond .eq 6, 3) := by decide +kernel
theorem dX7_passedOn_25 : decode cX7_passedOn 25 = .ok (.iload 4, 2) := by decide +kernel
theorem dX7_passedOn_27 : decode cX7_passedOn 27 = .ok (.ireturn, 1) := by decide +kernel
theorem dX7_passedOn_28 : decode cX7_passedOn 28 = .ok (.aload_n 2, 1) := by decide +kernel
theorem dX7_passedOn_29 : decode cX7_passedOn 29 = .ok (.getfield 50, 3) := by decide +kernel
theorem dX7_passedOn_32 : decode cX7_passedOn 32 = .ok (.iload 5, 2) := by decide +kernel
theorem dX7_passedOn_34 : decode cX7_passedOn 34 = .ok (.baload, 1) := by decide +kernel
theorem dX7_passedOn_35 : decode cX7_passedOn 35 = .ok (.ifCond .ne 5, 3) := by decide +kernel
theorem dX7_passedOn_38 : decode cX7_passedOn 38 = .ok (.iconst 0, 1) := by decide +kernel
theorem dX7_passedOn_39 : decode cX7_passedOn 39 = .ok (.ireturn, 1) := by decide +kernel
theorem dX7_passedOn_40 : decode cX7_passedOn 40 = .ok (.aload_n 1, 1) := by decide +kernel
theorem dX7_passedOn_41 : decode cX7_passedOn 41 = .ok (.getfield 53, 3) := by decide +kernel
theorem dX7_passedOn_44 : decode cX7_passedOn 44 = .ok (.getfield 57, 3) := by decide +kernel
theorem dX7_passedOn_47 : decode cX7_passedOn 47 = .ok (.ifCond .le 12, 3) := by decide +kernel
theorem dX7_passedOn_50 : decode cX7_passedOn 50 = .ok (.aload_n 0, 1) := by decide +kernel
theorem dX7_passedOn_51 : decode cX7_passedOn 51 = .ok (.aload_n 1, 1) := by decide +kernel
theorem dX7_passedOn_52 : decode cX7_passedOn 52 = .ok (.aload_n 2, 1) := by decide +kernel
theorem dX7_passedOn_53 : decode cX7_passedOn 53 = .ok (.iload_n 3, 1) := by decide +kernel
theorem dX7_passedOn_54 : decode cX7_passedOn 54 = .ok (.iload 4, 2) := by decide +kernel
theorem dX7_passedOn_56 : decode cX7_passedOn 56 = .ok (.invokevirtual 60, 3) := by decide +kernel
theorem dX7_passedOn_59 : decode cX7_passedOn 59 = .ok (.iload 4, 2) := by decide +kernel
theorem dX7_passedOn_61 : decode cX7_passedOn 61 = .ok (.aload_n 1, 1) := by decide +kernel
theorem dX7_passedOn_62 : decode cX7_passedOn 62 = .ok (.getfield 53, 3) := by decide +kernel
theorem dX7_passedOn_65 : decode cX7_passedOn 65 = .ok (.iconst 1, 1) := by decide +kernel
theorem dX7_passedOn_66 : decode cX7_passedOn 66 = .ok (.aload_n 1, 1) := by decide +kernel
theorem dX7_passedOn_67 : decode cX7_passedOn 67 = .ok (.getfield 64, 3) := by decide +kernel
theorem dX7_passedOn_70 : decode cX7_passedOn 70 = .ok (.iload 5, 2) := by decide +kernel
theorem dX7_passedOn_72 : decode cX7_passedOn 72 = .ok (.iaload, 1) := by decide +kernel
theorem dX7_passedOn_73 : decode cX7_passedOn 73 = .ok (.sipush 9999, 3) := by decide +kernel
theorem dX7_passedOn_76 : decode cX7_passedOn 76 = .ok (.invokevirtual 67, 3) := by decide +kernel
theorem dX7_passedOn_79 : decode cX7_passedOn 79 = .ok (.if_icmp .le 17, 3) := by decide +kernel
theorem dX7_passedOn_82 : decode cX7_passedOn 82 = .ok (.aload_n 0, 1) := by decide +kernel
theorem dX7_passedOn_83 : decode cX7_passedOn 83 = .ok (.dup, 1) := by decide +kernel
theorem dX7_passedOn_84 : decode cX7_passedOn 84 = .ok (.getfield 21, 3) := by decide +kernel
theorem dX7_passedOn_87 : decode cX7_passedOn 87 = .ok (.iconst 1, 1) := by decide +kernel
theorem dX7_passedOn_88 : decode cX7_passedOn 88 = .ok (.iload_n 3, 1) := by decide +kernel
theorem dX7_passedOn_89 : decode cX7_passedOn 89 = .ok (.ishl, 1) := by decide +kernel
theorem dX7_passedOn_90 : decode cX7_passedOn 90 = .ok (.ior, 1) := by decide +kernel
theorem dX7_passedOn_91 : decode cX7_passedOn 91 = .ok (.putfield 21, 3) := by decide +kernel
theorem dX7_passedOn_94 : decode cX7_passedOn 94 = .ok (.iconst 0, 1) := by decide +kernel
theorem dX7_passedOn_95 : decode cX7_passedOn 95 = .ok (.ireturn, 1) := by decide +kernel
theorem dX7_passedOn_96 : decode cX7_passedOn 96 = .ok (.aload_n 1, 1) := by decide +kernel
theorem dX7_passedOn_97 : decode cX7_passedOn 97 = .ok (.getfield 53, 3) := by decide +kernel
theorem dX7_passedOn_100 : decode cX7_passedOn 100 = .ok (.iconst 0, 1) := by decide +kernel
theorem dX7_passedOn_101 : decode cX7_passedOn 101 = .ok (.iload 4, 2) := by decide +kernel
theorem dX7_passedOn_103 : decode cX7_passedOn 103 = .ok (.aload_n 1, 1) := by decide +kernel
theorem dX7_passedOn_104 : decode cX7_passedOn 104 = .ok (.getfield 71, 3) := by decide +kernel
theorem dX7_passedOn_107 : decode cX7_passedOn 107 = .ok (.iload 5, 2) := by decide +kernel
theorem dX7_passedOn_109 : decode cX7_passedOn 109 = .ok (.iaload, 1) := by decide +kernel
theorem dX7_passedOn_110 : decode cX7_passedOn 110 = .ok (.isub, 1) := by decide +kernel
theorem dX7_passedOn_111 : decode cX7_passedOn 111 = .ok (.iload 4, 2) := by decide +kernel
theorem dX7_passedOn_113 : decode cX7_passedOn 113 = .ok (.invokevirtual 67, 3) := by decide +kernel
theorem dX7_passedOn_116 : decode cX7_passedOn 116 = .ok (.ireturn, 1) := by decide +kernel
theorem dX8_allAwake_0 : decode cX8_allAwake 0 = .ok (.iconst 0, 1) := by decide +kernel
theorem dX8_allAwake_1 : decode cX8_allAwake 1 = .ok (.istore_n 1, 1) := by decide +kernel
theorem dX8_allAwake_2 : decode cX8_allAwake 2 = .ok (.iload_n 1, 1) := by decide +kernel
theorem dX8_allAwake_3 : decode cX8_allAwake 3 = .ok (.aload_n 0, 1) := by decide +kernel
theorem dX8_allAwake_4 : decode cX8_allAwake 4 = .ok (.getfield 23, 3) := by decide +kernel
theorem dX8_allAwake_7 : decode cX8_allAwake 7 = .ok (.getfield 113, 3) := by decide +kernel
theorem dX8_allAwake_10 : decode cX8_allAwake 10 = .ok (.if_icmp .ge 34, 3) := by decide +kernel
theorem dX8_allAwake_13 : decode cX8_allAwake 13 = .ok (.aload_n 0, 1) := by decide +kernel
theorem dX8_allAwake_14 : decode cX8_allAwake 14 = .ok (.getfield 30, 3) := by decide +kernel
theorem dX8_allAwake_17 : decode cX8_allAwake 17 = .ok (.getfield 190, 3) := by decide +kernel
theorem dX8_allAwake_20 : decode cX8_allAwake 20 = .ok (.iload_n 1, 1) := by decide +kernel
theorem dX8_allAwake_21 : decode cX8_allAwake 21 = .ok (.baload, 1) := by decide +kernel
theorem dX8_allAwake_22 : decode cX8_allAwake 22 = .ok (.ifCond .eq 16, 3) := by decide +kernel
theorem dX8_allAwake_25 : decode cX8_allAwake 25 = .ok (.aload_n 0, 1) := by decide +kernel
theorem dX8_allAwake_26 : decode cX8_allAwake 26 = .ok (.getfield 23, 3) := by decide +kernel
theorem dX8_allAwake_29 : decode cX8_allAwake 29 = .ok (.iload_n 1, 1) := by decide +kernel
theorem dX8_allAwake_30 : decode cX8_allAwake 30 = .ok (.invokevirtual 256, 3) := by decide +kernel
theorem dX8_allAwake_33 : decode cX8_allAwake 33 = .ok (.ifCond .ne 5, 3) := by decide +kernel
theorem dX8_allAwake_36 : decode cX8_allAwake 36 = .ok (.iconst 0, 1) := by decide +kernel
theorem dX8_allAwake_37 : decode cX8_allAwake 37 = .ok (.ireturn, 1) := by decide +kernel
theorem dX8_allAwake_38 : decode cX8_allAwake 38 = .ok (.iinc 1 1, 3) := by decide +kernel
theorem dX8_allAwake_41 : decode cX8_allAwake 41 = .ok (.goto (-39), 3) := by decide +kernel
theorem dX8_allAwake_44 : decode cX8_allAwake 44 = .ok (.iconst 1, 1) := by decide +kernel
theorem dX8_allAwake_45 : decode cX8_allAwake 45 = .ok (.ireturn, 1) := by decide +kernel
theorem dX8_areTied_0 : decode cX8_areTied 0 = .ok (.iconst 0, 1) := by decide +kernel
theorem dX8_areTied_1 : decode cX8_areTied 1 = .ok (.istore_n 2, 1) := by decide +kernel
theorem dX8_areTied_2 : decode cX8_areTied 2 = .ok (.iload_n 2, 1) := by decide +kernel
theorem dX8_areTied_3 : decode cX8_areTied 3 = .ok (.bipush 11, 2) := by decide +kernel
theorem dX8_areTied_5 : decode cX8_areTied 5 = .ok (.if_icmp .ge 44, 3) := by decide +kernel
theorem dX8_areTied_8 : decode cX8_areTied 8 = .ok (.iload_n 1, 1) := by decide +kernel
theorem dX8_areTied_9 : decode cX8_areTied 9 = .ok (.iload_n 2, 1) := by decide +kernel
theorem dX8_areTied_10 : decode cX8_areTied 10 = .ok (.invokestatic 398, 3) := by decide +kernel
theorem dX8_areTied_13 : decode cX8_areTied 13 = .ok (.ifCond .eq 30, 3) := by decide +kernel
theorem dX8_areTied_16 : decode cX8_areTied 16 = .ok (.iload_n 2, 1) := by decide +kernel
theorem dX8_areTied_17 : decode cX8_areTied 17 = .ok (.aload_n 0, 1) := by decide +kernel
theorem dX8_areTied_18 : decode cX8_areTied 18 = .ok (.getfield 30, 3) := by decide +kernel
theorem dX8_areTied_21 : decode cX8_areTied 21 = .ok (.getfield 135, 3) := by decide +kernel
theorem dX8_areTied_24 : decode cX8_areTied 24 = .ok (.iconst 1, 1) := by decide +kernel
theorem dX8_areTied_25 : decode cX8_areTied 25 = .ok (.isub, 1) := by decide +kernel
theorem dX8_areTied_26 : decode cX8_areTied 26 = .ok (.if_icmp .ge 15, 3) := by decide +kernel
theorem dX8_areTied_29 : decode cX8_areTied 29 = .ok (.aload_n 0, 1) := by decide +kernel
theorem dX8_areTied_30 : decode cX8_areTied 30 = .ok (.getfield 30, 3) := by decide +kernel
theorem dX8_areTied_33 : decode cX8_areTied 33 = .ok (.getfield 221, 3) := by decide +kernel
theorem dX8_areTied_36 : decode cX8_areTied 36 = .ok (.iload_n 2, 1) := by decide +kernel
theorem dX8_areTied_37 : decode cX8_areTied 37 = .ok (.baload, 1) := by decide +kernel
theorem dX8_areTied_38 : decode cX8_areTied 38 = .ok (.ifCond .ne 5, 3) := by decide +kernel
theorem dX8_areTied_41 : decode cX8_areTied 41 = .ok (.iconst 0, 1) := by decide +kernel
theorem dX8_areTied_42 : decode cX8_areTied 42 = .ok (.ireturn, 1) := by decide +kernel
theorem dX8_areTied_43 : decode cX8_areTied 43 = .ok (.iinc 2 1, 3) := by decide +kernel
theorem dX8_areTied_46 : decode cX8_areTied 46 = .ok (.goto (-44), 3) := by decide +kernel
theorem dX8_areTied_49 : decode cX8_areTied 49 = .ok (.iconst 1, 1) := by decide +kernel
theorem dX8_areTied_50 : decode cX8_areTied 50 = .ok (.ireturn, 1) := by decide +kernel
theorem dX8_at_0 : decode cX8_at 0 = .ok (.aload_n 0, 1) := by decide +kernel
theorem dX8_at_1 : decode cX8_at 1 = .ok (.iload_n 1, 1) := by decide +kernel
theorem dX8_at_2 : decode cX8_at 2 = .ok (.invokevirtual 212, 3) := by decide +kernel
theorem dX8_at_5 : decode cX8_at 5 = .ok (.ifCond .eq 15, 3) := by decide +kernel
theorem dX8_at_8 : decode cX8_at 8 = .ok (.aload_n 0, 1) := by decide +kernel
theorem dX8_at_9 : decode cX8_at 9 = .ok (.getfield 30, 3) := by decide +kernel
theorem dX8_at_12 : decode cX8_at 12 = .ok (.getfield 215, 3) := by decide +kernel
theorem dX8_at_15 : decode cX8_at 15 = .ok (.iload_n 1, 1) := by decide +kernel
theorem dX8_at_16 : decode cX8_at 16 = .ok (.iaload, 1) := by decide +kernel
theorem dX8_at_17 : decode cX8_at 17 = .ok (.goto 4, 3) := by decide +kernel
theorem dX8_at_20 : decode cX8_at 20 = .ok (.iconst (-1), 1) := by decide +kernel
theorem dX8_at_21 : decode cX8_at 21 = .ok (.ireturn, 1) := by decide +kernel
theorem dX8_bad_0 : decode cX8_bad 0 = .ok (.aload_n 0, 1) := by decide +kernel
theorem dX8_bad_1 : decode cX8_bad 1 = .ok (.getfield 61, 3) := by decide +kernel
theorem dX8_bad_4 : decode cX8_bad 4 = .ok (.aload_n 0, 1) := by decide +kernel
theorem dX8_bad_5 : decode cX8_bad 5 = .ok (.getfield 23, 3) := by decide +kernel
theorem dX8_bad_8 : decode cX8_bad 8 = .ok (.aload_n 0, 1) := by decide +kernel
theorem dX8_bad_9 : decode cX8_bad 9 = .ok (.getfield 30, 3) := by decide +kernel
theorem dX8_bad_12 : decode cX8_bad 12 = .ok (.invokevirtual 296, 3) := by decide +kernel
theorem dX8_bad_15 : decode cX8_bad 15 = .ok (.ireturn, 1) := by decide +kernel
theorem dX8_beds_0 : decode cX8_beds 0 = .ok (.iload_n 1, 1) := by decide +kernel
theorem dX8_beds_1 : decode cX8_beds 1 = .ok (.iconst 1, 1) := by decide +kernel
theorem dX8_beds_2 : decode cX8_beds 2 = .ok (.if_icmp .lt 26, 3) := by decide +kernel
theorem dX8_beds_5 : decode cX8_beds 5 = .ok (.iload_n 1, 1) := by decide +kernel
theorem dX8_beds_6 : decode cX8_beds 6 = .ok (.sipush 9999, 3) := by decide +kernel
theorem dX8_beds_9 : decode cX8_beds 9 = .ok (.if_icmp .gt 19, 3) := by decide +kernel
theorem dX8_beds_12 : decode cX8_beds 12 = .ok (.aload_n 0, 1) := by decide +kernel
theorem dX8_beds_13 : decode cX8_beds 13 = .ok (.getfield 30, 3) := by decide +kernel
theorem dX8_beds_16 : decode cX8_beds 16 = .ok (.getfield 135, 3) := by decide +kernel
theorem dX8_beds_19 : decode cX8_beds 19 = .ok (.iconst 1, 1) := by decide +kernel
theorem dX8_beds_20 : decode cX8_beds 20 = .ok (.if_icmp .lt 8, 3) := by decide +kernel
theorem dX8_beds_23 : decode cX8_beds 23 = .ok (.iload_n 2, 1) := by decide +kernel
theorem dX8_beds_24 : decode cX8_beds 24 = .ok (.iconst (-1), 1) := by decide +kernel
theorem dX8_beds_25 : decode cX8_beds 25 = .ok (.if_icmp .ge 5, 3) := by decide +kernel
theorem dX8_beds_28 : decode cX8_beds 28 = .ok (.iconst (-1), 1) := by decide +kernel
theorem dX8_beds_29 : decode cX8_beds 29 = .ok (.ireturn, 1) := by decide +kernel
theorem dX8_beds_30 : decode cX8_beds 30 = .ok (.iconst 0, 1) := by decide +kernel
theorem dX8_beds_31 : decode cX8_beds 31 = .ok (.istore_n 3, 1) := by decide +kernel
theorem dX8_beds_32 : decode cX8_beds 32 = .ok (.iconst 0, 1) := by decide +kernel
theorem dX8_beds_33 : decode cX8_beds 33 = .ok (.istore 4, 2) := by decide +kernel
theorem dX8_beds_35 : decode cX8_beds 35 = .ok (.iconst (-1), 1) := by decide +kernel
theorem dX8_beds_36 : decode cX8_beds 36 = .ok (.istore 5, 2) := by decide +kernel
theorem dX8_beds_38 : decode cX8_beds 38 = .ok (.iconst 0, 1) := by decide +kernel
theorem dX8_beds_39 : decode cX8_beds 39 = .ok (.istore 6, 2) := by decide +kernel
theorem dX8_beds_41 : decode cX8_beds 41 = .ok (.iload 6, 2) := by decide +kernel
theorem dX8_beds_43 : decode cX8_beds 43 = .ok (.aload_n 0, 1) := by decide +kernel
theorem dX8_beds_44 : decode cX8_beds 44 = .ok (.getfield 30, 3) := by decide +kernel
theorem dX8_beds_47 : decode cX8_beds 47 = .ok (.getfield 135, 3) := by decide +kernel
theorem dX8_beds_50 : decode cX8_beds 50 = .ok (.if_icmp .ge 75, 3) := by decide +kernel
theorem dX8_beds_53 : decode cX8_beds 53 = .ok (.aload_n 0, 1) := by decide +kernel
theorem dX8_beds_54 : decode cX8_beds 54 = .ok (.getfield 23, 3) := by decide +kernel
theorem dX8_beds_57 : decode cX8_beds 57 = .ok (.getfield 172, 3) := by decide +kernel
theorem dX8_beds_60 : decode cX8_beds 60 = .ok (.aload_n 0, 1) := by decide +kernel
theorem dX8_beds_61 : decode cX8_beds 61 = .ok (.getfield 30, 3) := by decide +kernel
theorem dX8_beds_64 : decode cX8_beds 64 = .ok (.getfield 215, 3) := by decide +kernel
theorem dX8_beds_67 : decode cX8_beds 67 = .ok (.iload 6, 2) := by decide +kernel
theorem dX8_beds_69 : decode cX8_beds 69 = .ok (.iaload, 1) := by decide +kernel
theorem dX8_beds_70 : decode cX8_beds 70 = .ok (.iaload, 1) := by decide +kernel
theorem dX8_beds_71 : decode cX8_beds 71 = .ok (.istore 7, 2) := by decide +kernel
theorem dX8_beds_73 : decode cX8_beds 73 = .ok (.iload 7, 2) := by decide +kernel
theorem dX8_beds_75 : decode cX8_beds 75 = .ok (.iload_n 1, 1) := by decide +kernel
theorem dX8_beds_76 : decode cX8_beds 76 = .ok (.if_icmp .le 5, 3) := by decide +kernel
theorem dX8_beds_79 : decode cX8_beds 79 = .ok (.iconst (-1), 1) := by decide +kernel
theorem dX8_beds_80 : decode cX8_beds 80 = .ok (.ireturn, 1) := by decide +kernel
theorem dX8_beds_81 : decode cX8_beds 81 = .ok (.iload_n 3, 1) := by decide +kernel
theorem dX8_beds_82 : decode cX8_beds 82 = .ok (.ifCond .eq 10, 3) := by decide +kernel
theorem dX8_beds_85 : decode cX8_beds 85 = .ok (.iload 7, 2) := by decide +kernel
theorem dX8_beds_87 : decode cX8_beds 87 = .ok (.iload 4, 2) := by decide +kernel
theorem dX8_beds_89 : decode cX8_beds 89 = .ok (.if_icmp .le 23, 3) := by decide +kernel
theorem dX8_beds_92 : decode cX8_beds 92 = .ok (.iload_n 3, 1) := by decide +kernel
theorem dX8_beds_93 : decode cX8_beds 93 = .ok (.iload_n 2, 1) := by decide +kernel
theorem dX8_beds_94 : decode cX8_beds 94 = .ok (.if_icmp .ne 8, 3) := by decide +kernel
theorem dX8_beds_97 : decode cX8_beds 97 = .ok (.iload 6, 2) := by decide +kernel
theorem dX8_beds_99 : decode cX8_beds 99 = .ok (.goto 5, 3) := by decide +kernel
theorem dX8_beds_102 : decode cX8_beds 102 = .ok (.iload 5, 2) := by decide +kernel
theorem dX8_beds_104 : decode cX8_beds 104 = .ok (.istore 5, 2) := by decide +kernel
theorem dX8_beds_106 : decode cX8_beds 106 = .ok (.iinc 3 1, 3) := by decide +kernel
theorem dX8_beds_109 : decode cX8_beds 109 = .ok (.iload_n 1, 1) := by decide +kernel
theorem dX8_beds_110 : decode cX8_beds 110 = .ok (.istore 4, 2) := by decide +kernel
theorem dX8_beds_112 : decode cX8_beds 112 = .ok (.iload 4, 2) := by decide +kernel
theorem dX8_beds_114 : decode cX8_beds 114 = .ok (.iload 7, 2) := by decide +kernel
theorem dX8_beds_116 : decode cX8_beds 116 = .ok (.isub, 1) := by decide +kernel
theorem dX8_beds_117 : decode cX8_beds 117 = .ok (.istore 4, 2) := by decide +kernel
theorem dX8_beds_119 : decode cX8_beds 119 = .ok (.iinc 6 1, 3) := by decide +kernel
theorem dX8_beds_122 : decode cX8_beds 122 = .ok (.goto (-81), 3) := by decide +kernel
theorem dX8_beds_125 : decode cX8_beds 125 = .ok (.iload_n 2, 1) := by decide +kernel
theorem dX8_beds_126 : decode cX8_beds 126 = .ok (.iconst (-1), 1) := by decide +kernel
theorem dX8_beds_127 : decode cX8_beds 127 = .ok (.if_icmp .ne 7, 3) := by decide +kernel
theorem dX8_beds_130 : decode cX8_beds 130 = .ok (.iload_n 3, 1) := by decide +kernel
theorem dX8_beds_131 : decode cX8_beds 131 = .ok (.goto 5, 3) := by decide +kernel
theorem dX8_beds_134 : decode cX8_beds 134 = .ok (.iload 5, 2) := by decide +kernel
theorem dX8_beds_136 : decode cX8_beds 136 = .ok (.ireturn, 1) := by decide +kernel
theorem dX8_best_0 : decode cX8_best 0 = .ok (.aload_n 0, 1) := by decide +kernel
theorem dX8_best_1 : decode cX8_best 1 = .ok (.getfield 30, 3) := by decide +kernel
theorem dX8_best_4 : decode cX8_best 4 = .ok (.getfield 135, 3) := by decide +kernel
theorem dX8_best_7 : decode cX8_best 7 = .ok (.iconst 1, 1) := by decide +kernel
theorem dX8_best_8 : decode cX8_best 8 = .ok (.if_icmp .lt 31, 3) := by decide +kernel
theorem dX8_best_11 : decode cX8_best 11 = .ok (.aload_n 0, 1) := by decide +kernel
theorem dX8_best_12 : decode cX8_best 12 = .ok (.getfield 30, 3) := by decide +kernel
theorem dX8_best_15 : decode cX8_best 15 = .ok (.getfield 135, 3) := by decide +kernel
theorem dX8_best_18 : decode cX8_best 18 = .ok (.bipush 6, 2) := by decide +kernel
theorem dX8_best_20 : decode cX8_best 20 = .ok (.if_icmp .gt 19, 3) := by decide +kernel
theorem dX8_best_23 : decode cX8_best 23 = .ok (.iload_n 1, 1) := by decide +kernel
theorem dX8_best_24 : decode cX8_best 24 = .ok (.iconst (-1), 1) := by decide +kernel
theorem dX8_best_25 : decode cX8_best 25 = .ok (.if_icmp .lt 14, 3) := by decide +kernel
theorem dX8_best_28 : decode cX8_best 28 = .ok (.iload_n 1, 1) := by decide +kernel
theorem dX8_best_29 : decode cX8_best 29 = .ok (.aload_n 0, 1) := by decide +kernel
theorem dX8_best_30 : decode cX8_best 30 = .ok (.getfield 30, 3) := by decide +kernel
theorem dX8_best_33 : decode cX8_best 33 = .ok (.getfield 135, 3) := by decide +kernel
theorem dX8_best_36 : decode cX8_best 36 = .ok (.if_icmp .lt 5, 3) := by decide +kernel
theorem dX8_best_39 : decode cX8_best 39 = .ok (.iconst (-1), 1) := by decide +kernel
theorem dX8_best_40 : decode cX8_best 40 = .ok (.ireturn, 1) := by decide +kernel
theorem dX8_best_41 : decode cX8_best 41 = .ok (.aload_n 0, 1) := by decide +kernel
theorem dX8_best_42 : decode cX8_best 42 = .ok (.getfield 61, 3) := by decide +kernel
theorem dX8_best_45 : decode cX8_best 45 = .ok (.aload_n 0, 1) := by decide +kernel
theorem dX8_best_46 : decode cX8_best 46 = .ok (.getfield 23, 3) := by decide +kernel
theorem dX8_best_49 : decode cX8_best 49 = .ok (.aload_n 0, 1) := by decide +kernel
theorem dX8_best_50 : decode cX8_best 50 = .ok (.getfield 30, 3) := by decide +kernel
theorem dX8_best_53 : decode cX8_best 53 = .ok (.aload_n 0, 1) := by decide +kernel
theorem dX8_best_54 : decode cX8_best 54 = .ok (.getfield 101, 3) := by decide +kernel
theorem dX8_best_57 : decode cX8_best 57 = .ok (.invokevirtual 300, 3) := by decide +kernel
theorem dX8_best_60 : decode cX8_best 60 = .ok (.iload_n 1, 1) := by decide +kernel
theorem dX8_best_61 : decode cX8_best 61 = .ok (.iconst (-1), 1) := by decide +kernel
theorem dX8_best_62 : decode cX8_best 62 = .ok (.if_icmp .ne 13, 3) := by decide +kernel
theorem dX8_best_65 : decode cX8_best 65 = .ok (.aload_n 0, 1) := by decide +kernel
theorem dX8_best_66 : decode cX8_best 66 = .ok (.getfield 61, 3) := by decide +kernel
theorem dX8_best_69 : decode cX8_best 69 = .ok (.getfield 304, 3) := by decide +kernel
theorem dX8_best_72 : decode cX8_best 72 = .ok (.goto 12, 3) := by decide +kernel
theorem dX8_best_75 : decode cX8_best 75 = .ok (.aload_n 0, 1) := by decide +kernel
theorem dX8_best_76 : decode cX8_best 76 = .ok (.getfield 61, 3) := by decide +kernel
theorem dX8_best_79 : decode cX8_best 79 = .ok (.getfield 307, 3) := by decide +kernel
theorem dX8_best_82 : decode cX8_best 82 = .ok (.iload_n 1, 1) := by decide +kernel
theorem dX8_best_83 : decode cX8_best 83 = .ok (.iaload, 1) := by decide +kernel
theorem dX8_best_84 : decode cX8_best 84 = .ok (.ireturn, 1) := by decide +kernel
theorem dX8_boy_0 : decode cX8_boy 0 = .ok (.aload_n 0, 1) := by decide +kernel
theorem dX8_boy_1 : decode cX8_boy 1 = .ok (.iload_n 1, 1) := by decide +kernel
theorem dX8_boy_2 : decode cX8_boy 2 = .ok (.invokevirtual 155, 3) := by decide +kernel
theorem dX8_boy_5 : decode cX8_boy 5 = .ok (.ifCond .ne 5, 3) := by decide +kernel
theorem dX8_boy_8 : decode cX8_boy 8 = .ok (.iconst (-1), 1) := by decide +kernel
theorem dX8_boy_9 : decode cX8_boy 9 = .ok (.ireturn, 1) := by decide +kernel
theorem dX8_boy_10 : decode cX8_boy 10 = .ok (.iload_n 2, 1) := by decide +kernel
theorem dX8_boy_11 : decode cX8_boy 11 = .ok (.tableswitch 202 0 12 #[65, 75, 85, 95, 105, 115, 124, 142, 152, 162, 172, 182, 192], 65) := by decide +kernel
theorem dX8_boy_76 : decode cX8_boy 76 = .ok (.aload_n 0, 1) := by decide +kernel
theorem dX8_boy_77 : decode cX8_boy 77 = .ok (.getfield 23, 3) := by decide +kernel
theorem dX8_boy_80 : decode cX8_boy 80 = .ok (.getfield 172, 3) := by decide +kernel
theorem dX8_boy_83 : decode cX8_boy 83 = .ok (.iload_n 1, 1) := by decide +kernel
theorem dX8_boy_84 : decode cX8_boy 84 = .ok (.iaload, 1) := by decide +kernel
theorem dX8_boy_85 : decode cX8_boy 85 = .ok (.ireturn, 1) := by decide +kernel
theorem dX8_boy_86 : decode cX8_boy 86 = .ok (.aload_n 0, 1) := by decide +kernel
theorem dX8_boy_87 : decode cX8_boy 87 = .ok (.getfield 23, 3) := by decide +kernel
theorem dX8_boy_90 : decode cX8_boy 90 = .ok (.getfield 175, 3) := by decide +kernel
theorem dX8_boy_93 : decode cX8_boy 93 = .ok (.iload_n 1, 1) := by decide +kernel
theorem dX8_boy_94 : decode cX8_boy 94 = .ok (.iaload, 1) := by decide +kernel
theorem dX8_boy_95 : decode cX8_boy 95 = .ok (.ireturn, 1) := by decide +kernel
theorem dX8_boy_96 : decode cX8_boy 96 = .ok (.aload_n 0, 1) := by decide +kernel
theorem dX8_boy_97 : decode cX8_boy 97 = .ok (.getfield 23, 3) := by decide +kernel
theorem dX8_boy_100 : decode cX8_boy 100 = .ok (.getfield 178, 3) := by decide +kernel
theorem dX8_boy_103 : decode cX8_boy 103 = .ok (.iload_n 1, 1) := by decide +kernel
theorem dX8_boy_104 : decode cX8_boy 104 = .ok (.iaload, 1) := by decide +kernel
theorem dX8_boy_105 : decode cX8_boy 105 = .ok (.ireturn, 1) := by decide +kernel
theorem dX8_boy_106 : decode cX8_boy 106 = .ok (.aload_n 0, 1) := by decide +kernel
theorem dX8_boy_107 : decode cX8_boy 107 = .ok (.getfield 23, 3) := by decide +kernel
theorem dX8_boy_110 : decode cX8_boy 110 = .ok (.getfield 181, 3) := by decide +kernel
theorem dX8_boy_113 : decode cX8_boy 113 = .ok (.iload_n 1, 1) := by decide +kernel
theorem dX8_boy_114 : decode cX8_boy 114 = .ok (.iaload, 1) := by decide +kernel
theorem dX8_boy_115 : decode cX8_boy 115 = .ok (.ireturn, 1) := by decide +kernel
theorem dX8_boy_116 : decode cX8_boy 116 = .ok (.aload_n 0, 1) := by decide +kernel
theorem dX8_boy_117 : decode cX8_boy 117 = .ok (.getfield 23, 3) := by decide +kernel
theorem dX8_boy_120 : decode cX8_boy 120 = .ok (.getfield 184, 3) := by decide +kernel
theorem dX8_boy_123 : decode cX8_boy 123 = .ok (.iload_n 1, 1) := by decide +kernel
theorem dX8_boy_124 : decode cX8_boy 124 = .ok (.iaload, 1) := by decide +kernel
theorem dX8_boy_125 : decode cX8_boy 125 = .ok (.ireturn, 1) := by decide +kernel
theorem dX8_boy_126 : decode cX8_boy 126 = .ok (.aload_n 0, 1) := by decide +kernel
theorem dX8_boy_127 : decode cX8_boy 127 = .ok (.getfield 30, 3) := by decide +kernel
theorem dX8_boy_130 : decode cX8_boy 130 = .ok (.iload_n 1, 1) := by decide +kernel
theorem dX8_boy_131 : decode cX8_boy 131 = .ok (.invokevirtual 187, 3) := by decide +kernel
theorem dX8_boy_134 : decode cX8_boy 134 = .ok (.ireturn, 1) := by decide +kernel
theorem dX8_boy_135 : decode cX8_boy 135 = .ok (.aload_n 0, 1) := by decide +kernel
theorem dX8_boy_136 : decode cX8_boy 136 = .ok (.getfield 30, 3) := by decide +kernel
theorem dX8_boy_139 : decode cX8_boy 139 = .ok (.getfield 190, 3) := by decide +kernel
theorem dX8_boy_142 : decode cX8_boy 142 = .ok (.iload_n 1, 1) := by decide +kernel
theorem dX8_boy_143 : decode cX8_boy 143 = .ok (.baload, 1) := by decide +kernel
theorem dX8_boy_144 : decode cX8_boy 144 = .ok (.ifCond .eq 7, 3) := by decide +kernel
theorem dX8_boy_147 : decode cX8_boy 147 = .ok (.iconst 1, 1) := by decide +kernel
theorem dX8_boy_148 : decode cX8_boy 148 = .ok (.goto 4, 3) := by decide +kernel
theorem dX8_boy_151 : decode cX8_boy 151 = .ok (.iconst 0, 1) := by decide +kernel
theorem dX8_boy_152 : decode cX8_boy 152 = .ok (.ireturn, 1) := by decide +kernel
theorem dX8_boy_153 : decode cX8_boy 153 = .ok (.aload_n 0, 1) := by decide +kernel
theorem dX8_boy_154 : decode cX8_boy 154 = .ok (.getfield 30, 3) := by decide +kernel
theorem dX8_boy_157 : decode cX8_boy 157 = .ok (.getfield 194, 3) := by decide +kernel
theorem dX8_boy_160 : decode cX8_boy 160 = .ok (.iload_n 1, 1) := by decide +kernel
theorem dX8_boy_161 : decode cX8_boy 161 = .ok (.iaload, 1) := by decide +kernel
theorem dX8_boy_162 : decode cX8_boy 162 = .ok (.ireturn, 1) := by decide +kernel
theorem dX8_boy_163 : decode cX8_boy 163 = .ok (.aload_n 0, 1) := by decide +kernel
theorem dX8_boy_164 : decode cX8_boy 164 = .ok (.getfield 30, 3) := by decide +kernel
theorem dX8_boy_167 : decode cX8_boy 167 = .ok (.getfield 197, 3) := by decide +kernel
theorem dX8_boy_170 : decode cX8_boy 170 = .ok (.iload_n 1, 1) := by decide +kernel
theorem dX8_boy_171 : decode cX8_boy 171 = .ok (.iaload, 1) := by decide +kernel
theorem dX8_boy_172 : decode cX8_boy 172 = .ok (.ireturn, 1) := by decide +kernel
theorem dX8_boy_173 : decode cX8_boy 173 = .ok (.aload_n 0, 1) := by decide +kernel
theorem dX8_boy_174 : decode cX8_boy 174 = .ok (.getfield 30, 3) := by decide +kernel
theorem dX8_boy_177 : decode cX8_boy 177 = .ok (.getfield 200, 3) := by decide +kernel
theorem dX8_boy_180 : decode cX8_boy 180 = .ok (.iload_n 1, 1) := by decide +kernel
theorem dX8_boy_181 : decode cX8_boy 181 = .ok (.iaload, 1) := by decide +kernel
theorem dX8_boy_182 : decode cX8_boy 182 = .ok (.ireturn, 1) := by decide +kernel
theorem dX8_boy_183 : decode cX8_boy 183 = .ok (.aload_n 0, 1) := by decide +kernel
theorem dX8_boy_184 : decode cX8_boy 184 = .ok (.getfield 30, 3) := by decide +kernel
theorem dX8_boy_187 : decode cX8_boy 187 = .ok (.getfield 203, 3) := by decide +kernel
theorem dX8_boy_190 : decode cX8_boy 190 = .ok (.iload_n 1, 1) := by decide +kernel
theorem dX8_boy_191 : decode cX8_boy 191 = .ok (.iaload, 1) := by decide +kernel
theorem dX8_boy_192 : decode cX8_boy 192 = .ok (.ireturn, 1) := by decide +kernel
theorem dX8_boy_193 : decode cX8_boy 193 = .ok (.aload_n 0, 1) := by decide +kernel
theorem dX8_boy_194 : decode cX8_boy 194 = .ok (.getfield 30, 3) := by decide +kernel
theorem dX8_boy_197 : decode cX8_boy 197 = .ok (.getfield 206, 3) := by decide +kernel
theorem dX8_boy_200 : decode cX8_boy 200 = .ok (.iload_n 1, 1) := by decide +kernel
theorem dX8_boy_201 : decode cX8_boy 201 = .ok (.iaload, 1) := by decide +kernel
theorem dX8_boy_202 : decode cX8_boy 202 = .ok (.ireturn, 1) := by decide +kernel
theorem dX8_boy_203 : decode cX8_boy 203 = .ok (.aload_n 0, 1) := by decide +kernel
theorem dX8_boy_204 : decode cX8_boy 204 = .ok (.getfield 30, 3) := by decide +kernel
theorem dX8_boy_207 : decode cX8_boy 207 = .ok (.getfield 209, 3) := by decide +kernel
theorem dX8_boy_210 : decode cX8_boy 210 = .ok (.iload_n 1, 1) := by decide +kernel
theorem dX8_boy_211 : decode cX8_boy 211 = .ok (.iaload, 1) := by decide +kernel
theorem dX8_boy_212 : decode cX8_boy 212 = .ok (.ireturn, 1) := by decide +kernel
theorem dX8_boy_213 : decode cX8_boy 213 = .ok (.iconst (-1), 1) := by decide +kernel
theorem dX8_boy_214 : decode cX8_boy 214 = .ok (.ireturn, 1) := by decide +kernel
theorem dX8_caughtOnes_0 : decode cX8_caughtOnes 0 = .ok (.iconst 0, 1) := by decide +kernel
theorem dX8_caughtOnes_1 : decode cX8_caughtOnes 1 = .ok (.istore_n 1, 1) := by decide +kernel
theorem dX8_caughtOnes_2 : decode cX8_caughtOnes 2 = .ok (.iconst 0, 1) := by decide +kernel
theorem dX8_caughtOnes_3 : decode cX8_caughtOnes 3 = .ok (.istore_n 2, 1) := by decide +kernel
theorem dX8_caughtOnes_4 : decode cX8_caughtOnes 4 = .ok (.iload_n 2, 1) := by decide +kernel
theorem dX8_caughtOnes_5 : decode cX8_caughtOnes 5 = .ok (.aload_n 0, 1) := by decide +kernel
theorem dX8_caughtOnes_6 : decode cX8_caughtOnes 6 = .ok (.getfield 23, 3) := by decide +kernel
theorem dX8_caughtOnes_9 : decode cX8_caughtOnes 9 = .ok (.getfield 113, 3) := by decide +kernel
theorem dX8_caughtOnes_12 : decode cX8_caughtOnes 12 = .ok (.if_icmp .ge 30, 3) := by decide +kernel
theorem dX8_caughtOnes_15 : decode cX8_caughtOnes 15 = .ok (.iload_n 1, 1) := by decide +kernel
theorem dX8_caughtOnes_16 : decode cX8_caughtOnes 16 = .ok (.aload_n 0, 1) := by decide +kernel
theorem dX8_caughtOnes_17 : decode cX8_caughtOnes 17 = .ok (.getfield 30, 3) := by decide +kernel
theorem dX8_caughtOnes_20 : decode cX8_caughtOnes 20 = .ok (.getfield 200, 3) := by decide +kernel
theorem dX8_caughtOnes_23 : decode cX8_caughtOnes 23 = .ok (.iload_n 2, 1) := by decide +kernel
theorem dX8_caughtOnes_24 : decode cX8_caughtOnes 24 = .ok (.iaload, 1) := by decide +kernel
theorem dX8_caughtOnes_25 : decode cX8_caughtOnes 25 = .ok (.iconst (-1), 1) := by decide +kernel
theorem dX8_caughtOnes_26 : decode cX8_caughtOnes 26 = .ok (.if_icmp .eq 7, 3) := by decide +kernel
theorem dX8_caughtOnes_29 : decode cX8_caughtOnes 29 = .ok (.iconst 1, 1) := by decide +kernel
theorem dX8_caughtOnes_30 : decode cX8_caughtOnes 30 = .ok (.goto 4, 3) := by decide +kernel
theorem dX8_caughtOnes_33 : decode cX8_caughtOnes 33 = .ok (.iconst 0, 1) := by decide +kernel
theorem dX8_caughtOnes_34 : decode cX8_caughtOnes 34 = .ok (.iadd, 1) := by decide +kernel
theorem dX8_caughtOnes_35 : decode cX8_caughtOnes 35 = .ok (.istore_n 1, 1) := by decide +kernel
theorem dX8_caughtOnes_36 : decode cX8_caughtOnes 36 = .ok (.iinc 2 1, 3) := by decide +kernel
theorem dX8_caughtOnes_39 : decode cX8_caughtOnes 39 = .ok (.goto (-35), 3) := by decide +kernel
theorem dX8_caughtOnes_42 : decode cX8_caughtOnes 42 = .ok (.iload_n 1, 1) := by decide +kernel
theorem dX8_caughtOnes_43 : decode cX8_caughtOnes 43 = .ok (.ireturn, 1) := by decide +kernel
theorem dX8_cut_0 : decode cX8_cut 0 = .ok (.iload_n 1, 1) := by decide +kernel
theorem dX8_cut_1 : decode cX8_cut 1 = .ok (.ifCond .lt 37, 3) := by decide +kernel
theorem dX8_cut_4 : decode cX8_cut 4 = .ok (.iload_n 1, 1) := by decide +kernel
theorem dX8_cut_5 : decode cX8_cut 5 = .ok (.iconst 4, 1) := by decide +kernel
theorem dX8_cut_6 : decode cX8_cut 6 = .ok (.if_icmp .gt 32, 3) := by decide +kernel
theorem dX8_cut_9 : decode cX8_cut 9 = .ok (.aload_n 0, 1) := by decide +kernel
theorem dX8_cut_10 : decode cX8_cut 10 = .ok (.getfield 30, 3) := by decide +kernel
theorem dX8_cut_13 : decode cX8_cut 13 = .ok (.getfield 135, 3) := by decide +kernel
theorem dX8_cut_16 : decode cX8_cut 16 = .ok (.iconst 1, 1) := by decide +kernel
theorem dX8_cut_17 : decode cX8_cut 17 = .ok (.if_icmp .lt 21, 3) := by decide +kernel
theorem dX8_cut_20 : decode cX8_cut 20 = .ok (.aload_n 0, 1) := by decide +kernel
theorem dX8_cut_21 : decode cX8_cut 21 = .ok (.invokevirtual 128, 3) := by decide +kernel
theorem dX8_cut_24 : decode cX8_cut 24 = .ok (.iload_n 1, 1) := by decide +kernel
theorem dX8_cut_25 : decode cX8_cut 25 = .ok (.if_icmp .lt 13, 3) := by decide +kernel
theorem dX8_cut_28 : decode cX8_cut 28 = .ok (.iload_n 2, 1) := by decide +kernel
theorem dX8_cut_29 : decode cX8_cut 29 = .ok (.iconst (-1), 1) := by decide +kernel
theorem dX8_cut_30 : decode cX8_cut 30 = .ok (.if_icmp .lt 8, 3) := by decide +kernel
theorem dX8_cut_33 : decode cX8_cut 33 = .ok (.iload_n 2, 1) := by decide +kernel
theorem dX8_cut_34 : decode cX8_cut 34 = .ok (.iload_n 1, 1) := by decide +kernel
theorem dX8_cut_35 : decode cX8_cut 35 = .ok (.if_icmp .lt 5, 3) := by decide +kernel
theorem dX8_cut_38 : decode cX8_cut 38 = .ok (.iconst (-1), 1) := by decide +kernel
theorem dX8_cut_39 : decode cX8_cut 39 = .ok (.ireturn, 1) := by decide +kernel
theorem dX8_cut_40 : decode cX8_cut 40 = .ok (.iconst (-1), 1) := by decide +kernel
theorem dX8_cut_41 : decode cX8_cut 41 = .ok (.istore_n 3, 1) := by decide +kernel
theorem dX8_cut_42 : decode cX8_cut 42 = .ok (.iconst 0, 1) := by decide +kernel
theorem dX8_cut_43 : decode cX8_cut 43 = .ok (.istore 4, 2) := by decide +kernel
theorem dX8_cut_45 : decode cX8_cut 45 = .ok (.sipush 2047, 3) := by decide +kernel
theorem dX8_cut_48 : decode cX8_cut 48 = .ok (.istore 5, 2) := by decide +kernel
theorem dX8_cut_50 : decode cX8_cut 50 = .ok (.iload 5, 2) := by decide +kernel
theorem dX8_cut_52 : decode cX8_cut 52 = .ok (.ifCond .lt 53, 3) := by decide +kernel
theorem dX8_cut_55 : decode cX8_cut 55 = .ok (.iload 5, 2) := by decide +kernel
theorem dX8_cut_57 : decode cX8_cut 57 = .ok (.invokestatic 343, 3) := by decide +kernel
theorem dX8_cut_60 : decode cX8_cut 60 = .ok (.iload_n 1, 1) := by decide +kernel
theorem dX8_cut_61 : decode cX8_cut 61 = .ok (.if_icmp .ne 38, 3) := by decide +kernel
theorem dX8_cut_64 : decode cX8_cut 64 = .ok (.aload_n 0, 1) := by decide +kernel
theorem dX8_cut_65 : decode cX8_cut 65 = .ok (.iload 5, 2) := by decide +kernel
theorem dX8_cut_67 : decode cX8_cut 67 = .ok (.invokevirtual 348, 3) := by decide +kernel
theorem dX8_cut_70 : decode cX8_cut 70 = .ok (.ifCond .eq 29, 3) := by decide +kernel
theorem dX8_cut_73 : decode cX8_cut 73 = .ok (.aload_n 0, 1) := by decide +kernel
theorem dX8_cut_74 : decode cX8_cut 74 = .ok (.iload 5, 2) := by decide +kernel
theorem dX8_cut_76 : decode cX8_cut 76 = .ok (.invokevirtual 351, 3) := by decide +kernel
theorem dX8_cut_79 : decode cX8_cut 79 = .ok (.istore 6, 2) := by decide +kernel
theorem dX8_cut_81 : decode cX8_cut 81 = .ok (.iload_n 3, 1) := by decide +kernel
theorem dX8_cut_82 : decode cX8_cut 82 = .ok (.iconst (-1), 1) := by decide +kernel
theorem dX8_cut_83 : decode cX8_cut 83 = .ok (.if_icmp .eq 9, 3) := by decide +kernel
theorem dX8_cut_86 : decode cX8_cut 86 = .ok (.iload 6, 2) := by decide +kernel
theorem dX8_cut_88 : decode cX8_cut 88 = .ok (.iload_n 3, 1) := by decide +kernel
theorem dX8_cut_89 : decode cX8_cut 89 = .ok (.if_icmp .ge 10, 3) := by decide +kernel
theorem dX8_cut_92 : decode cX8_cut 92 = .ok (.iload 6, 2) := by decide +kernel
theorem dX8_cut_94 : decode cX8_cut 94 = .ok (.istore_n 3, 1) := by decide +kernel
theorem dX8_cut_95 : decode cX8_cut 95 = .ok (.iload 5, 2) := by decide +kernel
theorem dX8_cut_97 : decode cX8_cut 97 = .ok (.istore 4, 2) := by decide +kernel
theorem dX8_cut_99 : decode cX8_cut 99 = .ok (.iinc 5 (-1), 3) := by decide +kernel
theorem dX8_cut_102 : decode cX8_cut 102 = .ok (.goto (-52), 3) := by decide +kernel
theorem dX8_cut_105 : decode cX8_cut 105 = .ok (.iload_n 2, 1) := by decide +kernel
theorem dX8_cut_106 : decode cX8_cut 106 = .ok (.iconst (-1), 1) := by decide +kernel
theorem dX8_cut_107 : decode cX8_cut 107 = .ok (.if_icmp .ne 7, 3) := by decide +kernel
theorem dX8_cut_110 : decode cX8_cut 110 = .ok (.iload_n 3, 1) := by decide +kernel
theorem dX8_cut_111 : decode cX8_cut 111 = .ok (.goto 9, 3) := by decide +kernel
theorem dX8_cut_114 : decode cX8_cut 114 = .ok (.iload 4, 2) := by decide +kernel
theorem dX8_cut_116 : decode cX8_cut 116 = .ok (.iload_n 2, 1) := by decide +kernel
theorem dX8_cut_117 : decode cX8_cut 117 = .ok (.invokestatic 354, 3) := by decide +kernel
theorem dX8_cut_120 : decode cX8_cut 120 = .ok (.ireturn, 1) := by decide +kernel
theorem dX8_dorm_0 : decode cX8_dorm 0 = .ok (.aload_n 0, 1) := by decide +kernel
theorem dX8_dorm_1 : decode cX8_dorm 1 = .ok (.getfield 74, 3) := by decide +kernel
theorem dX8_dorm_4 : decode cX8_dorm 4 = .ok (.istore_n 1, 1) := by decide +kernel
theorem dX8_dorm_5 : decode cX8_dorm 5 = .ok (.aload_n 0, 1) := by decide +kernel
theorem dX8_dorm_6 : decode cX8_dorm 6 = .ok (.iconst 0, 1) := by decide +kernel
theorem dX8_dorm_7 : decode cX8_dorm 7 = .ok (.putfield 74, 3) := by decide +kernel
theorem dX8_dorm_10 : decode cX8_dorm 10 = .ok (.aload_n 0, 1) := by decide +kernel
theorem dX8_dorm_11 : decode cX8_dorm 11 = .ok (.getfield 16, 3) := by decide +kernel
theorem dX8_dorm_14 : decode cX8_dorm 14 = .ok (.aload_n 0, 1) := by decide +kernel
theorem dX8_dorm_15 : decode cX8_dorm 15 = .ok (.getfield 9, 3) := by decide +kernel
theorem dX8_dorm_18 : decode cX8_dorm 18 = .ok (.iload_n 1, 1) := by decide +kernel
theorem dX8_dorm_19 : decode cX8_dorm 19 = .ok (.invokevirtual 85, 3) := by decide +kernel
theorem dX8_dorm_22 : decode cX8_dorm 22 = .ok (.ifCond .ne 10, 3) := by decide +kernel
theorem dX8_dorm_25 : decode cX8_dorm 25 = .ok (.aload_n 0, 1) := by decide +kernel
theorem dX8_dorm_26 : decode cX8_dorm 26 = .ok (.iconst 1, 1) := by decide +kernel
theorem dX8_dorm_27 : decode cX8_dorm 27 = .ok (.invokevirtual 78, 3) := by decide +kernel
theorem dX8_dorm_30 : decode cX8_dorm 30 = .ok (.iconst (-1), 1) := by decide +kernel
theorem dX8_dorm_31 : decode cX8_dorm 31 = .ok (.ireturn, 1) := by decide +kernel
theorem dX8_dorm_32 : decode cX8_dorm 32 = .ok (.aload_n 0, 1) := by decide +kernel
theorem dX8_dorm_33 : decode cX8_dorm 33 = .ok (.getfield 23, 3) := by decide +kernel
theorem dX8_dorm_36 : decode cX8_dorm 36 = .ok (.astore_n 2, 1) := by decide +kernel
theorem dX8_dorm_37 : decode cX8_dorm 37 = .ok (.aload_n 0, 1) := by decide +kernel
theorem dX8_dorm_38 : decode cX8_dorm 38 = .ok (.aload_n 0, 1) := by decide +kernel
theorem dX8_dorm_39 : decode cX8_dorm 39 = .ok (.getfield 16, 3) := by decide +kernel
theorem dX8_dorm_42 : decode cX8_dorm 42 = .ok (.getfield 89, 3) := by decide +kernel
theorem dX8_dorm_45 : decode cX8_dorm 45 = .ok (.putfield 23, 3) := by decide +kernel
theorem dX8_dorm_48 : decode cX8_dorm 48 = .ok (.aload_n 0, 1) := by decide +kernel
theorem dX8_dorm_49 : decode cX8_dorm 49 = .ok (.getfield 16, 3) := by decide +kernel
theorem dX8_dorm_52 : decode cX8_dorm 52 = .ok (.aload_n 2, 1) := by decide +kernel
theorem dX8_dorm_53 : decode cX8_dorm 53 = .ok (.putfield 89, 3) := by decide +kernel
theorem dX8_dorm_56 : decode cX8_dorm 56 = .ok (.aload_n 0, 1) := by decide +kernel
theorem dX8_dorm_57 : decode cX8_dorm 57 = .ok (.getfield 30, 3) := by decide +kernel
theorem dX8_dorm_60 : decode cX8_dorm 60 = .ok (.aload_n 0, 1) := by decide +kernel
theorem dX8_dorm_61 : decode cX8_dorm 61 = .ok (.getfield 23, 3) := by decide +kernel
theorem dX8_dorm_64 : decode cX8_dorm 64 = .ok (.invokevirtual 90, 3) := by decide +kernel
theorem dX8_dorm_67 : decode cX8_dorm 67 = .ok (.aload_n 0, 1) := by decide +kernel
theorem dX8_dorm_68 : decode cX8_dorm 68 = .ok (.getfield 40, 3) := by decide +kernel
theorem dX8_dorm_71 : decode cX8_dorm 71 = .ok (.invokevirtual 94, 3) := by decide +kernel
theorem dX8_dorm_74 : decode cX8_dorm 74 = .ok (.aload_n 0, 1) := by decide +kernel
theorem dX8_dorm_75 : decode cX8_dorm 75 = .ok (.iconst 0, 1) := by decide +kernel
theorem dX8_dorm_76 : decode cX8_dorm 76 = .ok (.putfield 97, 3) := by decide +kernel
theorem dX8_dorm_79 : decode cX8_dorm 79 = .ok (.aload_n 0, 1) := by decide +kernel
theorem dX8_dorm_80 : decode cX8_dorm 80 = .ok (.dup, 1) := by decide +kernel
theorem dX8_dorm_81 : decode cX8_dorm 81 = .ok (.getfield 101, 3) := by decide +kernel
theorem dX8_dorm_84 : decode cX8_dorm 84 = .ok (.iconst 1, 1) := by decide +kernel
theorem dX8_dorm_85 : decode cX8_dorm 85 = .ok (.iadd, 1) := by decide +kernel
theorem dX8_dorm_86 : decode cX8_dorm 86 = .ok (.putfield 101, 3) := by decide +kernel
theorem dX8_dorm_89 : decode cX8_dorm 89 = .ok (.aload_n 0, 1) := by decide +kernel
theorem dX8_dorm_90 : decode cX8_dorm 90 = .ok (.getfield 23, 3) := by decide +kernel
theorem dX8_dorm_93 : decode cX8_dorm 93 = .ok (.getfield 104, 3) := by decide +kernel
theorem dX8_dorm_96 : decode cX8_dorm 96 = .ok (.ireturn, 1) := by decide +kernel
theorem dX8_dream_0 : decode cX8_dream 0 = .ok (.aload_n 0, 1) := by decide +kernel
theorem dX8_dream_1 : decode cX8_dream 1 = .ok (.iload_n 1, 1) := by decide +kernel
theorem dX8_dream_2 : decode cX8_dream 2 = .ok (.invokevirtual 166, 3) := by decide +kernel
theorem dX8_dream_5 : decode cX8_dream 5 = .ok (.ifCond .ne 5, 3) := by decide +kernel
theorem dX8_dream_8 : decode cX8_dream 8 = .ok (.iconst (-1), 1) := by decide +kernel
theorem dX8_dream_9 : decode cX8_dream 9 = .ok (.ireturn, 1) := by decide +kernel
theorem dX8_dream_10 : decode cX8_dream 10 = .ok (.iload_n 2, 1) := by decide +kernel
theorem dX8_dream_11 : decode cX8_dream 11 = .ok (.tableswitch 79 0 4 #[33, 43, 53, 63, 73], 33) := by decide +kernel
theorem dX8_dream_44 : decode cX8_dream 44 = .ok (.aload_n 0, 1) := by decide +kernel
theorem dX8_dream_45 : decode cX8_dream 45 = .ok (.getfield 23, 3) := by decide +kernel
theorem dX8_dream_48 : decode cX8_dream 48 = .ok (.getfield 230, 3) := by decide +kernel
theorem dX8_dream_51 : decode cX8_dream 51 = .ok (.iload_n 1, 1) := by decide +kernel
theorem dX8_dream_52 : decode cX8_dream 52 = .ok (.iaload, 1) := by decide +kernel
theorem dX8_dream_53 : decode cX8_dream 53 = .ok (.ireturn, 1) := by decide +kernel
theorem dX8_dream_54 : decode cX8_dream 54 = .ok (.aload_n 0, 1) := by decide +kernel
theorem dX8_dream_55 : decode cX8_dream 55 = .ok (.getfield 23, 3) := by decide +kernel
theorem dX8_dream_58 : decode cX8_dream 58 = .ok (.getfield 233, 3) := by decide +kernel
theorem dX8_dream_61 : decode cX8_dream 61 = .ok (.iload_n 1, 1) := by decide +kernel
theorem dX8_dream_62 : decode cX8_dream 62 = .ok (.iaload, 1) := by decide +kernel
theorem dX8_dream_63 : decode cX8_dream 63 = .ok (.ireturn, 1) := by decide +kernel
theorem dX8_dream_64 : decode cX8_dream 64 = .ok (.aload_n 0, 1) := by decide +kernel
theorem dX8_dream_65 : decode cX8_dream 65 = .ok (.getfield 23, 3) := by decide +kernel
theorem dX8_dream_68 : decode cX8_dream 68 = .ok (.getfield 236, 3) := by decide +kernel
theorem dX8_dream_71 : decode cX8_dream 71 = .ok (.iload_n 1, 1) := by decide +kernel
theorem dX8_dream_72 : decode cX8_dream 72 = .ok (.iaload, 1) := by decide +kernel
theorem dX8_dream_73 : decode cX8_dream 73 = .ok (.ireturn, 1) := by decide +kernel
theorem dX8_dream_74 : decode cX8_dream 74 = .ok (.aload_n 0, 1) := by decide +kernel
theorem dX8_dream_75 : decode cX8_dream 75 = .ok (.getfield 23, 3) := by decide +kernel
theorem dX8_dream_78 : decode cX8_dream 78 = .ok (.getfield 239, 3) := by decide +kernel
theorem dX8_dream_81 : decode cX8_dream 81 = .ok (.iload_n 1, 1) := by decide +kernel
theorem dX8_dream_82 : decode cX8_dream 82 = .ok (.iaload, 1) := by decide +kernel
theorem dX8_dream_83 : decode cX8_dream 83 = .ok (.ireturn, 1) := by decide +kernel
theorem dX8_dream_84 : decode cX8_dream 84 = .ok (.aload_n 0, 1) := by decide +kernel
theorem dX8_dream_85 : decode cX8_dream 85 = .ok (.iload_n 1, 1) := by decide +kernel
theorem dX8_dream_86 : decode cX8_dream 86 = .ok (.invokevirtual 139, 3) := by decide +kernel
theorem dX8_dream_89 : decode cX8_dream 89 = .ok (.ireturn, 1) := by decide +kernel
theorem dX8_dream_90 : decode cX8_dream 90 = .ok (.iconst (-1), 1) := by decide +kernel
theorem dX8_dream_91 : decode cX8_dream 91 = .ok (.ireturn, 1) := by decide +kernel
theorem dX8_dreamers_0 : decode cX8_dreamers 0 = .ok (.iconst 0, 1) := by decide +kernel
theorem dX8_dreamers_1 : decode cX8_dreamers 1 = .ok (.istore_n 2, 1) := by decide +kernel
theorem dX8_dreamers_2 : decode cX8_dreamers 2 = .ok (.iconst 0, 1) := by decide +kernel
theorem dX8_dreamers_3 : decode cX8_dreamers 3 = .ok (.istore_n 3, 1) := by decide +kernel
theorem dX8_dreamers_4 : decode cX8_dreamers 4 = .ok (.iload_n 3, 1) := by decide +kernel
theorem dX8_dreamers_5 : decode cX8_dreamers 5 = .ok (.aload_n 0, 1) := by decide +kernel
theorem dX8_dreamers_6 : decode cX8_dreamers 6 = .ok (.getfield 23, 3) := by decide +kernel
theorem dX8_dreamers_9 : decode cX8_dreamers 9 = .ok (.getfield 113, 3) := by decide +kernel
theorem dX8_dreamers_12 : decode cX8_dreamers 12 = .ok (.if_icmp .ge 45, 3) := by decide +kernel
theorem dX8_dreamers_15 : decode cX8_dreamers 15 = .ok (.aload_n 0, 1) := by decide +kernel
theorem dX8_dreamers_16 : decode cX8_dreamers 16 = .ok (.getfield 30, 3) := by decide +kernel
theorem dX8_dreamers_19 : decode cX8_dreamers 19 = .ok (.getfield 194, 3) := by decide +kernel
theorem dX8_dreamers_22 : decode cX8_dreamers 22 = .ok (.iload_n 3, 1) := by decide +kernel
theorem dX8_dreamers_23 : decode cX8_dreamers 23 = .ok (.iaload, 1) := by decide +kernel
theorem dX8_dreamers_24 : decode cX8_dreamers 24 = .ok (.istore 4, 2) := by decide +kernel
theorem dX8_dreamers_26 : decode cX8_dreamers 26 = .ok (.iload_n 2, 1) := by decide +kernel
theorem dX8_dreamers_27 : decode cX8_dreamers 27 = .ok (.iload 4, 2) := by decide +kernel
theorem dX8_dreamers_29 : decode cX8_dreamers 29 = .ok (.iconst (-1), 1) := by decide +kernel
theorem dX8_dreamers_30 : decode cX8_dreamers 30 = .ok (.if_icmp .eq 18, 3) := by decide +kernel
theorem dX8_dreamers_33 : decode cX8_dreamers 33 = .ok (.iload_n 1, 1) := by decide +kernel
theorem dX8_dreamers_34 : decode cX8_dreamers 34 = .ok (.iconst (-1), 1) := by decide +kernel
theorem dX8_dreamers_35 : decode cX8_dreamers 35 = .ok (.if_icmp .eq 9, 3) := by decide +kernel
theorem dX8_dreamers_38 : decode cX8_dreamers 38 = .ok (.iload 4, 2) := by decide +kernel
theorem dX8_dreamers_40 : decode cX8_dreamers 40 = .ok (.iload_n 1, 1) := by decide +kernel
theorem dX8_dreamers_41 : decode cX8_dreamers 41 = .ok (.if_icmp .ne 7, 3) := by decide +kernel
theorem dX8_dreamers_44 : decode cX8_dreamers 44 = .ok (.iconst 1, 1) := by decide +kernel
theorem dX8_dreamers_45 : decode cX8_dreamers 45 = .ok (.goto 4, 3) := by decide +kernel
theorem dX8_dreamers_48 : decode cX8_dreamers 48 = .ok (.iconst 0, 1) := by decide +kernel
theorem dX8_dreamers_49 : decode cX8_dreamers 49 = .ok (.iadd, 1) := by decide +kernel
theorem dX8_dreamers_50 : decode cX8_dreamers 50 = .ok (.istore_n 2, 1) := by decide +kernel
theorem dX8_dreamers_51 : decode cX8_dreamers 51 = .ok (.iinc 3 1, 3) := by decide +kernel
theorem dX8_dreamers_54 : decode cX8_dreamers 54 = .ok (.goto (-50), 3) := by decide +kernel
theorem dX8_dreamers_57 : decode cX8_dreamers 57 = .ok (.iload_n 2, 1) := by decide +kernel
theorem dX8_dreamers_58 : decode cX8_dreamers 58 = .ok (.ireturn, 1) := by decide +kernel
theorem dX8_dreams_0 : decode cX8_dreams 0 = .ok (.aload_n 0, 1) := by decide +kernel
theorem dX8_dreams_1 : decode cX8_dreams 1 = .ok (.iload_n 1, 1) := by decide +kernel
theorem dX8_dreams_2 : decode cX8_dreams 2 = .ok (.invokevirtual 155, 3) := by decide +kernel
theorem dX8_dreams_5 : decode cX8_dreams 5 = .ok (.ifCond .eq 30, 3) := by decide +kernel
theorem dX8_dreams_8 : decode cX8_dreams 8 = .ok (.aload_n 0, 1) := by decide +kernel
theorem dX8_dreams_9 : decode cX8_dreams 9 = .ok (.iload_n 2, 1) := by decide +kernel
theorem dX8_dreams_10 : decode cX8_dreams 10 = .ok (.invokevirtual 166, 3) := by decide +kernel
theorem dX8_dreams_13 : decode cX8_dreams 13 = .ok (.ifCond .eq 22, 3) := by decide +kernel
theorem dX8_dreams_16 : decode cX8_dreams 16 = .ok (.aload_n 0, 1) := by decide +kernel
theorem dX8_dreams_17 : decode cX8_dreams 17 = .ok (.getfield 47, 3) := by decide +kernel
theorem dX8_dreams_20 : decode cX8_dreams 20 = .ok (.aload_n 0, 1) := by decide +kernel
theorem dX8_dreams_21 : decode cX8_dreams 21 = .ok (.getfield 23, 3) := by decide +kernel
theorem dX8_dreams_24 : decode cX8_dreams 24 = .ok (.aload_n 0, 1) := by decide +kernel
theorem dX8_dreams_25 : decode cX8_dreams 25 = .ok (.getfield 30, 3) := by decide +kernel
theorem dX8_dreams_28 : decode cX8_dreams 28 = .ok (.iload_n 1, 1) := by decide +kernel
theorem dX8_dreams_29 : decode cX8_dreams 29 = .ok (.invokevirtual 268, 3) := by decide +kernel
theorem dX8_dreams_32 : decode cX8_dreams 32 = .ok (.ifCond .ne 10, 3) := by decide +kernel
theorem dX8_dreams_35 : decode cX8_dreams 35 = .ok (.aload_n 0, 1) := by decide +kernel
theorem dX8_dreams_36 : decode cX8_dreams 36 = .ok (.iconst 2, 1) := by decide +kernel
theorem dX8_dreams_37 : decode cX8_dreams 37 = .ok (.invokevirtual 78, 3) := by decide +kernel
theorem dX8_dreams_40 : decode cX8_dreams 40 = .ok (.iconst (-1), 1) := by decide +kernel
theorem dX8_dreams_41 : decode cX8_dreams 41 = .ok (.ireturn, 1) := by decide +kernel
theorem dX8_dreams_42 : decode cX8_dreams 42 = .ok (.aload_n 0, 1) := by decide +kernel
theorem dX8_dreams_43 : decode cX8_dreams 43 = .ok (.invokevirtual 259, 3) := by decide +kernel
theorem dX8_dreams_46 : decode cX8_dreams 46 = .ok (.aload_n 0, 1) := by decide +kernel
theorem dX8_dreams_47 : decode cX8_dreams 47 = .ok (.getfield 47, 3) := by decide +kernel
theorem dX8_dreams_50 : decode cX8_dreams 50 = .ok (.aload_n 0, 1) := by decide +kernel
theorem dX8_dreams_51 : decode cX8_dreams 51 = .ok (.getfield 23, 3) := by decide +kernel
theorem dX8_dreams_54 : decode cX8_dreams 54 = .ok (.aload_n 0, 1) := by decide +kernel
theorem dX8_dreams_55 : decode cX8_dreams 55 = .ok (.getfield 30, 3) := by decide +kernel
theorem dX8_dreams_58 : decode cX8_dreams 58 = .ok (.iload_n 1, 1) := by decide +kernel
theorem dX8_dreams_59 : decode cX8_dreams 59 = .ok (.iload_n 2, 1) := by decide +kernel
theorem dX8_dreams_60 : decode cX8_dreams 60 = .ok (.iconst 0, 1) := by decide +kernel
theorem dX8_dreams_61 : decode cX8_dreams 61 = .ok (.invokevirtual 272, 3) := by decide +kernel
theorem dX8_dreams_64 : decode cX8_dreams 64 = .ok (.ireturn, 1) := by decide +kernel
theorem dX8_end_0 : decode cX8_end 0 = .ok (.iload_n 1, 1) := by decide +kernel
theorem dX8_end_1 : decode cX8_end 1 = .ok (.ifCond .lt 11, 3) := by decide +kernel
theorem dX8_end_4 : decode cX8_end 4 = .ok (.iload_n 1, 1) := by decide +kernel
theorem dX8_end_5 : decode cX8_end 5 = .ok (.aload_n 0, 1) := by decide +kernel
theorem dX8_end_6 : decode cX8_end 6 = .ok (.getfield 74, 3) := by decide +kernel
theorem dX8_end_9 : decode cX8_end 9 = .ok (.if_icmp .le 10, 3) := by decide +kernel
theorem dX8_end_12 : decode cX8_end 12 = .ok (.aload_n 0, 1) := by decide +kernel
theorem dX8_end_13 : decode cX8_end 13 = .ok (.iconst 0, 1) := by decide +kernel
theorem dX8_end_14 : decode cX8_end 14 = .ok (.invokevirtual 78, 3) := by decide +kernel
theorem dX8_end_17 : decode cX8_end 17 = .ok (.iconst 0, 1) := by decide +kernel
theorem dX8_end_18 : decode cX8_end 18 = .ok (.ireturn, 1) := by decide +kernel
theorem dX8_end_19 : decode cX8_end 19 = .ok (.aload_n 0, 1) := by decide +kernel
theorem dX8_end_20 : decode cX8_end 20 = .ok (.iload_n 1, 1) := by decide +kernel
theorem dX8_end_21 : decode cX8_end 21 = .ok (.putfield 74, 3) := by decide +kernel
theorem dX8_end_24 : decode cX8_end 24 = .ok (.iconst 1, 1) := by decide +kernel
theorem dX8_end_25 : decode cX8_end 25 = .ok (.ireturn, 1) := by decide +kernel
theorem dX8_exchange_0 : decode cX8_exchange 0 = .ok (.iload_n 1, 1) := by decide +kernel
theorem dX8_exchange_1 : decode cX8_exchange 1 = .ok (.iconst (-1), 1) := by decide +kernel
theorem dX8_exchange_2 : decode cX8_exchange 2 = .ok (.if_icmp .eq 17, 3) := by decide +kernel
theorem dX8_exchange_5 : decode cX8_exchange 5 = .ok (.iload_n 1, 1) := by decide +kernel
theorem dX8_exchange_6 : decode cX8_exchange 6 = .ok (.bipush 20, 2) := by decide +kernel
theorem dX8_exchange_8 : decode cX8_exchange 8 = .ok (.if_icmp .eq 11, 3) := by decide +kernel
theorem dX8_exchange_11 : decode cX8_exchange 11 = .ok (.aload_n 0, 1) := by decide +kernel
theorem dX8_exchange_12 : decode cX8_exchange 12 = .ok (.iload_n 1, 1) := by decide +kernel
theorem dX8_exchange_13 : decode cX8_exchange 13 = .ok (.invokevirtual 212, 3) := by decide +kernel
theorem dX8_exchange_16 : decode cX8_exchange 16 = .ok (.ifCond .eq 7, 3) := by decide +kernel
theorem dX8_exchange_19 : decode cX8_exchange 19 = .ok (.iconst 1, 1) := by decide +kernel
theorem dX8_exchange_20 : decode cX8_exchange 20 = .ok (.goto 4, 3) := by decide +kernel
theorem dX8_exchange_23 : decode cX8_exchange 23 = .ok (.iconst 0, 1) := by decide +kernel
theorem dX8_exchange_24 : decode cX8_exchange 24 = .ok (.istore_n 2, 1) := by decide +kernel
theorem dX8_exchange_25 : decode cX8_exchange 25 = .ok (.aload_n 0, 1) := by decide +kernel
theorem dX8_exchange_26 : decode cX8_exchange 26 = .ok (.getfield 30, 3) := by decide +kernel
theorem dX8_exchange_29 : decode cX8_exchange 29 = .ok (.getfield 135, 3) := by decide +kernel
theorem dX8_exchange_32 : decode cX8_exchange 32 = .ok (.iconst 1, 1) := by decide +kernel
theorem dX8_exchange_33 : decode cX8_exchange 33 = .ok (.if_icmp .lt 7, 3) := by decide +kernel
theorem dX8_exchange_36 : decode cX8_exchange 36 = .ok (.iload_n 2, 1) := by decide +kernel
theorem dX8_exchange_37 : decode cX8_exchange 37 = .ok (.ifCond .ne 5, 3) := by decide +kernel
theorem dX8_exchange_40 : decode cX8_exchange 40 = .ok (.iconst (-1), 1) := by decide +kernel
theorem dX8_exchange_41 : decode cX8_exchange 41 = .ok (.ireturn, 1) := by decide +kernel
theorem dX8_exchange_42 : decode cX8_exchange 42 = .ok (.aload_n 0, 1) := by decide +kernel
theorem dX8_exchange_43 : decode cX8_exchange 43 = .ok (.getfield 61, 3) := by decide +kernel
theorem dX8_exchange_46 : decode cX8_exchange 46 = .ok (.aload_n 0, 1) := by decide +kernel
theorem dX8_exchange_47 : decode cX8_exchange 47 = .ok (.getfield 23, 3) := by decide +kernel
theorem dX8_exchange_50 : decode cX8_exchange 50 = .ok (.aload_n 0, 1) := by decide +kernel
theorem dX8_exchange_51 : decode cX8_exchange 51 = .ok (.getfield 30, 3) := by decide +kernel
theorem dX8_exchange_54 : decode cX8_exchange 54 = .ok (.aload_n 0, 1) := by decide +kernel
theorem dX8_exchange_55 : decode cX8_exchange 55 = .ok (.getfield 101, 3) := by decide +kernel
theorem dX8_exchange_58 : decode cX8_exchange 58 = .ok (.invokevirtual 310, 3) := by decide +kernel
theorem dX8_exchange_61 : decode cX8_exchange 61 = .ok (.iload_n 1, 1) := by decide +kernel
theorem dX8_exchange_62 : decode cX8_exchange 62 = .ok (.iconst (-1), 1) := by decide +kernel
theorem dX8_exchange_63 : decode cX8_exchange 63 = .ok (.if_icmp .ne 11, 3) := by decide +kernel
theorem dX8_exchange_66 : decode cX8_exchange 66 = .ok (.aload_n 0, 1) := by decide +kernel
theorem dX8_exchange_67 : decode cX8_exchange 67 = .ok (.getfield 61, 3) := by decide +kernel
theorem dX8_exchange_70 : decode cX8_exchange 70 = .ok (.getfield 313, 3) := by decide +kernel
theorem dX8_exchange_73 : decode cX8_exchange 73 = .ok (.ireturn, 1) := by decide +kernel
theorem dX8_exchange_74 : decode cX8_exchange 74 = .ok (.aload_n 0, 1) := by decide +kernel
theorem dX8_exchange_75 : decode cX8_exchange 75 = .ok (.iload_n 1, 1) := by decide +kernel
theorem dX8_exchange_76 : decode cX8_exchange 76 = .ok (.invokevirtual 212, 3) := by decide +kernel
theorem dX8_exchange_79 : decode cX8_exchange 79 = .ok (.ifCond .eq 15, 3) := by decide +kernel
theorem dX8_exchange_82 : decode cX8_exchange 82 = .ok (.aload_n 0, 1) := by decide +kernel
theorem dX8_exchange_83 : decode cX8_exchange 83 = .ok (.getfield 61, 3) := by decide +kernel
theorem dX8_exchange_86 : decode cX8_exchange 86 = .ok (.getfield 316, 3) := by decide +kernel
theorem dX8_exchange_89 : decode cX8_exchange 89 = .ok (.iload_n 1, 1) := by decide +kernel
theorem dX8_exchange_90 : decode cX8_exchange 90 = .ok (.iaload, 1) := by decide +kernel
theorem dX8_exchange_91 : decode cX8_exchange 91 = .ok (.goto 10, 3) := by decide +kernel
theorem dX8_exchange_94 : decode cX8_exchange 94 = .ok (.aload_n 0, 1) := by decide +kernel
theorem dX8_exchange_95 : decode cX8_exchange 95 = .ok (.getfield 61, 3) := by decide +kernel
theorem dX8_exchange_98 : decode cX8_exchange 98 = .ok (.getfield 319, 3) := by decide +kernel
theorem dX8_exchange_101 : decode cX8_exchange 101 = .ok (.ireturn, 1) := by decide +kernel
theorem dX8_fault_0 : decode cX8_fault 0 = .ok (.iload_n 1, 1) := by decide +kernel
theorem dX8_fault_1 : decode cX8_fault 1 = .ok (.lookupswitch 43 #[(0, 27), (1, 35)], 27) := by decide +kernel
theorem dX8_fault_28 : decode cX8_fault 28 = .ok (.aload_n 0, 1) := by decide +kernel
theorem dX8_fault_29 : decode cX8_fault 29 = .ok (.getfield 16, 3) := by decide +kernel
theorem dX8_fault_32 : decode cX8_fault 32 = .ok (.getfield 107, 3) := by decide +kernel
theorem dX8_fault_35 : decode cX8_fault 35 = .ok (.ireturn, 1) := by decide +kernel
theorem dX8_fault_36 : decode cX8_fault 36 = .ok (.aload_n 0, 1) := by decide +kernel
theorem dX8_fault_37 : decode cX8_fault 37 = .ok (.getfield 16, 3) := by decide +kernel
theorem dX8_fault_40 : decode cX8_fault 40 = .ok (.getfield 110, 3) := by decide +kernel
theorem dX8_fault_43 : decode cX8_fault 43 = .ok (.ireturn, 1) := by decide +kernel
theorem dX8_fault_44 : decode cX8_fault 44 = .ok (.iconst (-1), 1) := by decide +kernel
theorem dX8_fault_45 : decode cX8_fault 45 = .ok (.ireturn, 1) := by decide +kernel
theorem dX8_feed_0 : decode cX8_feed 0 = .ok (.aload_n 0, 1) := by decide +kernel
theorem dX8_feed_1 : decode cX8_feed 1 = .ok (.getfield 74, 3) := by decide +kernel
theorem dX8_feed_4 : decode cX8_feed 4 = .ok (.bipush 20, 2) := by decide +kernel
theorem dX8_feed_6 : decode cX8_feed 6 = .ok (.iadd, 1) := by decide +kernel
theorem dX8_feed_7 : decode cX8_feed 7 = .ok (.sipush 1600, 3) := by decide +kernel
theorem dX8_feed_10 : decode cX8_feed 10 = .ok (.if_icmp .le 10, 3) := by decide +kernel
theorem dX8_feed_13 : decode cX8_feed 13 = .ok (.aload_n 0, 1) := by decide +kernel
theorem dX8_feed_14 : decode cX8_feed 14 = .ok (.iconst 0, 1) := by decide +kernel
theorem dX8_feed_15 : decode cX8_feed 15 = .ok (.invokevirtual 78, 3) := by decide +kernel
theorem dX8_feed_18 : decode cX8_feed 18 = .ok (.iconst (-1), 1) := by decide +kernel
theorem dX8_feed_19 : decode cX8_feed 19 = .ok (.ireturn, 1) := by decide +kernel
theorem dX8_feed_20 : decode cX8_feed 20 = .ok (.aload_n 0, 1) := by decide +kernel
theorem dX8_feed_21 : decode cX8_feed 21 = .ok (.iload_n 1, 1) := by decide +kernel
theorem dX8_feed_22 : decode cX8_feed 22 = .ok (.invokevirtual 82, 3) := by decide +kernel
theorem dX8_feed_25 : decode cX8_feed 25 = .ok (.aload_n 0, 1) := by decide +kernel
theorem dX8_feed_26 : decode cX8_feed 26 = .ok (.iload_n 2, 1) := by decide +kernel
theorem dX8_feed_27 : decode cX8_feed 27 = .ok (.invokevirtual 82, 3) := by decide +kernel
theorem dX8_feed_30 : decode cX8_feed 30 = .ok (.aload_n 0, 1) := by decide +kernel
theorem dX8_feed_31 : decode cX8_feed 31 = .ok (.iload_n 3, 1) := by decide +kernel
theorem dX8_feed_32 : decode cX8_feed 32 = .ok (.invokevirtual 82, 3) := by decide +kernel
theorem dX8_feed_35 : decode cX8_feed 35 = .ok (.aload_n 0, 1) := by decide +kernel
theorem dX8_feed_36 : decode cX8_feed 36 = .ok (.iload 4, 2) := by decide +kernel
theorem dX8_feed_38 : decode cX8_feed 38 = .ok (.invokevirtual 82, 3) := by decide +kernel
theorem dX8_feed_41 : decode cX8_feed 41 = .ok (.aload_n 0, 1) := by decide +kernel
theorem dX8_feed_42 : decode cX8_feed 42 = .ok (.iload 5, 2) := by decide +kernel
theorem dX8_feed_44 : decode cX8_feed 44 = .ok (.invokevirtual 82, 3) := by decide +kernel
theorem dX8_feed_47 : decode cX8_feed 47 = .ok (.aload_n 0, 1) := by decide +kernel
theorem dX8_feed_48 : decode cX8_feed 48 = .ok (.getfield 74, 3) := by decide +kernel
theorem dX8_feed_51 : decode cX8_feed 51 = .ok (.ireturn, 1) := by decide +kernel
theorem dX8_feels_0 : decode cX8_feels 0 = .ok (.aload_n 0, 1) := by decide +kernel
theorem dX8_feels_1 : decode cX8_feels 1 = .ok (.iload_n 1, 1) := by decide +kernel
theorem dX8_feels_2 : decode cX8_feels 2 = .ok (.invokevirtual 212, 3) := by decide +kernel
theorem dX8_feels_5 : decode cX8_feels 5 = .ok (.ifCond .eq 23, 3) := by decide +kernel
theorem dX8_feels_8 : decode cX8_feels 8 = .ok (.aload_n 0, 1) := by decide +kernel
theorem dX8_feels_9 : decode cX8_feels 9 = .ok (.iload_n 3, 1) := by decide +kernel
theorem dX8_feels_10 : decode cX8_feels 10 = .ok (.invokevirtual 212, 3) := by decide +kernel
theorem dX8_feels_13 : decode cX8_feels 13 = .ok (.ifCond .eq 15, 3) := by decide +kernel
theorem dX8_feels_16 : decode cX8_feels 16 = .ok (.iload_n 1, 1) := by decide +kernel
theorem dX8_feels_17 : decode cX8_feels 17 = .ok (.iload_n 3, 1) := by decide +kernel
theorem dX8_feels_18 : decode cX8_feels 18 = .ok (.if_icmp .eq 10, 3) := by decide +kernel
theorem dX8_feels_21 : decode cX8_feels 21 = .ok (.iload_n 2, 1) := by decide +kernel
theorem dX8_feels_22 : decode cX8_feels 22 = .ok (.invokestatic 245, 3) := by decide +kernel
theorem dX8_feels_25 : decode cX8_feels 25 = .ok (.ifCond .ne 5, 3) := by decide +kernel
theorem dX8_feels_28 : decode cX8_feels 28 = .ok (.iconst (-1), 1) := by decide +kernel
theorem dX8_feels_29 : decode cX8_feels 29 = .ok (.ireturn, 1) := by decide +kernel
theorem dX8_feels_30 : decode cX8_feels 30 = .ok (.aload_n 0, 1) := by decide +kernel
theorem dX8_feels_31 : decode cX8_feels 31 = .ok (.getfield 54, 3) := by decide +kernel
theorem dX8_feels_34 : decode cX8_feels 34 = .ok (.aload_n 0, 1) := by decide +kernel
theorem dX8_feels_35 : decode cX8_feels 35 = .ok (.getfield 23, 3) := by decide +kernel
theorem dX8_feels_38 : decode cX8_feels 38 = .ok (.aload_n 0, 1) := by decide +kernel
theorem dX8_feels_39 : decode cX8_feels 39 = .ok (.getfield 30, 3) := by decide +kernel
theorem dX8_feels_42 : decode cX8_feels 42 = .ok (.iload_n 1, 1) := by decide +kernel
theorem dX8_feels_43 : decode cX8_feels 43 = .ok (.iload_n 2, 1) := by decide +kernel
theorem dX8_feels_44 : decode cX8_feels 44 = .ok (.invokevirtual 287, 3) := by decide +kernel
theorem dX8_feels_47 : decode cX8_feels 47 = .ok (.aload_n 0, 1) := by decide +kernel
theorem dX8_feels_48 : decode cX8_feels 48 = .ok (.getfield 54, 3) := by decide +kernel
theorem dX8_feels_51 : decode cX8_feels 51 = .ok (.getfield 290, 3) := by decide +kernel
theorem dX8_feels_54 : decode cX8_feels 54 = .ok (.iload_n 3, 1) := by decide +kernel
theorem dX8_feels_55 : decode cX8_feels 55 = .ok (.iaload, 1) := by decide +kernel
theorem dX8_feels_56 : decode cX8_feels 56 = .ok (.ireturn, 1) := by decide +kernel
theorem dX8_go_0 : decode cX8_go 0 = .ok (.iload_n 1, 1) := by decide +kernel
theorem dX8_go_1 : decode cX8_go 1 = .ok (.iconst 1, 1) := by decide +kernel
theorem dX8_go_2 : decode cX8_go 2 = .ok (.if_icmp .lt 32, 3) := by decide +kernel
theorem dX8_go_5 : decode cX8_go 5 = .ok (.iload_n 1, 1) := by decide +kernel
theorem dX8_go_6 : decode cX8_go 6 = .ok (.bipush 99, 2) := by decide +kernel
theorem dX8_go_8 : decode cX8_go 8 = .ok (.if_icmp .gt 26, 3) := by decide +kernel
theorem dX8_go_11 : decode cX8_go 11 = .ok (.aload_n 0, 1) := by decide +kernel
theorem dX8_go_12 : decode cX8_go 12 = .ok (.getfield 30, 3) := by decide +kernel
theorem dX8_go_15 : decode cX8_go 15 = .ok (.getfield 135, 3) := by decide +kernel
theorem dX8_go_18 : decode cX8_go 18 = .ok (.ifCond .eq 16, 3) := by decide +kernel
theorem dX8_go_21 : decode cX8_go 21 = .ok (.aload_n 0, 1) := by decide +kernel
theorem dX8_go_22 : decode cX8_go 22 = .ok (.getfield 30, 3) := by decide +kernel
theorem dX8_go_25 : decode cX8_go 25 = .ok (.getfield 132, 3) := by decide +kernel
theorem dX8_go_28 : decode cX8_go 28 = .ok (.sipush 999, 3) := by decide +kernel
theorem dX8_go_31 : decode cX8_go 31 = .ok (.if_icmp .lt 10, 3) := by decide +kernel
theorem dX8_go_34 : decode cX8_go 34 = .ok (.aload_n 0, 1) := by decide +kernel
theorem dX8_go_35 : decode cX8_go 35 = .ok (.iconst 2, 1) := by decide +kernel
theorem dX8_go_36 : decode cX8_go 36 = .ok (.invokevirtual 78, 3) := by decide +kernel
theorem dX8_go_39 : decode cX8_go 39 = .ok (.iconst (-1), 1) := by decide +kernel
theorem dX8_go_40 : decode cX8_go 40 = .ok (.ireturn, 1) := by decide +kernel
theorem dX8_go_41 : decode cX8_go 41 = .ok (.aload_n 0, 1) := by decide +kernel
theorem dX8_go_42 : decode cX8_go 42 = .ok (.invokevirtual 259, 3) := by decide +kernel
theorem dX8_go_45 : decode cX8_go 45 = .ok (.aload_n 0, 1) := by decide +kernel
theorem dX8_go_46 : decode cX8_go 46 = .ok (.getfield 30, 3) := by decide +kernel
theorem dX8_go_49 : decode cX8_go 49 = .ok (.getfield 262, 3) := by decide +kernel
theorem dX8_go_52 : decode cX8_go 52 = .ok (.istore_n 2, 1) := by decide +kernel
theorem dX8_go_53 : decode cX8_go 53 = .ok (.iconst 0, 1) := by decide +kernel
theorem dX8_go_54 : decode cX8_go 54 = .ok (.istore_n 3, 1) := by decide +kernel
theorem dX8_go_55 : decode cX8_go 55 = .ok (.iload_n 3, 1) := by decide +kernel
theorem dX8_go_56 : decode cX8_go 56 = .ok (.iload_n 1, 1) := by decide +kernel
theorem dX8_go_57 : decode cX8_go 57 = .ok (.if_icmp .ge 37, 3) := by decide +kernel
theorem dX8_go_60 : decode cX8_go 60 = .ok (.aload_n 0, 1) := by decide +kernel
theorem dX8_go_61 : decode cX8_go 61 = .ok (.getfield 30, 3) := by decide +kernel
theorem dX8_go_64 : decode cX8_go 64 = .ok (.getfield 132, 3) := by decide +kernel
theorem dX8_go_67 : decode cX8_go 67 = .ok (.sipush 999, 3) := by decide +kernel
theorem dX8_go_70 : decode cX8_go 70 = .ok (.if_icmp .ge 24, 3) := by decide +kernel
theorem dX8_go_73 : decode cX8_go 73 = .ok (.aload_n 0, 1) := by decide +kernel
theorem dX8_go_74 : decode cX8_go 74 = .ok (.getfield 47, 3) := by decide +kernel
theorem dX8_go_77 : decode cX8_go 77 = .ok (.aload_n 0, 1) := by decide +kernel
theorem dX8_go_78 : decode cX8_go 78 = .ok (.getfield 23, 3) := by decide +kernel
theorem dX8_go_81 : decode cX8_go 81 = .ok (.aload_n 0, 1) := by decide +kernel
theorem dX8_go_82 : decode cX8_go 82 = .ok (.getfield 30, 3) := by decide +kernel
theorem dX8_go_85 : decode cX8_go 85 = .ok (.invokevirtual 265, 3) := by decide +kernel
theorem dX8_go_88 : decode cX8_go 88 = .ok (.iinc 3 1, 3) := by decide +kernel
theorem dX8_go_91 : decode cX8_go 91 = .ok (.goto (-36), 3) := by decide +kernel
theorem dX8_go_94 : decode cX8_go 94 = .ok (.aload_n 0, 1) := by decide +kernel
theorem dX8_go_95 : decode cX8_go 95 = .ok (.getfield 30, 3) := by decide +kernel
theorem dX8_go_98 : decode cX8_go 98 = .ok (.getfield 262, 3) := by decide +kernel
theorem dX8_go_101 : decode cX8_go 101 = .ok (.iload_n 2, 1) := by decide +kernel
theorem dX8_go_102 : decode cX8_go 102 = .ok (.isub, 1) := by decide +kernel
theorem dX8_go_103 : decode cX8_go 103 = .ok (.ireturn, 1) := by decide +kernel
theorem dX8_has_0 : decode cX8_has 0 = .ok (.iload_n 1, 1) := by decide +kernel
theorem dX8_has_1 : decode cX8_has 1 = .ok (.tableswitch 167 0 11 #[63, 71, 79, 90, 95, 103, 119, 125, 130, 138, 146, 159], 63) := by decide +kernel
theorem dX8_has_64 : decode cX8_has 64 = .ok (.aload_n 0, 1) := by decide +kernel
theorem dX8_has_65 : decode cX8_has 65 = .ok (.getfield 23, 3) := by decide +kernel
theorem dX8_has_68 : decode cX8_has 68 = .ok (.getfield 113, 3) := by decide +kernel
theorem dX8_has_71 : decode cX8_has 71 = .ok (.ireturn, 1) := by decide +kernel
theorem dX8_has_72 : decode cX8_has 72 = .ok (.aload_n 0, 1) := by decide +kernel
theorem dX8_has_73 : decode cX8_has 73 = .ok (.getfield 23, 3) := by decide +kernel
theorem dX8_has_76 : decode cX8_has 76 = .ok (.getfield 116, 3) := by decide +kernel
theorem dX8_has_79 : decode cX8_has 79 = .ok (.ireturn, 1) := by decide +kernel
theorem dX8_has_80 : decode cX8_has 80 = .ok (.aload_n 0, 1) := by decide +kernel
theorem dX8_has_81 : decode cX8_has 81 = .ok (.getfield 23, 3) := by decide +kernel
theorem dX8_has_84 : decode cX8_has 84 = .ok (.getfield 119, 3) := by decide +kernel
theorem dX8_has_87 : decode cX8_has 87 = .ok (.getfield 123, 3) := by decide +kernel
theorem dX8_has_90 : decode cX8_has 90 = .ok (.ireturn, 1) := by decide +kernel
theorem dX8_has_91 : decode cX8_has 91 = .ok (.aload_n 0, 1) := by decide +kernel
theorem dX8_has_92 : decode cX8_has 92 = .ok (.invokevirtual 128, 3) := by decide +kernel
theorem dX8_has_95 : decode cX8_has 95 = .ok (.ireturn, 1) := by decide +kernel
theorem dX8_has_96 : decode cX8_has 96 = .ok (.aload_n 0, 1) := by decide +kernel
theorem dX8_has_97 : decode cX8_has 97 = .ok (.getfield 30, 3) := by decide +kernel
theorem dX8_has_100 : decode cX8_has 100 = .ok (.getfield 132, 3) := by decide +kernel
theorem dX8_has_103 : decode cX8_has 103 = .ok (.ireturn, 1) := by decide +kernel
theorem dX8_has_104 : decode cX8_has 104 = .ok (.aload_n 0, 1) := by decide +kernel
theorem dX8_has_105 : decode cX8_has 105 = .ok (.getfield 30, 3) := by decide +kernel
theorem dX8_has_108 : decode cX8_has 108 = .ok (.getfield 135, 3) := by decide +kernel
theorem dX8_has_111 : decode cX8_has 111 = .ok (.aload_n 0, 1) := by decide +kernel
theorem dX8_has_112 : decode cX8_has 112 = .ok (.getfield 30, 3) := by decide +kernel
theorem dX8_has_115 : decode cX8_has 115 = .ok (.invokevirtual 136, 3) := by decide +kernel
theorem dX8_has_118 : decode cX8_has 118 = .ok (.isub, 1) := by decide +kernel
theorem dX8_has_119 : decode cX8_has 119 = .ok (.ireturn, 1) := by decide +kernel
theorem dX8_has_120 : decode cX8_has 120 = .ok (.aload_n 0, 1) := by decide +kernel
theorem dX8_has_121 : decode cX8_has 121 = .ok (.iconst (-1), 1) := by decide +kernel
theorem dX8_has_122 : decode cX8_has 122 = .ok (.invokevirtual 139, 3) := by decide +kernel
theorem dX8_has_125 : decode cX8_has 125 = .ok (.ireturn, 1) := by decide +kernel
theorem dX8_has_126 : decode cX8_has 126 = .ok (.aload_n 0, 1) := by decide +kernel
theorem dX8_has_127 : decode cX8_has 127 = .ok (.invokevirtual 143, 3) := by decide +kernel
theorem dX8_has_130 : decode cX8_has 130 = .ok (.ireturn, 1) := by decide +kernel
theorem dX8_has_131 : decode cX8_has 131 = .ok (.aload_n 0, 1) := by decide +kernel
theorem dX8_has_132 : decode cX8_has 132 = .ok (.getfield 30, 3) := by decide +kernel
theorem dX8_has_135 : decode cX8_has 135 = .ok (.invokevirtual 146, 3) := by decide +kernel
theorem dX8_has_138 : decode cX8_has 138 = .ok (.ireturn, 1) := by decide +kernel
theorem dX8_has_139 : decode cX8_has 139 = .ok (.aload_n 0, 1) := by decide +kernel
theorem dX8_has_140 : decode cX8_has 140 = .ok (.getfield 40, 3) := by decide +kernel
theorem dX8_has_143 : decode cX8_has 143 = .ok (.getfield 149, 3) := by decide +kernel
theorem dX8_has_146 : decode cX8_has 146 = .ok (.ireturn, 1) := by decide +kernel
theorem dX8_has_147 : decode cX8_has 147 = .ok (.aload_n 0, 1) := by decide +kernel
theorem dX8_has_148 : decode cX8_has 148 = .ok (.getfield 23, 3) := by decide +kernel
theorem dX8_has_151 : decode cX8_has 151 = .ok (.getfield 113, 3) := by decide +kernel
theorem dX8_has_154 : decode cX8_has 154 = .ok (.aload_n 0, 1) := by decide +kernel
theorem dX8_has_155 : decode cX8_has 155 = .ok (.invokevirtual 128, 3) := by decide +kernel
theorem dX8_has_158 : decode cX8_has 158 = .ok (.isub, 1) := by decide +kernel
theorem dX8_has_159 : decode cX8_has 159 = .ok (.ireturn, 1) := by decide +kernel
theorem dX8_has_160 : decode cX8_has 160 = .ok (.aload_n 0, 1) := by decide +kernel
theorem dX8_has_161 : decode cX8_has 161 = .ok (.getfield 47, 3) := by decide +kernel
theorem dX8_has_164 : decode cX8_has 164 = .ok (.getfield 152, 3) := by decide +kernel
theorem dX8_has_167 : decode cX8_has 167 = .ok (.ireturn, 1) := by decide +kernel
theorem dX8_has_168 : decode cX8_has 168 = .ok (.iconst (-1), 1) := by decide +kernel
theorem dX8_has_169 : decode cX8_has 169 = .ok (.ireturn, 1) := by decide +kernel
theorem dX8_hear_0 : decode cX8_hear 0 = .ok (.aload_n 0, 1) := by decide +kernel
theorem dX8_hear_1 : decode cX8_hear 1 = .ok (.getfield 74, 3) := by decide +kernel
theorem dX8_hear_4 : decode cX8_hear 4 = .ok (.istore_n 1, 1) := by decide +kernel
theorem dX8_hear_5 : decode cX8_hear 5 = .ok (.aload_n 0, 1) := by decide +kernel
theorem dX8_hear_6 : decode cX8_hear 6 = .ok (.iconst 0, 1) := by decide +kernel
theorem dX8_hear_7 : decode cX8_hear 7 = .ok (.putfield 74, 3) := by decide +kernel
theorem dX8_hear_10 : decode cX8_hear 10 = .ok (.aload_n 0, 1) := by decide +kernel
theorem dX8_hear_11 : decode cX8_hear 11 = .ok (.getfield 30, 3) := by decide +kernel
theorem dX8_hear_14 : decode cX8_hear 14 = .ok (.getfield 135, 3) := by decide +kernel
theorem dX8_hear_17 : decode cX8_hear 17 = .ok (.iconst 1, 1) := by decide +kernel
theorem dX8_hear_18 : decode cX8_hear 18 = .ok (.if_icmp .lt 16, 3) := by decide +kernel
theorem dX8_hear_21 : decode cX8_hear 21 = .ok (.iload_n 1, 1) := by decide +kernel
theorem dX8_hear_22 : decode cX8_hear 22 = .ok (.iconst 2, 1) := by decide +kernel
theorem dX8_hear_23 : decode cX8_hear 23 = .ok (.aload_n 0, 1) := by decide +kernel
theorem dX8_hear_24 : decode cX8_hear 24 = .ok (.getfield 30, 3) := by decide +kernel
theorem dX8_hear_27 : decode cX8_hear 27 = .ok (.getfield 135, 3) := by decide +kernel
theorem dX8_hear_30 : decode cX8_hear 30 = .ok (.imul, 1) := by decide +kernel
theorem dX8_hear_31 : decode cX8_hear 31 = .ok (.if_icmp .eq 10, 3) := by decide +kernel
theorem dX8_hear_34 : decode cX8_hear 34 = .ok (.aload_n 0, 1) := by decide +kernel
theorem dX8_hear_35 : decode cX8_hear 35 = .ok (.iconst 1, 1) := by decide +kernel
theorem dX8_hear_36 : decode cX8_hear 36 = .ok (.invokevirtual 78, 3) := by decide +kernel
theorem dX8_hear_39 : decode cX8_hear 39 = .ok (.iconst 0, 1) := by decide +kernel
theorem dX8_hear_40 : decode cX8_hear 40 = .ok (.ireturn, 1) := by decide +kernel
theorem dX8_hear_41 : decode cX8_hear 41 = .ok (.iconst 0, 1) := by decide +kernel
theorem dX8_hear_42 : decode cX8_hear 42 = .ok (.istore_n 2, 1) := by decide +kernel
theorem dX8_hear_43 : decode cX8_hear 43 = .ok (.iload_n 2, 1) := by decide +kernel
theorem dX8_hear_44 : decode cX8_hear 44 = .ok (.aload_n 0, 1) := by decide +kernel
theorem dX8_hear_45 : decode cX8_hear 45 = .ok (.getfield 30, 3) := by decide +kernel
theorem dX8_hear_48 : decode cX8_hear 48 = .ok (.getfield 135, 3) := by decide +kernel
theorem dX8_hear_51 : decode cX8_hear 51 = .ok (.if_icmp .ge 22, 3) := by decide +kernel
theorem dX8_hear_54 : decode cX8_hear 54 = .ok (.aload_n 0, 1) := by decide +kernel
theorem dX8_hear_55 : decode cX8_hear 55 = .ok (.getfield 65, 3) := by decide +kernel
theorem dX8_hear_58 : decode cX8_hear 58 = .ok (.iload_n 2, 1) := by decide +kernel
theorem dX8_hear_59 : decode cX8_hear 59 = .ok (.aload_n 0, 1) := by decide +kernel
theorem dX8_hear_60 : decode cX8_hear 60 = .ok (.iconst 2, 1) := by decide +kernel
theorem dX8_hear_61 : decode cX8_hear 61 = .ok (.iload_n 2, 1) := by decide +kernel
theorem dX8_hear_62 : decode cX8_hear 62 = .ok (.imul, 1) := by decide +kernel
theorem dX8_hear_63 : decode cX8_hear 63 = .ok (.invokevirtual 337, 3) := by decide +kernel
theorem dX8_hear_66 : decode cX8_hear 66 = .ok (.iastore, 1) := by decide +kernel
theorem dX8_hear_67 : decode cX8_hear 67 = .ok (.iinc 2 1, 3) := by decide +kernel
theorem dX8_hear_70 : decode cX8_hear 70 = .ok (.goto (-27), 3) := by decide +kernel
theorem dX8_hear_73 : decode cX8_hear 73 = .ok (.aload_n 0, 1) := by decide +kernel
theorem dX8_hear_74 : decode cX8_hear 74 = .ok (.iconst 1, 1) := by decide +kernel
theorem dX8_hear_75 : decode cX8_hear 75 = .ok (.putfield 97, 3) := by decide +kernel
theorem dX8_hear_78 : decode cX8_hear 78 = .ok (.iconst 1, 1) := by decide +kernel
theorem dX8_hear_79 : decode cX8_hear 79 = .ok (.ireturn, 1) := by decide +kernel
theorem dX8_heaviestPiece_0 : decode cX8_heaviestPiece 0 = .ok (.iconst 0, 1) := by decide +kernel
theorem dX8_heaviestPiece_1 : decode cX8_heaviestPiece 1 = .ok (.istore_n 2, 1) := by decide +kernel
theorem dX8_heaviestPiece_2 : decode cX8_heaviestPiece 2 = .ok (.iconst 0, 1) := by decide +kernel
theorem dX8_heaviestPiece_3 : decode cX8_heaviestPiece 3 = .ok (.istore_n 3, 1) := by decide +kernel
theorem dX8_heaviestPiece_4 : decode cX8_heaviestPiece 4 = .ok (.iconst 0, 1) := by decide +kernel
theorem dX8_heaviestPiece_5 : decode cX8_heaviestPiece 5 = .ok (.istore 4, 2) := by decide +kernel
theorem dX8_heaviestPiece_7 : decode cX8_heaviestPiece 7 = .ok (.iload 4, 2) := by decide +kernel
theorem dX8_heaviestPiece_9 : decode cX8_heaviestPiece 9 = .ok (.aload_n 0, 1) := by decide +kernel
theorem dX8_heaviestPiece_10 : decode cX8_heaviestPiece 10 = .ok (.getfield 30, 3) := by decide +kernel
theorem dX8_heaviestPiece_13 : decode cX8_heaviestPiece 13 = .ok (.getfield 135, 3) := by decide +kernel
theorem dX8_heaviestPiece_16 : decode cX8_heaviestPiece 16 = .ok (.if_icmp .ge 83, 3) := by decide +kernel
theorem dX8_heaviestPiece_19 : decode cX8_heaviestPiece 19 = .ok (.iload 4, 2) := by decide +kernel
theorem dX8_heaviestPiece_21 : decode cX8_heaviestPiece 21 = .ok (.ifCond .le 33, 3) := by decide +kernel
theorem dX8_heaviestPiece_24 : decode cX8_heaviestPiece 24 = .ok (.aload_n 0, 1) := by decide +kernel
theorem dX8_heaviestPiece_25 : decode cX8_heaviestPiece 25 = .ok (.getfield 30, 3) := by decide +kernel
theorem dX8_heaviestPiece_28 : decode cX8_heaviestPiece 28 = .ok (.getfield 221, 3) := by decide +kernel
theorem dX8_heaviestPiece_31 : decode cX8_heaviestPiece 31 = .ok (.iload 4, 2) := by decide +kernel
theorem dX8_heaviestPiece_33 : decode cX8_heaviestPiece 33 = .ok (.iconst 1, 1) := by decide +kernel
theorem dX8_heaviestPiece_34 : decode cX8_heaviestPiece 34 = .ok (.isub, 1) := by decide +kernel
theorem dX8_heaviestPiece_35 : decode cX8_heaviestPiece 35 = .ok (.baload, 1) := by decide +kernel
theorem dX8_heaviestPiece_36 : decode cX8_heaviestPiece 36 = .ok (.ifCond .eq 18, 3) := by decide +kernel
theorem dX8_heaviestPiece_39 : decode cX8_heaviestPiece 39 = .ok (.iload_n 1, 1) := by decide +kernel
theorem dX8_heaviestPiece_40 : decode cX8_heaviestPiece 40 = .ok (.iload 4, 2) := by decide +kernel
theorem dX8_heaviestPiece_42 : decode cX8_heaviestPiece 42 = .ok (.iconst 1, 1) := by decide +kernel
theorem dX8_heaviestPiece_43 : decode cX8_heaviestPiece 43 = .ok (.isub, 1) := by decide +kernel
theorem dX8_heaviestPiece_44 : decode cX8_heaviestPiece 44 = .ok (.invokestatic 398, 3) := by decide +kernel
theorem dX8_heaviestPiece_47 : decode cX8_heaviestPiece 47 = .ok (.ifCond .ne 7, 3) := by decide +kernel
theorem dX8_heaviestPiece_50 : decode cX8_heaviestPiece 50 = .ok (.iconst 1, 1) := by decide +kernel
theorem dX8_heaviestPiece_51 : decode cX8_heaviestPiece 51 = .ok (.goto 4, 3) := by decide +kernel
theorem dX8_heaviestPiece_54 : decode cX8_heaviestPiece 54 = .ok (.iconst 0, 1) := by decide +kernel
theorem dX8_heaviestPiece_55 : decode cX8_heaviestPiece 55 = .ok (.istore 5, 2) := by decide +kernel
theorem dX8_heaviestPiece_57 : decode cX8_heaviestPiece 57 = .ok (.aload_n 0, 1) := by decide +kernel
theorem dX8_heaviestPiece_58 : decode cX8_heaviestPiece 58 = .ok (.getfield 23, 3) := by decide +kernel
theorem dX8_heaviestPiece_61 : decode cX8_heaviestPiece 61 = .ok (.getfield 172, 3) := by decide +kernel
theorem dX8_heaviestPiece_64 : decode cX8_heaviestPiece 64 = .ok (.aload_n 0, 1) := by decide +kernel
theorem dX8_heaviestPiece_65 : decode cX8_heaviestPiece 65 = .ok (.getfield 30, 3) := by decide +kernel
theorem dX8_heaviestPiece_68 : decode cX8_heaviestPiece 68 = .ok (.getfield 215, 3) := by decide +kernel
theorem dX8_heaviestPiece_71 : decode cX8_heaviestPiece 71 = .ok (.iload 4, 2) := by decide +kernel
theorem dX8_heaviestPiece_73 : decode cX8_heaviestPiece 73 = .ok (.iaload, 1) := by decide +kernel
theorem dX8_heaviestPiece_74 : decode cX8_heaviestPiece 74 = .ok (.iaload, 1) := by decide +kernel
theorem dX8_heaviestPiece_75 : decode cX8_heaviestPiece 75 = .ok (.iload 5, 2) := by decide +kernel
theorem dX8_heaviestPiece_77 : decode cX8_heaviestPiece 77 = .ok (.ifCond .eq 7, 3) := by decide +kernel
theorem dX8_heaviestPiece_80 : decode cX8_heaviestPiece 80 = .ok (.iload_n 3, 1) := by decide +kernel
theorem dX8_heaviestPiece_81 : decode cX8_heaviestPiece 81 = .ok (.goto 4, 3) := by decide +kernel
theorem dX8_heaviestPiece_84 : decode cX8_heaviestPiece 84 = .ok (.iconst 0, 1) := by decide +kernel
theorem dX8_heaviestPiece_85 : decode cX8_heaviestPiece 85 = .ok (.iadd, 1) := by decide +kernel
theorem dX8_heaviestPiece_86 : decode cX8_heaviestPiece 86 = .ok (.istore_n 3, 1) := by decide +kernel
theorem dX8_heaviestPiece_87 : decode cX8_heaviestPiece 87 = .ok (.iload_n 2, 1) := by decide +kernel
theorem dX8_heaviestPiece_88 : decode cX8_heaviestPiece 88 = .ok (.iload_n 3, 1) := by decide +kernel
theorem dX8_heaviestPiece_89 : decode cX8_heaviestPiece 89 = .ok (.invokestatic 395, 3) := by decide +kernel
theorem dX8_heaviestPiece_92 : decode cX8_heaviestPiece 92 = .ok (.istore_n 2, 1) := by decide +kernel
theorem dX8_heaviestPiece_93 : decode cX8_heaviestPiece 93 = .ok (.iinc 4 1, 3) := by decide +kernel
theorem dX8_heaviestPiece_96 : decode cX8_heaviestPiece 96 = .ok (.goto (-89), 3) := by decide +kernel
theorem dX8_heaviestPiece_99 : decode cX8_heaviestPiece 99 = .ok (.iload_n 2, 1) := by decide +kernel
theorem dX8_heaviestPiece_100 : decode cX8_heaviestPiece 100 = .ok (.ireturn, 1) := by decide +kernel
theorem dX8_image_0 : decode cX8_image 0 = .ok (.aload_n 0, 1) := by decide +kernel
theorem dX8_image_1 : decode cX8_image 1 = .ok (.iconst 0, 1) := by decide +kernel
theorem dX8_image_2 : decode cX8_image 2 = .ok (.putfield 368, 3) := by decide +kernel
theorem dX8_image_5 : decode cX8_image 5 = .ok (.aload_n 0, 1) := by decide +kernel
theorem dX8_image_6 : decode cX8_image 6 = .ok (.aload_n 0, 1) := by decide +kernel
theorem dX8_image_7 : decode cX8_image 7 = .ok (.getfield 30, 3) := by decide +kernel
theorem dX8_image_10 : decode cX8_image 10 = .ok (.getfield 132, 3) := by decide +kernel
theorem dX8_image_13 : decode cX8_image 13 = .ok (.invokevirtual 371, 3) := by decide +kernel
theorem dX8_image_16 : decode cX8_image 16 = .ok (.iconst 0, 1) := by decide +kernel
theorem dX8_image_17 : decode cX8_image 17 = .ok (.istore_n 1, 1) := by decide +kernel
theorem dX8_image_18 : decode cX8_image 18 = .ok (.iload_n 1, 1) := by decide +kernel
theorem dX8_image_19 : decode cX8_image 19 = .ok (.aload_n 0, 1) := by decide +kernel
theorem dX8_image_20 : decode cX8_image 20 = .ok (.getfield 30, 3) := by decide +kernel
theorem dX8_image_23 : decode cX8_image 23 = .ok (.getfield 135, 3) := by decide +kernel
theorem dX8_image_26 : decode cX8_image 26 = .ok (.if_icmp .ge 107, 3) := by decide +kernel
theorem dX8_image_29 : decode cX8_image 29 = .ok (.aload_n 0, 1) := by decide +kernel
theorem dX8_image_30 : decode cX8_image 30 = .ok (.getfield 30, 3) := by decide +kernel
theorem dX8_image_33 : decode cX8_image 33 = .ok (.getfield 215, 3) := by decide +kernel
theorem dX8_image_36 : decode cX8_image 36 = .ok (.iload_n 1, 1) := by decide +kernel
theorem dX8_image_37 : decode cX8_image 37 = .ok (.iaload, 1) := by decide +kernel
theorem dX8_image_38 : decode cX8_image 38 = .ok (.istore_n 2, 1) := by decide +kernel
theorem dX8_image_39 : decode cX8_image 39 = .ok (.aload_n 0, 1) := by decide +kernel
theorem dX8_image_40 : decode cX8_image 40 = .ok (.iload_n 2, 1) := by decide +kernel
theorem dX8_image_41 : decode cX8_image 41 = .ok (.invokevirtual 374, 3) := by decide +kernel
theorem dX8_image_44 : decode cX8_image 44 = .ok (.aload_n 0, 1) := by decide +kernel
theorem dX8_image_45 : decode cX8_image 45 = .ok (.aload_n 0, 1) := by decide +kernel
theorem dX8_image_46 : decode cX8_image 46 = .ok (.getfield 30, 3) := by decide +kernel
theorem dX8_image_49 : decode cX8_image 49 = .ok (.getfield 190, 3) := by decide +kernel
theorem dX8_image_52 : decode cX8_image 52 = .ok (.iload_n 2, 1) := by decide +kernel
theorem dX8_image_53 : decode cX8_image 53 = .ok (.baload, 1) := by decide +kernel
theorem dX8_image_54 : decode cX8_image 54 = .ok (.ifCond .eq 7, 3) := by decide +kernel
theorem dX8_image_57 : decode cX8_image 57 = .ok (.iconst 1, 1) := by decide +kernel
theorem dX8_image_58 : decode cX8_image 58 = .ok (.goto 4, 3) := by decide +kernel
theorem dX8_image_61 : decode cX8_image 61 = .ok (.iconst 0, 1) := by decide +kernel
theorem dX8_image_62 : decode cX8_image 62 = .ok (.invokevirtual 374, 3) := by decide +kernel
theorem dX8_image_65 : decode cX8_image 65 = .ok (.aload_n 0, 1) := by decide +kernel
theorem dX8_image_66 : decode cX8_image 66 = .ok (.aload_n 0, 1) := by decide +kernel
theorem dX8_image_67 : decode cX8_image 67 = .ok (.getfield 30, 3) := by decide +kernel
theorem dX8_image_70 : decode cX8_image 70 = .ok (.getfield 194, 3) := by decide +kernel
theorem dX8_image_73 : decode cX8_image 73 = .ok (.iload_n 2, 1) := by decide +kernel
theorem dX8_image_74 : decode cX8_image 74 = .ok (.iaload, 1) := by decide +kernel
theorem dX8_image_75 : decode cX8_image 75 = .ok (.iconst 1, 1) := by decide +kernel
theorem dX8_image_76 : decode cX8_image 76 = .ok (.iadd, 1) := by decide +kernel
theorem dX8_image_77 : decode cX8_image 77 = .ok (.invokevirtual 374, 3) := by decide +kernel
theorem dX8_image_80 : decode cX8_image 80 = .ok (.aload_n 0, 1) := by decide +kernel
theorem dX8_image_81 : decode cX8_image 81 = .ok (.aload_n 0, 1) := by decide +kernel
theorem dX8_image_82 : decode cX8_image 82 = .ok (.getfield 30, 3) := by decide +kernel
theorem dX8_image_85 : decode cX8_image 85 = .ok (.getfield 197, 3) := by decide +kernel
theorem dX8_image_88 : decode cX8_image 88 = .ok (.iload_n 2, 1) := by decide +kernel
theorem dX8_image_89 : decode cX8_image 89 = .ok (.iaload, 1) := by decide +kernel
theorem dX8_image_90 : decode cX8_image 90 = .ok (.invokevirtual 374, 3) := by decide +kernel
theorem dX8_image_93 : decode cX8_image 93 = .ok (.aload_n 0, 1) := by decide +kernel
theorem dX8_image_94 : decode cX8_image 94 = .ok (.aload_n 0, 1) := by decide +kernel
theorem dX8_image_95 : decode cX8_image 95 = .ok (.getfield 30, 3) := by decide +kernel
theorem dX8_image_98 : decode cX8_image 98 = .ok (.getfield 200, 3) := by decide +kernel
theorem dX8_image_101 : decode cX8_image 101 = .ok (.iload_n 2, 1) := by decide +kernel
theorem dX8_image_102 : decode cX8_image 102 = .ok (.iaload, 1) := by decide +kernel
theorem dX8_image_103 : decode cX8_image 103 = .ok (.iconst 1, 1) := by decide +kernel
theorem dX8_image_104 : decode cX8_image 104 = .ok (.iadd, 1) := by decide +kernel
theorem dX8_image_105 : decode cX8_image 105 = .ok (.invokevirtual 374, 3) := by decide +kernel
theorem dX8_image_108 : decode cX8_image 108 = .ok (.aload_n 0, 1) := by decide +kernel
theorem dX8_image_109 : decode cX8_image 109 = .ok (.aload_n 0, 1) := by decide +kernel
theorem dX8_image_110 : decode cX8_image 110 = .ok (.getfield 30, 3) := by decide +kernel
theorem dX8_image_113 : decode cX8_image 113 = .ok (.getfield 203, 3) := by decide +kernel
theorem dX8_image_116 : decode cX8_image 116 = .ok (.iload_n 2, 1) := by decide +kernel
theorem dX8_image_117 : decode cX8_image 117 = .ok (.iaload, 1) := by decide +kernel
theorem dX8_image_118 : decode cX8_image 118 = .ok (.sipush 9999, 3) := by decide +kernel
theorem dX8_image_121 : decode cX8_image 121 = .ok (.invokestatic 377, 3) := by decide +kernel
theorem dX8_image_124 : decode cX8_image 124 = .ok (.invokevirtual 371, 3) := by decide +kernel
theorem dX8_image_127 : decode cX8_image 127 = .ok (.iinc 1 1, 3) := by decide +kernel
theorem dX8_image_130 : decode cX8_image 130 = .ok (.goto (-112), 3) := by decide +kernel
theorem dX8_image_133 : decode cX8_image 133 = .ok (.iconst 0, 1) := by decide +kernel
theorem dX8_image_134 : decode cX8_image 134 = .ok (.istore_n 1, 1) := by decide +kernel
theorem dX8_image_135 : decode cX8_image 135 = .ok (.iload_n 1, 1) := by decide +kernel
theorem dX8_image_136 : decode cX8_image 136 = .ok (.aload_n 0, 1) := by decide +kernel
theorem dX8_image_137 : decode cX8_image 137 = .ok (.getfield 30, 3) := by decide +kernel
theorem dX8_image_140 : decode cX8_image 140 = .ok (.getfield 135, 3) := by decide +kernel
theorem dX8_image_143 : decode cX8_image 143 = .ok (.iconst 1, 1) := by decide +kernel
theorem dX8_image_144 : decode cX8_image 144 = .ok (.isub, 1) := by decide +kernel
theorem dX8_image_145 : decode cX8_image 145 = .ok (.if_icmp .ge 43, 3) := by decide +kernel
theorem dX8_image_148 : decode cX8_image 148 = .ok (.aload_n 0, 1) := by decide +kernel
theorem dX8_image_149 : decode cX8_image 149 = .ok (.aload_n 0, 1) := by decide +kernel
theorem dX8_image_150 : decode cX8_image 150 = .ok (.getfield 30, 3) := by decide +kernel
theorem dX8_image_153 : decode cX8_image 153 = .ok (.getfield 221, 3) := by decide +kernel
theorem dX8_image_156 : decode cX8_image 156 = .ok (.iload_n 1, 1) := by decide +kernel
theorem dX8_image_157 : decode cX8_image 157 = .ok (.baload, 1) := by decide +kernel
theorem dX8_image_158 : decode cX8_image 158 = .ok (.ifCond .eq 7, 3) := by decide +kernel
theorem dX8_image_161 : decode cX8_image 161 = .ok (.iconst 1, 1) := by decide +kernel
theorem dX8_image_162 : decode cX8_image 162 = .ok (.goto 4, 3) := by decide +kernel
theorem dX8_image_165 : decode cX8_image 165 = .ok (.iconst 0, 1) := by decide +kernel
theorem dX8_image_166 : decode cX8_image 166 = .ok (.invokevirtual 374, 3) := by decide +kernel
theorem dX8_image_169 : decode cX8_image 169 = .ok (.aload_n 0, 1) := by decide +kernel
theorem dX8_image_170 : decode cX8_image 170 = .ok (.aload_n 0, 1) := by decide +kernel
theorem dX8_image_171 : decode cX8_image 171 = .ok (.getfield 30, 3) := by decide +kernel
theorem dX8_image_174 : decode cX8_image 174 = .ok (.getfield 224, 3) := by decide +kernel
theorem dX8_image_177 : decode cX8_image 177 = .ok (.iload_n 1, 1) := by decide +kernel
theorem dX8_image_178 : decode cX8_image 178 = .ok (.iaload, 1) := by decide +kernel
theorem dX8_image_179 : decode cX8_image 179 = .ok (.invokevirtual 374, 3) := by decide +kernel
theorem dX8_image_182 : decode cX8_image 182 = .ok (.iinc 1 1, 3) := by decide +kernel
theorem dX8_image_185 : decode cX8_image 185 = .ok (.goto (-50), 3) := by decide +kernel
theorem dX8_image_188 : decode cX8_image 188 = .ok (.aload_n 0, 1) := by decide +kernel
theorem dX8_image_189 : decode cX8_image 189 = .ok (.aload_n 0, 1) := by decide +kernel
theorem dX8_image_190 : decode cX8_image 190 = .ok (.getfield 68, 3) := by decide +kernel
theorem dX8_image_193 : decode cX8_image 193 = .ok (.aload_n 0, 1) := by decide +kernel
theorem dX8_image_194 : decode cX8_image 194 = .ok (.getfield 368, 3) := by decide +kernel
theorem dX8_image_197 : decode cX8_image 197 = .ok (.invokestatic 382, 3) := by decide +kernel
theorem dX8_image_200 : decode cX8_image 200 = .ok (.invokevirtual 374, 3) := by decide +kernel
theorem dX8_image_203 : decode cX8_image 203 = .ok (.aload_n 0, 1) := by decide +kernel
theorem dX8_image_204 : decode cX8_image 204 = .ok (.getfield 368, 3) := by decide +kernel
theorem dX8_image_207 : decode cX8_image 207 = .ok (.ireturn, 1) := by decide +kernel
theorem dX8_inSet_0 : decode cX8_inSet 0 = .ok (.iload_n 0, 1) := by decide +kernel
theorem dX8_inSet_1 : decode cX8_inSet 1 = .ok (.bipush 10, 2) := by decide +kernel
theorem dX8_inSet_3 : decode cX8_inSet 3 = .ok (.iload_n 1, 1) := by decide +kernel
theorem dX8_inSet_4 : decode cX8_inSet 4 = .ok (.isub, 1) := by decide +kernel
theorem dX8_inSet_5 : decode cX8_inSet 5 = .ok (.ishr, 1) := by decide +kernel
theorem dX8_inSet_6 : decode cX8_inSet 6 = .ok (.iconst 1, 1) := by decide +kernel
theorem dX8_inSet_7 : decode cX8_inSet 7 = .ok (.iand, 1) := by decide +kernel
theorem dX8_inSet_8 : decode cX8_inSet 8 = .ok (.iconst 1, 1) := by decide +kernel
theorem dX8_inSet_9 : decode cX8_inSet 9 = .ok (.if_icmp .ne 7, 3) := by decide +kernel
theorem dX8_inSet_12 : decode cX8_inSet 12 = .ok (.iconst 1, 1) := by decide +kernel
theorem dX8_inSet_13 : decode cX8_inSet 13 = .ok (.goto 4, 3) := by decide +kernel
theorem dX8_inSet_16 : decode cX8_inSet 16 = .ok (.iconst 0, 1) := by decide +kernel
theorem dX8_inSet_17 : decode cX8_inSet 17 = .ok (.ireturn, 1) := by decide +kernel
theorem dX8_isBoy_0 : decode cX8_isBoy 0 = .ok (.iload_n 1, 1) := by decide +kernel
theorem dX8_isBoy_1 : decode cX8_isBoy 1 = .ok (.ifCond .lt 18, 3) := by decide +kernel
theorem dX8_isBoy_4 : decode cX8_isBoy 4 = .ok (.iload_n 1, 1) := by decide +kernel
theorem dX8_isBoy_5 : decode cX8_isBoy 5 = .ok (.aload_n 0, 1) := by decide +kernel
theorem dX8_isBoy_6 : decode cX8_isBoy 6 = .ok (.getfield 23, 3) := by decide +kernel
theorem dX8_isBoy_9 : decode cX8_isBoy 9 = .ok (.getfield 113, 3) := by decide +kernel
theorem dX8_isBoy_12 : decode cX8_isBoy 12 = .ok (.if_icmp .ge 7, 3) := by decide +kernel
theorem dX8_isBoy_15 : decode cX8_isBoy 15 = .ok (.iconst 1, 1) := by decide +kernel
theorem dX8_isBoy_16 : decode cX8_isBoy 16 = .ok (.goto 4, 3) := by decide +kernel
theorem dX8_isBoy_19 : decode cX8_isBoy 19 = .ok (.iconst 0, 1) := by decide +kernel
theorem dX8_isBoy_20 : decode cX8_isBoy 20 = .ok (.ireturn, 1) := by decide +kernel
theorem dX8_isDream_0 : decode cX8_isDream 0 = .ok (.iload_n 1, 1) := by decide +kernel
theorem dX8_isDream_1 : decode cX8_isDream 1 = .ok (.ifCond .lt 18, 3) := by decide +kernel
theorem dX8_isDream_4 : decode cX8_isDream 4 = .ok (.iload_n 1, 1) := by decide +kernel
theorem dX8_isDream_5 : decode cX8_isDream 5 = .ok (.aload_n 0, 1) := by decide +kernel
theorem dX8_isDream_6 : decode cX8_isDream 6 = .ok (.getfield 23, 3) := by decide +kernel
theorem dX8_isDream_9 : decode cX8_isDream 9 = .ok (.getfield 116, 3) := by decide +kernel
theorem dX8_isDream_12 : decode cX8_isDream 12 = .ok (.if_icmp .ge 7, 3) := by decide +kernel
theorem dX8_isDream_15 : decode cX8_isDream 15 = .ok (.iconst 1, 1) := by decide +kernel
theorem dX8_isDream_16 : decode cX8_isDream 16 = .ok (.goto 4, 3) := by decide +kernel
theorem dX8_isDream_19 : decode cX8_isDream 19 = .ok (.iconst 0, 1) := by decide +kernel
theorem dX8_isDream_20 : decode cX8_isDream 20 = .ok (.ireturn, 1) := by decide +kernel
theorem dX8_isForce_0 : decode cX8_isForce 0 = .ok (.iload_n 0, 1) := by decide +kernel
theorem dX8_isForce_1 : decode cX8_isForce 1 = .ok (.iconst 1, 1) := by decide +kernel
theorem dX8_isForce_2 : decode cX8_isForce 2 = .ok (.if_icmp .lt 14, 3) := by decide +kernel
theorem dX8_isForce_5 : decode cX8_isForce 5 = .ok (.iload_n 0, 1) := by decide +kernel
theorem dX8_isForce_6 : decode cX8_isForce 6 = .ok (.sipush 9999, 3) := by decide +kernel
theorem dX8_isForce_9 : decode cX8_isForce 9 = .ok (.if_icmp .gt 7, 3) := by decide +kernel
theorem dX8_isForce_12 : decode cX8_isForce 12 = .ok (.iconst 1, 1) := by decide +kernel
theorem dX8_isForce_13 : decode cX8_isForce 13 = .ok (.goto 4, 3) := by decide +kernel
theorem dX8_isForce_16 : decode cX8_isForce 16 = .ok (.iconst 0, 1) := by decide +kernel
theorem dX8_isForce_17 : decode cX8_isForce 17 = .ok (.ireturn, 1) := by decide +kernel
theorem dX8_isImage_0 : decode cX8_isImage 0 = .ok (.iconst 0, 1) := by decide +kernel
theorem dX8_isImage_1 : decode cX8_isImage 1 = .ok (.aload_n 0, 1) := by decide +kernel
theorem dX8_isImage_2 : decode cX8_isImage 2 = .ok (.getfield 30, 3) := by decide +kernel
theorem dX8_isImage_5 : decode cX8_isImage 5 = .ok (.getfield 135, 3) := by decide +kernel
theorem dX8_isImage_8 : decode cX8_isImage 8 = .ok (.iconst 1, 1) := by decide +kernel
theorem dX8_isImage_9 : decode cX8_isImage 9 = .ok (.isub, 1) := by decide +kernel
theorem dX8_isImage_10 : decode cX8_isImage 10 = .ok (.invokestatic 395, 3) := by decide +kernel
theorem dX8_isImage_13 : decode cX8_isImage 13 = .ok (.istore_n 2, 1) := by decide +kernel
theorem dX8_isImage_14 : decode cX8_isImage 14 = .ok (.iconst 2, 1) := by decide +kernel
theorem dX8_isImage_15 : decode cX8_isImage 15 = .ok (.bipush 7, 2) := by decide +kernel
theorem dX8_isImage_17 : decode cX8_isImage 17 = .ok (.aload_n 0, 1) := by decide +kernel
theorem dX8_isImage_18 : decode cX8_isImage 18 = .ok (.getfield 30, 3) := by decide +kernel
theorem dX8_isImage_21 : decode cX8_isImage 21 = .ok (.getfield 135, 3) := by decide +kernel
theorem dX8_isImage_24 : decode cX8_isImage 24 = .ok (.imul, 1) := by decide +kernel
theorem dX8_isImage_25 : decode cX8_isImage 25 = .ok (.iadd, 1) := by decide +kernel
theorem dX8_isImage_26 : decode cX8_isImage 26 = .ok (.iconst 2, 1) := by decide +kernel
theorem dX8_isImage_27 : decode cX8_isImage 27 = .ok (.iload_n 2, 1) := by decide +kernel
theorem dX8_isImage_28 : decode cX8_isImage 28 = .ok (.imul, 1) := by decide +kernel
theorem dX8_isImage_29 : decode cX8_isImage 29 = .ok (.iadd, 1) := by decide +kernel
theorem dX8_isImage_30 : decode cX8_isImage 30 = .ok (.iconst 1, 1) := by decide +kernel
theorem dX8_isImage_31 : decode cX8_isImage 31 = .ok (.iadd, 1) := by decide +kernel
theorem dX8_isImage_32 : decode cX8_isImage 32 = .ok (.istore_n 3, 1) := by decide +kernel
theorem dX8_isImage_33 : decode cX8_isImage 33 = .ok (.iload_n 1, 1) := by decide +kernel
theorem dX8_isImage_34 : decode cX8_isImage 34 = .ok (.iload_n 3, 1) := by decide +kernel
theorem dX8_isImage_35 : decode cX8_isImage 35 = .ok (.if_icmp .ne 34, 3) := by decide +kernel
theorem dX8_isImage_38 : decode cX8_isImage 38 = .ok (.aload_n 0, 1) := by decide +kernel
theorem dX8_isImage_39 : decode cX8_isImage 39 = .ok (.iload_n 3, 1) := by decide +kernel
theorem dX8_isImage_40 : decode cX8_isImage 40 = .ok (.iconst 1, 1) := by decide +kernel
theorem dX8_isImage_41 : decode cX8_isImage 41 = .ok (.isub, 1) := by decide +kernel
theorem dX8_isImage_42 : decode cX8_isImage 42 = .ok (.invokevirtual 389, 3) := by decide +kernel
theorem dX8_isImage_45 : decode cX8_isImage 45 = .ok (.aload_n 0, 1) := by decide +kernel
theorem dX8_isImage_46 : decode cX8_isImage 46 = .ok (.getfield 9, 3) := by decide +kernel
theorem dX8_isImage_49 : decode cX8_isImage 49 = .ok (.iload_n 3, 1) := by decide +kernel
theorem dX8_isImage_50 : decode cX8_isImage 50 = .ok (.iconst 1, 1) := by decide +kernel
theorem dX8_isImage_51 : decode cX8_isImage 51 = .ok (.isub, 1) := by decide +kernel
theorem dX8_isImage_52 : decode cX8_isImage 52 = .ok (.invokestatic 382, 3) := by decide +kernel
theorem dX8_isImage_55 : decode cX8_isImage 55 = .ok (.if_icmp .ne 14, 3) := by decide +kernel
theorem dX8_isImage_58 : decode cX8_isImage 58 = .ok (.aload_n 0, 1) := by decide +kernel
theorem dX8_isImage_59 : decode cX8_isImage 59 = .ok (.iconst 0, 1) := by decide +kernel
theorem dX8_isImage_60 : decode cX8_isImage 60 = .ok (.invokevirtual 337, 3) := by decide +kernel
theorem dX8_isImage_63 : decode cX8_isImage 63 = .ok (.sipush 999, 3) := by decide +kernel
theorem dX8_isImage_66 : decode cX8_isImage 66 = .ok (.if_icmp .le 5, 3) := by decide +kernel
theorem dX8_isImage_69 : decode cX8_isImage 69 = .ok (.iconst 0, 1) := by decide +kernel
theorem dX8_isImage_70 : decode cX8_isImage 70 = .ok (.ireturn, 1) := by decide +kernel
theorem dX8_isImage_71 : decode cX8_isImage 71 = .ok (.iconst 0, 1) := by decide +kernel
theorem dX8_isImage_72 : decode cX8_isImage 72 = .ok (.istore 4, 2) := by decide +kernel
theorem dX8_isImage_74 : decode cX8_isImage 74 = .ok (.iconst 0, 1) := by decide +kernel
theorem dX8_isImage_75 : decode cX8_isImage 75 = .ok (.istore 5, 2) := by decide +kernel
theorem dX8_isImage_77 : decode cX8_isImage 77 = .ok (.iload 5, 2) := by decide +kernel
theorem dX8_isImage_79 : decode cX8_isImage 79 = .ok (.aload_n 0, 1) := by decide +kernel
theorem dX8_isImage_80 : decode cX8_isImage 80 = .ok (.getfield 30, 3) := by decide +kernel
theorem dX8_isImage_83 : decode cX8_isImage 83 = .ok (.getfield 135, 3) := by decide +kernel
theorem dX8_isImage_86 : decode cX8_isImage 86 = .ok (.if_icmp .ge 69, 3) := by decide +kernel
theorem dX8_isImage_89 : decode cX8_isImage 89 = .ok (.aload_n 0, 1) := by decide +kernel
theorem dX8_isImage_90 : decode cX8_isImage 90 = .ok (.iconst 2, 1) := by decide +kernel
theorem dX8_isImage_91 : decode cX8_isImage 91 = .ok (.bipush 7, 2) := by decide +kernel
theorem dX8_isImage_93 : decode cX8_isImage 93 = .ok (.iload 5, 2) := by decide +kernel
theorem dX8_isImage_95 : decode cX8_isImage 95 = .ok (.imul, 1) := by decide +kernel
theorem dX8_isImage_96 : decode cX8_isImage 96 = .ok (.iadd, 1) := by decide +kernel
theorem dX8_isImage_97 : decode cX8_isImage 97 = .ok (.invokevirtual 389, 3) := by decide +kernel
theorem dX8_isImage_100 : decode cX8_isImage 100 = .ok (.istore 6, 2) := by decide +kernel
theorem dX8_isImage_102 : decode cX8_isImage 102 = .ok (.aload_n 0, 1) := by decide +kernel
theorem dX8_isImage_103 : decode cX8_isImage 103 = .ok (.iload 6, 2) := by decide +kernel
theorem dX8_isImage_105 : decode cX8_isImage 105 = .ok (.invokevirtual 155, 3) := by decide +kernel
theorem dX8_isImage_108 : decode cX8_isImage 108 = .ok (.ifCond .eq 30, 3) := by decide +kernel
theorem dX8_isImage_111 : decode cX8_isImage 111 = .ok (.iload 4, 2) := by decide +kernel
theorem dX8_isImage_113 : decode cX8_isImage 113 = .ok (.iload 6, 2) := by decide +kernel
theorem dX8_isImage_115 : decode cX8_isImage 115 = .ok (.ishr, 1) := by decide +kernel
theorem dX8_isImage_116 : decode cX8_isImage 116 = .ok (.iconst 1, 1) := by decide +kernel
theorem dX8_isImage_117 : decode cX8_isImage 117 = .ok (.iand, 1) := by decide +kernel
theorem dX8_isImage_118 : decode cX8_isImage 118 = .ok (.iconst 1, 1) := by decide +kernel
theorem dX8_isImage_119 : decode cX8_isImage 119 = .ok (.if_icmp .eq 19, 3) := by decide +kernel
theorem dX8_isImage_122 : decode cX8_isImage 122 = .ok (.aload_n 0, 1) := by decide +kernel
theorem dX8_isImage_123 : decode cX8_isImage 123 = .ok (.iload 6, 2) := by decide +kernel
theorem dX8_isImage_125 : decode cX8_isImage 125 = .ok (.iconst 2, 1) := by decide +kernel
theorem dX8_isImage_126 : decode cX8_isImage 126 = .ok (.bipush 7, 2) := by decide +kernel
theorem dX8_isImage_128 : decode cX8_isImage 128 = .ok (.iload 5, 2) := by decide +kernel
theorem dX8_isImage_130 : decode cX8_isImage 130 = .ok (.imul, 1) := by decide +kernel
theorem dX8_isImage_131 : decode cX8_isImage 131 = .ok (.iadd, 1) := by decide +kernel
theorem dX8_isImage_132 : decode cX8_isImage 132 = .ok (.invokevirtual 402, 3) := by decide +kernel
theorem dX8_isImage_135 : decode cX8_isImage 135 = .ok (.ifCond .ne 5, 3) := by decide +kernel
theorem dX8_isImage_138 : decode cX8_isImage 138 = .ok (.iconst 0, 1) := by decide +kernel
theorem dX8_isImage_139 : decode cX8_isImage 139 = .ok (.ireturn, 1) := by decide +kernel
theorem dX8_isImage_140 : decode cX8_isImage 140 = .ok (.iload 4, 2) := by decide +kernel
theorem dX8_isImage_142 : decode cX8_isImage 142 = .ok (.iconst 1, 1) := by decide +kernel
theorem dX8_isImage_143 : decode cX8_isImage 143 = .ok (.iload 6, 2) := by decide +kernel
theorem dX8_isImage_145 : decode cX8_isImage 145 = .ok (.ishl, 1) := by decide +kernel
theorem dX8_isImage_146 : decode cX8_isImage 146 = .ok (.ior, 1) := by decide +kernel
theorem dX8_isImage_147 : decode cX8_isImage 147 = .ok (.istore 4, 2) := by decide +kernel
theorem dX8_isImage_149 : decode cX8_isImage 149 = .ok (.iinc 5 1, 3) := by decide +kernel
theorem dX8_isImage_152 : decode cX8_isImage 152 = .ok (.goto (-75), 3) := by decide +kernel
theorem dX8_isImage_155 : decode cX8_isImage 155 = .ok (.iconst 0, 1) := by decide +kernel
theorem dX8_isImage_156 : decode cX8_isImage 156 = .ok (.istore 5, 2) := by decide +kernel
theorem dX8_isImage_158 : decode cX8_isImage 158 = .ok (.iload 5, 2) := by decide +kernel
theorem dX8_isImage_160 : decode cX8_isImage 160 = .ok (.iload_n 2, 1) := by decide +kernel
theorem dX8_isImage_161 : decode cX8_isImage 161 = .ok (.if_icmp .ge 53, 3) := by decide +kernel
theorem dX8_isImage_164 : decode cX8_isImage 164 = .ok (.iconst 2, 1) := by decide +kernel
theorem dX8_isImage_165 : decode cX8_isImage 165 = .ok (.bipush 7, 2) := by decide +kernel
theorem dX8_isImage_167 : decode cX8_isImage 167 = .ok (.aload_n 0, 1) := by decide +kernel
theorem dX8_isImage_168 : decode cX8_isImage 168 = .ok (.getfield 30, 3) := by decide +kernel
theorem dX8_isImage_171 : decode cX8_isImage 171 = .ok (.getfield 135, 3) := by decide +kernel
theorem dX8_isImage_174 : decode cX8_isImage 174 = .ok (.imul, 1) := by decide +kernel
theorem dX8_isImage_175 : decode cX8_isImage 175 = .ok (.iadd, 1) := by decide +kernel
theorem dX8_isImage_176 : decode cX8_isImage 176 = .ok (.iconst 2, 1) := by decide +kernel
theorem dX8_isImage_177 : decode cX8_isImage 177 = .ok (.iload 5, 2) := by decide +kernel
theorem dX8_isImage_179 : decode cX8_isImage 179 = .ok (.imul, 1) := by decide +kernel
theorem dX8_isImage_180 : decode cX8_isImage 180 = .ok (.iadd, 1) := by decide +kernel
theorem dX8_isImage_181 : decode cX8_isImage 181 = .ok (.istore 6, 2) := by decide +kernel
theorem dX8_isImage_183 : decode cX8_isImage 183 = .ok (.aload_n 0, 1) := by decide +kernel
theorem dX8_isImage_184 : decode cX8_isImage 184 = .ok (.iload 6, 2) := by decide +kernel
theorem dX8_isImage_186 : decode cX8_isImage 186 = .ok (.invokevirtual 389, 3) := by decide +kernel
theorem dX8_isImage_189 : decode cX8_isImage 189 = .ok (.iconst 1, 1) := by decide +kernel
theorem dX8_isImage_190 : decode cX8_isImage 190 = .ok (.if_icmp .gt 16, 3) := by decide +kernel
theorem dX8_isImage_193 : decode cX8_isImage 193 = .ok (.aload_n 0, 1) := by decide +kernel
theorem dX8_isImage_194 : decode cX8_isImage 194 = .ok (.iload 6, 2) := by decide +kernel
theorem dX8_isImage_196 : decode cX8_isImage 196 = .ok (.iconst 1, 1) := by decide +kernel
theorem dX8_isImage_197 : decode cX8_isImage 197 = .ok (.iadd, 1) := by decide +kernel
theorem dX8_isImage_198 : decode cX8_isImage 198 = .ok (.invokevirtual 389, 3) := by decide +kernel
theorem dX8_isImage_201 : decode cX8_isImage 201 = .ok (.bipush 99, 2) := by decide +kernel
theorem dX8_isImage_203 : decode cX8_isImage 203 = .ok (.if_icmp .le 5, 3) := by decide +kernel
theorem dX8_isImage_206 : decode cX8_isImage 206 = .ok (.iconst 0, 1) := by decide +kernel
theorem dX8_isImage_207 : decode cX8_isImage 207 = .ok (.ireturn, 1) := by decide +kernel
theorem dX8_isImage_208 : decode cX8_isImage 208 = .ok (.iinc 5 1, 3) := by decide +kernel
theorem dX8_isImage_211 : decode cX8_isImage 211 = .ok (.goto (-53), 3) := by decide +kernel
theorem dX8_isImage_214 : decode cX8_isImage 214 = .ok (.iconst 1, 1) := by decide +kernel
theorem dX8_isImage_215 : decode cX8_isImage 215 = .ok (.ireturn, 1) := by decide +kernel
theorem dX8_isImageOfBoy_0 : decode cX8_isImageOfBoy 0 = .ok (.aload_n 0, 1) := by decide +kernel
theorem dX8_isImageOfBoy_1 : decode cX8_isImageOfBoy 1 = .ok (.iload_n 2, 1) := by decide +kernel
theorem dX8_isImageOfBoy_2 : decode cX8_isImageOfBoy 2 = .ok (.iconst 1, 1) := by decide +kernel
theorem dX8_isImageOfBoy_3 : decode cX8_isImageOfBoy 3 = .ok (.iadd, 1) := by decide +kernel
theorem dX8_isImageOfBoy_4 : decode cX8_isImageOfBoy 4 = .ok (.invokevirtual 389, 3) := by decide +kernel
theorem dX8_isImageOfBoy_7 : decode cX8_isImageOfBoy 7 = .ok (.istore_n 3, 1) := by decide +kernel
theorem dX8_isImageOfBoy_8 : decode cX8_isImageOfBoy 8 = .ok (.aload_n 0, 1) := by decide +kernel
theorem dX8_isImageOfBoy_9 : decode cX8_isImageOfBoy 9 = .ok (.iload_n 2, 1) := by decide +kernel
theorem dX8_isImageOfBoy_10 : decode cX8_isImageOfBoy 10 = .ok (.iconst 2, 1) := by decide +kernel
theorem dX8_isImageOfBoy_11 : decode cX8_isImageOfBoy 11 = .ok (.iadd, 1) := by decide +kernel
theorem dX8_isImageOfBoy_12 : decode cX8_isImageOfBoy 12 = .ok (.invokevirtual 389, 3) := by decide +kernel
theorem dX8_isImageOfBoy_15 : decode cX8_isImageOfBoy 15 = .ok (.iconst 1, 1) := by decide +kernel
theorem dX8_isImageOfBoy_16 : decode cX8_isImageOfBoy 16 = .ok (.isub, 1) := by decide +kernel
theorem dX8_isImageOfBoy_17 : decode cX8_isImageOfBoy 17 = .ok (.istore 4, 2) := by decide +kernel
theorem dX8_isImageOfBoy_19 : decode cX8_isImageOfBoy 19 = .ok (.aload_n 0, 1) := by decide +kernel
theorem dX8_isImageOfBoy_20 : decode cX8_isImageOfBoy 20 = .ok (.iload_n 2, 1) := by decide +kernel
theorem dX8_isImageOfBoy_21 : decode cX8_isImageOfBoy 21 = .ok (.iconst 3, 1) := by decide +kernel
theorem dX8_isImageOfBoy_22 : decode cX8_isImageOfBoy 22 = .ok (.iadd, 1) := by decide +kernel
theorem dX8_isImageOfBoy_23 : decode cX8_isImageOfBoy 23 = .ok (.invokevirtual 389, 3) := by decide +kernel
theorem dX8_isImageOfBoy_26 : decode cX8_isImageOfBoy 26 = .ok (.istore 5, 2) := by decide +kernel
theorem dX8_isImageOfBoy_28 : decode cX8_isImageOfBoy 28 = .ok (.aload_n 0, 1) := by decide +kernel
theorem dX8_isImageOfBoy_29 : decode cX8_isImageOfBoy 29 = .ok (.iload_n 2, 1) := by decide +kernel
theorem dX8_isImageOfBoy_30 : decode cX8_isImageOfBoy 30 = .ok (.iconst 4, 1) := by decide +kernel
theorem dX8_isImageOfBoy_31 : decode cX8_isImageOfBoy 31 = .ok (.iadd, 1) := by decide +kernel
theorem dX8_isImageOfBoy_32 : decode cX8_isImageOfBoy 32 = .ok (.invokevirtual 389, 3) := by decide +kernel
theorem dX8_isImageOfBoy_35 : decode cX8_isImageOfBoy 35 = .ok (.iconst 1, 1) := by decide +kernel
theorem dX8_isImageOfBoy_36 : decode cX8_isImageOfBoy 36 = .ok (.isub, 1) := by decide +kernel
theorem dX8_isImageOfBoy_37 : decode cX8_isImageOfBoy 37 = .ok (.istore 6, 2) := by decide +kernel
theorem dX8_isImageOfBoy_39 : decode cX8_isImageOfBoy 39 = .ok (.iload_n 3, 1) := by decide +kernel
theorem dX8_isImageOfBoy_40 : decode cX8_isImageOfBoy 40 = .ok (.iconst 1, 1) := by decide +kernel
theorem dX8_isImageOfBoy_41 : decode cX8_isImageOfBoy 41 = .ok (.if_icmp .gt 40, 3) := by decide +kernel
theorem dX8_isImageOfBoy_44 : decode cX8_isImageOfBoy 44 = .ok (.iload 4, 2) := by decide +kernel
theorem dX8_isImageOfBoy_46 : decode cX8_isImageOfBoy 46 = .ok (.aload_n 0, 1) := by decide +kernel
theorem dX8_isImageOfBoy_47 : decode cX8_isImageOfBoy 47 = .ok (.getfield 23, 3) := by decide +kernel
theorem dX8_isImageOfBoy_50 : decode cX8_isImageOfBoy 50 = .ok (.getfield 116, 3) := by decide +kernel
theorem dX8_isImageOfBoy_53 : decode cX8_isImageOfBoy 53 = .ok (.if_icmp .ge 28, 3) := by decide +kernel
theorem dX8_isImageOfBoy_56 : decode cX8_isImageOfBoy 56 = .ok (.iload 6, 2) := by decide +kernel
theorem dX8_isImageOfBoy_58 : decode cX8_isImageOfBoy 58 = .ok (.aload_n 0, 1) := by decide +kernel
theorem dX8_isImageOfBoy_59 : decode cX8_isImageOfBoy 59 = .ok (.getfield 23, 3) := by decide +kernel
theorem dX8_isImageOfBoy_62 : decode cX8_isImageOfBoy 62 = .ok (.getfield 116, 3) := by decide +kernel
theorem dX8_isImageOfBoy_65 : decode cX8_isImageOfBoy 65 = .ok (.if_icmp .ge 16, 3) := by decide +kernel
theorem dX8_isImageOfBoy_68 : decode cX8_isImageOfBoy 68 = .ok (.aload_n 0, 1) := by decide +kernel
theorem dX8_isImageOfBoy_69 : decode cX8_isImageOfBoy 69 = .ok (.iload_n 2, 1) := by decide +kernel
theorem dX8_isImageOfBoy_70 : decode cX8_isImageOfBoy 70 = .ok (.iconst 5, 1) := by decide +kernel
theorem dX8_isImageOfBoy_71 : decode cX8_isImageOfBoy 71 = .ok (.iadd, 1) := by decide +kernel
theorem dX8_isImageOfBoy_72 : decode cX8_isImageOfBoy 72 = .ok (.invokevirtual 337, 3) := by decide +kernel
theorem dX8_isImageOfBoy_75 : decode cX8_isImageOfBoy 75 = .ok (.sipush 9999, 3) := by decide +kernel
theorem dX8_isImageOfBoy_78 : decode cX8_isImageOfBoy 78 = .ok (.if_icmp .le 5, 3) := by decide +kernel
theorem dX8_isImageOfBoy_81 : decode cX8_isImageOfBoy 81 = .ok (.iconst 0, 1) := by decide +kernel
theorem dX8_isImageOfBoy_82 : decode cX8_isImageOfBoy 82 = .ok (.ireturn, 1) := by decide +kernel
theorem dX8_isImageOfBoy_83 : decode cX8_isImageOfBoy 83 = .ok (.iload 4, 2) := by decide +kernel
theorem dX8_isImageOfBoy_85 : decode cX8_isImageOfBoy 85 = .ok (.iconst (-1), 1) := by decide +kernel
theorem dX8_isImageOfBoy_86 : decode cX8_isImageOfBoy 86 = .ok (.if_icmp .ne 11, 3) := by decide +kernel
theorem dX8_isImageOfBoy_89 : decode cX8_isImageOfBoy 89 = .ok (.iload 5, 2) := by decide +kernel
theorem dX8_isImageOfBoy_91 : decode cX8_isImageOfBoy 91 = .ok (.ifCond .eq 29, 3) := by decide +kernel
theorem dX8_isImageOfBoy_94 : decode cX8_isImageOfBoy 94 = .ok (.goto 24, 3) := by decide +kernel
theorem dX8_isImageOfBoy_97 : decode cX8_isImageOfBoy 97 = .ok (.iload 5, 2) := by decide +kernel
theorem dX8_isImageOfBoy_99 : decode cX8_isImageOfBoy 99 = .ok (.iconst 1, 1) := by decide +kernel
theorem dX8_isImageOfBoy_100 : decode cX8_isImageOfBoy 100 = .ok (.if_icmp .lt 18, 3) := by decide +kernel
theorem dX8_isImageOfBoy_103 : decode cX8_isImageOfBoy 103 = .ok (.iload 5, 2) := by decide +kernel
theorem dX8_isImageOfBoy_105 : decode cX8_isImageOfBoy 105 = .ok (.aload_n 0, 1) := by decide +kernel
theorem dX8_isImageOfBoy_106 : decode cX8_isImageOfBoy 106 = .ok (.getfield 23, 3) := by decide +kernel
theorem dX8_isImageOfBoy_109 : decode cX8_isImageOfBoy 109 = .ok (.getfield 233, 3) := by decide +kernel
theorem dX8_isImageOfBoy_112 : decode cX8_isImageOfBoy 112 = .ok (.iload 4, 2) := by decide +kernel
theorem dX8_isImageOfBoy_114 : decode cX8_isImageOfBoy 114 = .ok (.iaload, 1) := by decide +kernel
theorem dX8_isImageOfBoy_115 : decode cX8_isImageOfBoy 115 = .ok (.if_icmp .le 5, 3) := by decide +kernel
theorem dX8_isImageOfBoy_118 : decode cX8_isImageOfBoy 118 = .ok (.iconst 0, 1) := by decide +kernel
theorem dX8_isImageOfBoy_119 : decode cX8_isImageOfBoy 119 = .ok (.ireturn, 1) := by decide +kernel
theorem dX8_isImageOfBoy_120 : decode cX8_isImageOfBoy 120 = .ok (.iload 4, 2) := by decide +kernel
theorem dX8_isImageOfBoy_122 : decode cX8_isImageOfBoy 122 = .ok (.iconst (-1), 1) := by decide +kernel
theorem dX8_isImageOfBoy_123 : decode cX8_isImageOfBoy 123 = .ok (.if_icmp .eq 11, 3) := by decide +kernel
theorem dX8_isImageOfBoy_126 : decode cX8_isImageOfBoy 126 = .ok (.iload 6, 2) := by decide +kernel
theorem dX8_isImageOfBoy_128 : decode cX8_isImageOfBoy 128 = .ok (.iconst (-1), 1) := by decide +kernel
theorem dX8_isImageOfBoy_129 : decode cX8_isImageOfBoy 129 = .ok (.if_icmp .eq 5, 3) := by decide +kernel
theorem dX8_isImageOfBoy_132 : decode cX8_isImageOfBoy 132 = .ok (.iconst 0, 1) := by decide +kernel
theorem dX8_isImageOfBoy_133 : decode cX8_isImageOfBoy 133 = .ok (.ireturn, 1) := by decide +kernel
theorem dX8_isImageOfBoy_134 : decode cX8_isImageOfBoy 134 = .ok (.iload 4, 2) := by decide +kernel
theorem dX8_isImageOfBoy_136 : decode cX8_isImageOfBoy 136 = .ok (.iconst (-1), 1) := by decide +kernel
theorem dX8_isImageOfBoy_137 : decode cX8_isImageOfBoy 137 = .ok (.if_icmp .ne 13, 3) := by decide +kernel
theorem dX8_isImageOfBoy_140 : decode cX8_isImageOfBoy 140 = .ok (.iload 6, 2) := by decide +kernel
theorem dX8_isImageOfBoy_142 : decode cX8_isImageOfBoy 142 = .ok (.iconst (-1), 1) := by decide +kernel
theorem dX8_isImageOfBoy_143 : decode cX8_isImageOfBoy 143 = .ok (.if_icmp .ne 7, 3) := by decide +kernel
theorem dX8_isImageOfBoy_146 : decode cX8_isImageOfBoy 146 = .ok (.iconst 1, 1) := by decide +kernel
theorem dX8_isImageOfBoy_147 : decode cX8_isImageOfBoy 147 = .ok (.goto 4, 3) := by decide +kernel
theorem dX8_isImageOfBoy_150 : decode cX8_isImageOfBoy 150 = .ok (.iconst 0, 1) := by decide +kernel
theorem dX8_isImageOfBoy_151 : decode cX8_isImageOfBoy 151 = .ok (.istore 7, 2) := by decide +kernel
theorem dX8_isImageOfBoy_153 : decode cX8_isImageOfBoy 153 = .ok (.iload 7, 2) := by decide +kernel
theorem dX8_isImageOfBoy_155 : decode cX8_isImageOfBoy 155 = .ok (.ifCond .ne 19, 3) := by decide +kernel
theorem dX8_isImageOfBoy_158 : decode cX8_isImageOfBoy 158 = .ok (.iload_n 3, 1) := by decide +kernel
theorem dX8_isImageOfBoy_159 : decode cX8_isImageOfBoy 159 = .ok (.iconst 1, 1) := by decide +kernel
theorem dX8_isImageOfBoy_160 : decode cX8_isImageOfBoy 160 = .ok (.if_icmp .ne 18, 3) := by decide +kernel
theorem dX8_isImageOfBoy_163 : decode cX8_isImageOfBoy 163 = .ok (.aload_n 0, 1) := by decide +kernel
theorem dX8_isImageOfBoy_164 : decode cX8_isImageOfBoy 164 = .ok (.getfield 23, 3) := by decide +kernel
theorem dX8_isImageOfBoy_167 : decode cX8_isImageOfBoy 167 = .ok (.iload_n 1, 1) := by decide +kernel
theorem dX8_isImageOfBoy_168 : decode cX8_isImageOfBoy 168 = .ok (.invokevirtual 256, 3) := by decide +kernel
theorem dX8_isImageOfBoy_171 : decode cX8_isImageOfBoy 171 = .ok (.ifCond .ne 7, 3) := by decide +kernel
theorem dX8_isImageOfBoy_174 : decode cX8_isImageOfBoy 174 = .ok (.iconst 1, 1) := by decide +kernel
theorem dX8_isImageOfBoy_175 : decode cX8_isImageOfBoy 175 = .ok (.goto 4, 3) := by decide +kernel
theorem dX8_isImageOfBoy_178 : decode cX8_isImageOfBoy 178 = .ok (.iconst 0, 1) := by decide +kernel
theorem dX8_isImageOfBoy_179 : decode cX8_isImageOfBoy 179 = .ok (.ireturn, 1) := by decide +kernel
theorem dX8_isKnot_0 : decode cX8_isKnot 0 = .ok (.iload_n 1, 1) := by decide +kernel
theorem dX8_isKnot_1 : decode cX8_isKnot 1 = .ok (.ifCond .lt 20, 3) := by decide +kernel
theorem dX8_isKnot_4 : decode cX8_isKnot 4 = .ok (.iload_n 1, 1) := by decide +kernel
theorem dX8_isKnot_5 : decode cX8_isKnot 5 = .ok (.aload_n 0, 1) := by decide +kernel
theorem dX8_isKnot_6 : decode cX8_isKnot 6 = .ok (.getfield 30, 3) := by decide +kernel
theorem dX8_isKnot_9 : decode cX8_isKnot 9 = .ok (.getfield 135, 3) := by decide +kernel
theorem dX8_isKnot_12 : decode cX8_isKnot 12 = .ok (.iconst 1, 1) := by decide +kernel
theorem dX8_isKnot_13 : decode cX8_isKnot 13 = .ok (.isub, 1) := by decide +kernel
theorem dX8_isKnot_14 : decode cX8_isKnot 14 = .ok (.if_icmp .ge 7, 3) := by decide +kernel
theorem dX8_isKnot_17 : decode cX8_isKnot 17 = .ok (.iconst 1, 1) := by decide +kernel
theorem dX8_isKnot_18 : decode cX8_isKnot 18 = .ok (.goto 4, 3) := by decide +kernel
theorem dX8_isKnot_21 : decode cX8_isKnot 21 = .ok (.iconst 0, 1) := by decide +kernel
theorem dX8_isKnot_22 : decode cX8_isKnot 22 = .ok (.ireturn, 1) := by decide +kernel
theorem dX8_isPlace_0 : decode cX8_isPlace 0 = .ok (.iload_n 1, 1) := by decide +kernel
theorem dX8_isPlace_1 : decode cX8_isPlace 1 = .ok (.ifCond .lt 18, 3) := by decide +kernel
theorem dX8_isPlace_4 : decode cX8_isPlace 4 = .ok (.iload_n 1, 1) := by decide +kernel
theorem dX8_isPlace_5 : decode cX8_isPlace 5 = .ok (.aload_n 0, 1) := by decide +kernel
theorem dX8_isPlace_6 : decode cX8_isPlace 6 = .ok (.getfield 30, 3) := by decide +kernel
theorem dX8_isPlace_9 : decode cX8_isPlace 9 = .ok (.getfield 135, 3) := by decide +kernel
theorem dX8_isPlace_12 : decode cX8_isPlace 12 = .ok (.if_icmp .ge 7, 3) := by decide +kernel
theorem dX8_isPlace_15 : decode cX8_isPlace 15 = .ok (.iconst 1, 1) := by decide +kernel
theorem dX8_isPlace_16 : decode cX8_isPlace 16 = .ok (.goto 4, 3) := by decide +kernel
theorem dX8_isPlace_19 : decode cX8_isPlace 19 = .ok (.iconst 0, 1) := by decide +kernel
theorem dX8_isPlace_20 : decode cX8_isPlace 20 = .ok (.ireturn, 1) := by decide +kernel
theorem dX8_knot_0 : decode cX8_knot 0 = .ok (.aload_n 0, 1) := by decide +kernel
theorem dX8_knot_1 : decode cX8_knot 1 = .ok (.iload_n 1, 1) := by decide +kernel
theorem dX8_knot_2 : decode cX8_knot 2 = .ok (.invokevirtual 218, 3) := by decide +kernel
theorem dX8_knot_5 : decode cX8_knot 5 = .ok (.ifCond .ne 5, 3) := by decide +kernel
theorem dX8_knot_8 : decode cX8_knot 8 = .ok (.iconst (-1), 1) := by decide +kernel
theorem dX8_knot_9 : decode cX8_knot 9 = .ok (.ireturn, 1) := by decide +kernel
theorem dX8_knot_10 : decode cX8_knot 10 = .ok (.iload_n 2, 1) := by decide +kernel
theorem dX8_knot_11 : decode cX8_knot 11 = .ok (.tableswitch 59 0 2 #[25, 43, 53], 25) := by decide +kernel
theorem dX8_knot_36 : decode cX8_knot 36 = .ok (.aload_n 0, 1) := by decide +kernel
theorem dX8_knot_37 : decode cX8_knot 37 = .ok (.getfield 30, 3) := by decide +kernel
theorem dX8_knot_40 : decode cX8_knot 40 = .ok (.getfield 221, 3) := by decide +kernel
theorem dX8_knot_43 : decode cX8_knot 43 = .ok (.iload_n 1, 1) := by decide +kernel
theorem dX8_knot_44 : decode cX8_knot 44 = .ok (.baload, 1) := by decide +kernel
theorem dX8_knot_45 : decode cX8_knot 45 = .ok (.ifCond .eq 7, 3) := by decide +kernel
theorem dX8_knot_48 : decode cX8_knot 48 = .ok (.iconst 1, 1) := by decide +kernel
theorem dX8_knot_49 : decode cX8_knot 49 = .ok (.goto 4, 3) := by decide +kernel
theorem dX8_knot_52 : decode cX8_knot 52 = .ok (.iconst 0, 1) := by decide +kernel
theorem dX8_knot_53 : decode cX8_knot 53 = .ok (.ireturn, 1) := by decide +kernel
theorem dX8_knot_54 : decode cX8_knot 54 = .ok (.aload_n 0, 1) := by decide +kernel
theorem dX8_knot_55 : decode cX8_knot 55 = .ok (.getfield 30, 3) := by decide +kernel
theorem dX8_knot_58 : decode cX8_knot 58 = .ok (.getfield 224, 3) := by decide +kernel
theorem dX8_knot_61 : decode cX8_knot 61 = .ok (.iload_n 1, 1) := by decide +kernel
theorem dX8_knot_62 : decode cX8_knot 62 = .ok (.iaload, 1) := by decide +kernel
theorem dX8_knot_63 : decode cX8_knot 63 = .ok (.ireturn, 1) := by decide +kernel
theorem dX8_knot_64 : decode cX8_knot 64 = .ok (.aload_n 0, 1) := by decide +kernel
theorem dX8_knot_65 : decode cX8_knot 65 = .ok (.iload_n 1, 1) := by decide +kernel
theorem dX8_knot_66 : decode cX8_knot 66 = .ok (.invokevirtual 227, 3) := by decide +kernel
theorem dX8_knot_69 : decode cX8_knot 69 = .ok (.ireturn, 1) := by decide +kernel
theorem dX8_knot_70 : decode cX8_knot 70 = .ok (.iconst (-1), 1) := by decide +kernel
theorem dX8_knot_71 : decode cX8_knot 71 = .ok (.ireturn, 1) := by decide +kernel
theorem dX8_knotOfSet_0 : decode cX8_knotOfSet 0 = .ok (.iconst 0, 1) := by decide +kernel
theorem dX8_knotOfSet_1 : decode cX8_knotOfSet 1 = .ok (.istore_n 2, 1) := by decide +kernel
theorem dX8_knotOfSet_2 : decode cX8_knotOfSet 2 = .ok (.iconst 0, 1) := by decide +kernel
theorem dX8_knotOfSet_3 : decode cX8_knotOfSet 3 = .ok (.istore_n 3, 1) := by decide +kernel
theorem dX8_knotOfSet_4 : decode cX8_knotOfSet 4 = .ok (.iload_n 3, 1) := by decide +kernel
theorem dX8_knotOfSet_5 : decode cX8_knotOfSet 5 = .ok (.bipush 11, 2) := by decide +kernel
theorem dX8_knotOfSet_7 : decode cX8_knotOfSet 7 = .ok (.if_icmp .ge 27, 3) := by decide +kernel
theorem dX8_knotOfSet_10 : decode cX8_knotOfSet 10 = .ok (.iload_n 0, 1) := by decide +kernel
theorem dX8_knotOfSet_11 : decode cX8_knotOfSet 11 = .ok (.iload_n 3, 1) := by decide +kernel
theorem dX8_knotOfSet_12 : decode cX8_knotOfSet 12 = .ok (.invokestatic 398, 3) := by decide +kernel
theorem dX8_knotOfSet_15 : decode cX8_knotOfSet 15 = .ok (.ifCond .eq 13, 3) := by decide +kernel
theorem dX8_knotOfSet_18 : decode cX8_knotOfSet 18 = .ok (.iload_n 2, 1) := by decide +kernel
theorem dX8_knotOfSet_19 : decode cX8_knotOfSet 19 = .ok (.iload_n 1, 1) := by decide +kernel
theorem dX8_knotOfSet_20 : decode cX8_knotOfSet 20 = .ok (.if_icmp .ne 5, 3) := by decide +kernel
theorem dX8_knotOfSet_23 : decode cX8_knotOfSet 23 = .ok (.iload_n 3, 1) := by decide +kernel
theorem dX8_knotOfSet_24 : decode cX8_knotOfSet 24 = .ok (.ireturn, 1) := by decide +kernel
theorem dX8_knotOfSet_25 : decode cX8_knotOfSet 25 = .ok (.iinc 2 1, 3) := by decide +kernel
theorem dX8_knotOfSet_28 : decode cX8_knotOfSet 28 = .ok (.iinc 3 1, 3) := by decide +kernel
theorem dX8_knotOfSet_31 : decode cX8_knotOfSet 31 = .ok (.goto (-27), 3) := by decide +kernel
theorem dX8_knotOfSet_34 : decode cX8_knotOfSet 34 = .ok (.iconst (-1), 1) := by decide +kernel
theorem dX8_knotOfSet_35 : decode cX8_knotOfSet 35 = .ok (.ireturn, 1) := by decide +kernel
theorem dX8_law_0 : decode cX8_law 0 = .ok (.aload_n 0, 1) := by decide +kernel
theorem dX8_law_1 : decode cX8_law 1 = .ok (.iload_n 1, 1) := by decide +kernel
theorem dX8_law_2 : decode cX8_law 2 = .ok (.invokevirtual 212, 3) := by decide +kernel
theorem dX8_law_5 : decode cX8_law 5 = .ok (.ifCond .eq 10, 3) := by decide +kernel
theorem dX8_law_8 : decode cX8_law 8 = .ok (.iload_n 2, 1) := by decide +kernel
theorem dX8_law_9 : decode cX8_law 9 = .ok (.invokestatic 245, 3) := by decide +kernel
theorem dX8_law_12 : decode cX8_law 12 = .ok (.ifCond .ne 5, 3) := by decide +kernel
theorem dX8_law_15 : decode cX8_law 15 = .ok (.iconst (-1), 1) := by decide +kernel
theorem dX8_law_16 : decode cX8_law 16 = .ok (.ireturn, 1) := by decide +kernel
theorem dX8_law_17 : decode cX8_law 17 = .ok (.aload_n 0, 1) := by decide +kernel
theorem dX8_law_18 : decode cX8_law 18 = .ok (.getfield 30, 3) := by decide +kernel
theorem dX8_law_21 : decode cX8_law 21 = .ok (.getfield 215, 3) := by decide +kernel
theorem dX8_law_24 : decode cX8_law 24 = .ok (.iload_n 1, 1) := by decide +kernel
theorem dX8_law_25 : decode cX8_law 25 = .ok (.iaload, 1) := by decide +kernel
theorem dX8_law_26 : decode cX8_law 26 = .ok (.istore 4, 2) := by decide +kernel
theorem dX8_law_28 : decode cX8_law 28 = .ok (.aload_n 0, 1) := by decide +kernel
theorem dX8_law_29 : decode cX8_law 29 = .ok (.getfield 54, 3) := by decide +kernel
theorem dX8_law_32 : decode cX8_law 32 = .ok (.aload_n 0, 1) := by decide +kernel
theorem dX8_law_33 : decode cX8_law 33 = .ok (.getfield 23, 3) := by decide +kernel
theorem dX8_law_36 : decode cX8_law 36 = .ok (.aload_n 0, 1) := by decide +kernel
theorem dX8_law_37 : decode cX8_law 37 = .ok (.getfield 30, 3) := by decide +kernel
theorem dX8_law_40 : decode cX8_law 40 = .ok (.iload_n 1, 1) := by decide +kernel
theorem dX8_law_41 : decode cX8_law 41 = .ok (.iload_n 2, 1) := by decide +kernel
theorem dX8_law_42 : decode cX8_law 42 = .ok (.invokevirtual 248, 3) := by decide +kernel
theorem dX8_law_45 : decode cX8_law 45 = .ok (.iload_n 3, 1) := by decide +kernel
theorem dX8_law_46 : decode cX8_law 46 = .ok (.ifCond .ne 28, 3) := by decide +kernel
theorem dX8_law_49 : decode cX8_law 49 = .ok (.aload_n 0, 1) := by decide +kernel
theorem dX8_law_50 : decode cX8_law 50 = .ok (.getfield 23, 3) := by decide +kernel
theorem dX8_law_53 : decode cX8_law 53 = .ok (.getfield 119, 3) := by decide +kernel
theorem dX8_law_56 : decode cX8_law 56 = .ok (.iconst 1, 1) := by decide +kernel
theorem dX8_law_57 : decode cX8_law 57 = .ok (.aload_n 0, 1) := by decide +kernel
theorem dX8_law_58 : decode cX8_law 58 = .ok (.getfield 23, 3) := by decide +kernel
theorem dX8_law_61 : decode cX8_law 61 = .ok (.getfield 175, 3) := by decide +kernel
theorem dX8_law_64 : decode cX8_law 64 = .ok (.iload 4, 2) := by decide +kernel
theorem dX8_law_66 : decode cX8_law 66 = .ok (.iaload, 1) := by decide +kernel
theorem dX8_law_67 : decode cX8_law 67 = .ok (.sipush 9999, 3) := by decide +kernel
theorem dX8_law_70 : decode cX8_law 70 = .ok (.invokevirtual 252, 3) := by decide +kernel
theorem dX8_law_73 : decode cX8_law 73 = .ok (.ireturn, 1) := by decide +kernel
theorem dX8_law_74 : decode cX8_law 74 = .ok (.aload_n 0, 1) := by decide +kernel
theorem dX8_law_75 : decode cX8_law 75 = .ok (.getfield 23, 3) := by decide +kernel
theorem dX8_law_78 : decode cX8_law 78 = .ok (.iload 4, 2) := by decide +kernel
theorem dX8_law_80 : decode cX8_law 80 = .ok (.invokevirtual 256, 3) := by decide +kernel
theorem dX8_law_83 : decode cX8_law 83 = .ok (.ifCond .eq 5, 3) := by decide +kernel
theorem dX8_law_86 : decode cX8_law 86 = .ok (.iload_n 2, 1) := by decide +kernel
theorem dX8_law_87 : decode cX8_law 87 = .ok (.ireturn, 1) := by decide +kernel
theorem dX8_law_88 : decode cX8_law 88 = .ok (.aload_n 0, 1) := by decide +kernel
theorem dX8_law_89 : decode cX8_law 89 = .ok (.getfield 23, 3) := by decide +kernel
theorem dX8_law_92 : decode cX8_law 92 = .ok (.getfield 119, 3) := by decide +kernel
theorem dX8_law_95 : decode cX8_law 95 = .ok (.iconst 0, 1) := by decide +kernel
theorem dX8_law_96 : decode cX8_law 96 = .ok (.iload_n 2, 1) := by decide +kernel
theorem dX8_law_97 : decode cX8_law 97 = .ok (.aload_n 0, 1) := by decide +kernel
theorem dX8_law_98 : decode cX8_law 98 = .ok (.getfield 23, 3) := by decide +kernel
theorem dX8_law_101 : decode cX8_law 101 = .ok (.getfield 172, 3) := by decide +kernel
theorem dX8_law_104 : decode cX8_law 104 = .ok (.iload 4, 2) := by decide +kernel
theorem dX8_law_106 : decode cX8_law 106 = .ok (.iaload, 1) := by decide +kernel
theorem dX8_law_107 : decode cX8_law 107 = .ok (.isub, 1) := by decide +kernel
theorem dX8_law_108 : decode cX8_law 108 = .ok (.iload_n 2, 1) := by decide +kernel
theorem dX8_law_109 : decode cX8_law 109 = .ok (.invokevirtual 252, 3) := by decide +kernel
theorem dX8_law_112 : decode cX8_law 112 = .ok (.ireturn, 1) := by decide +kernel
theorem dX8_lay_0 : decode cX8_lay 0 = .ok (.aload_n 0, 1) := by decide +kernel
theorem dX8_lay_1 : decode cX8_lay 1 = .ok (.getfield 30, 3) := by decide +kernel
theorem dX8_lay_4 : decode cX8_lay 4 = .ok (.getfield 135, 3) := by decide +kernel
theorem dX8_lay_7 : decode cX8_lay 7 = .ok (.iconst 1, 1) := by decide +kernel
theorem dX8_lay_8 : decode cX8_lay 8 = .ok (.if_icmp .ge 10, 3) := by decide +kernel
theorem dX8_lay_11 : decode cX8_lay 11 = .ok (.aload_n 0, 1) := by decide +kernel
theorem dX8_lay_12 : decode cX8_lay 12 = .ok (.iconst 3, 1) := by decide +kernel
theorem dX8_lay_13 : decode cX8_lay 13 = .ok (.invokevirtual 78, 3) := by decide +kernel
theorem dX8_lay_16 : decode cX8_lay 16 = .ok (.iconst (-1), 1) := by decide +kernel
theorem dX8_lay_17 : decode cX8_lay 17 = .ok (.ireturn, 1) := by decide +kernel
theorem dX8_lay_18 : decode cX8_lay 18 = .ok (.aload_n 0, 1) := by decide +kernel
theorem dX8_lay_19 : decode cX8_lay 19 = .ok (.getfield 61, 3) := by decide +kernel
theorem dX8_lay_22 : decode cX8_lay 22 = .ok (.aload_n 0, 1) := by decide +kernel
theorem dX8_lay_23 : decode cX8_lay 23 = .ok (.getfield 23, 3) := by decide +kernel
theorem dX8_lay_26 : decode cX8_lay 26 = .ok (.aload_n 0, 1) := by decide +kernel
theorem dX8_lay_27 : decode cX8_lay 27 = .ok (.getfield 30, 3) := by decide +kernel
theorem dX8_lay_30 : decode cX8_lay 30 = .ok (.aload_n 0, 1) := by decide +kernel
theorem dX8_lay_31 : decode cX8_lay 31 = .ok (.getfield 101, 3) := by decide +kernel
theorem dX8_lay_34 : decode cX8_lay 34 = .ok (.invokevirtual 310, 3) := by decide +kernel
theorem dX8_lay_37 : decode cX8_lay 37 = .ok (.aload_n 0, 1) := by decide +kernel
theorem dX8_lay_38 : decode cX8_lay 38 = .ok (.getfield 61, 3) := by decide +kernel
theorem dX8_lay_41 : decode cX8_lay 41 = .ok (.getfield 319, 3) := by decide +kernel
theorem dX8_lay_44 : decode cX8_lay 44 = .ok (.ifCond .le 28, 3) := by decide +kernel
theorem dX8_lay_47 : decode cX8_lay 47 = .ok (.aload_n 0, 1) := by decide +kernel
theorem dX8_lay_48 : decode cX8_lay 48 = .ok (.invokevirtual 259, 3) := by decide +kernel
theorem dX8_lay_51 : decode cX8_lay 51 = .ok (.aload_n 0, 1) := by decide +kernel
theorem dX8_lay_52 : decode cX8_lay 52 = .ok (.getfield 61, 3) := by decide +kernel
theorem dX8_lay_55 : decode cX8_lay 55 = .ok (.getfield 316, 3) := by decide +kernel
theorem dX8_lay_58 : decode cX8_lay 58 = .ok (.iconst 0, 1) := by decide +kernel
theorem dX8_lay_59 : decode cX8_lay 59 = .ok (.aload_n 0, 1) := by decide +kernel
theorem dX8_lay_60 : decode cX8_lay 60 = .ok (.getfield 30, 3) := by decide +kernel
theorem dX8_lay_63 : decode cX8_lay 63 = .ok (.getfield 215, 3) := by decide +kernel
theorem dX8_lay_66 : decode cX8_lay 66 = .ok (.iconst 0, 1) := by decide +kernel
theorem dX8_lay_67 : decode cX8_lay 67 = .ok (.bipush 12, 2) := by decide +kernel
theorem dX8_lay_69 : decode cX8_lay 69 = .ok (.invokestatic 322, 3) := by decide +kernel
theorem dX8_lay_72 : decode cX8_lay 72 = .ok (.aload_n 0, 1) := by decide +kernel
theorem dX8_lay_73 : decode cX8_lay 73 = .ok (.getfield 61, 3) := by decide +kernel
theorem dX8_lay_76 : decode cX8_lay 76 = .ok (.getfield 319, 3) := by decide +kernel
theorem dX8_lay_79 : decode cX8_lay 79 = .ok (.ireturn, 1) := by decide +kernel
theorem dX8_least_0 : decode cX8_least 0 = .ok (.aload_n 0, 1) := by decide +kernel
theorem dX8_least_1 : decode cX8_least 1 = .ok (.iload_n 1, 1) := by decide +kernel
theorem dX8_least_2 : decode cX8_least 2 = .ok (.invokevirtual 212, 3) := by decide +kernel
theorem dX8_least_5 : decode cX8_least 5 = .ok (.ifCond .eq 16, 3) := by decide +kernel
theorem dX8_least_8 : decode cX8_least 8 = .ok (.aload_n 0, 1) := by decide +kernel
theorem dX8_least_9 : decode cX8_least 9 = .ok (.iload_n 2, 1) := by decide +kernel
theorem dX8_least_10 : decode cX8_least 10 = .ok (.invokevirtual 212, 3) := by decide +kernel
theorem dX8_least_13 : decode cX8_least 13 = .ok (.ifCond .eq 8, 3) := by decide +kernel
theorem dX8_least_16 : decode cX8_least 16 = .ok (.iload_n 1, 1) := by decide +kernel
theorem dX8_least_17 : decode cX8_least 17 = .ok (.iload_n 2, 1) := by decide +kernel
theorem dX8_least_18 : decode cX8_least 18 = .ok (.if_icmp .ne 5, 3) := by decide +kernel
theorem dX8_least_21 : decode cX8_least 21 = .ok (.iconst (-1), 1) := by decide +kernel
theorem dX8_least_22 : decode cX8_least 22 = .ok (.ireturn, 1) := by decide +kernel
theorem dX8_least_23 : decode cX8_least 23 = .ok (.aload_n 0, 1) := by decide +kernel
theorem dX8_least_24 : decode cX8_least 24 = .ok (.getfield 30, 3) := by decide +kernel
theorem dX8_least_27 : decode cX8_least 27 = .ok (.getfield 215, 3) := by decide +kernel
theorem dX8_least_30 : decode cX8_least 30 = .ok (.iload_n 2, 1) := by decide +kernel
theorem dX8_least_31 : decode cX8_least 31 = .ok (.iaload, 1) := by decide +kernel
theorem dX8_least_32 : decode cX8_least 32 = .ok (.istore_n 3, 1) := by decide +kernel
theorem dX8_least_33 : decode cX8_least 33 = .ok (.aload_n 0, 1) := by decide +kernel
theorem dX8_least_34 : decode cX8_least 34 = .ok (.getfield 23, 3) := by decide +kernel
theorem dX8_least_37 : decode cX8_least 37 = .ok (.iload_n 3, 1) := by decide +kernel
theorem dX8_least_38 : decode cX8_least 38 = .ok (.invokevirtual 256, 3) := by decide +kernel
theorem dX8_least_41 : decode cX8_least 41 = .ok (.ifCond .ne 15, 3) := by decide +kernel
theorem dX8_least_44 : decode cX8_least 44 = .ok (.aload_n 0, 1) := by decide +kernel
theorem dX8_least_45 : decode cX8_least 45 = .ok (.getfield 30, 3) := by decide +kernel
theorem dX8_least_48 : decode cX8_least 48 = .ok (.getfield 190, 3) := by decide +kernel
theorem dX8_least_51 : decode cX8_least 51 = .ok (.iload_n 3, 1) := by decide +kernel
theorem dX8_least_52 : decode cX8_least 52 = .ok (.baload, 1) := by decide +kernel
theorem dX8_least_53 : decode cX8_least 53 = .ok (.ifCond .ne 5, 3) := by decide +kernel
theorem dX8_least_56 : decode cX8_least 56 = .ok (.iconst (-1), 1) := by decide +kernel
theorem dX8_least_57 : decode cX8_least 57 = .ok (.ireturn, 1) := by decide +kernel
theorem dX8_least_58 : decode cX8_least 58 = .ok (.iconst 1, 1) := by decide +kernel
theorem dX8_least_59 : decode cX8_least 59 = .ok (.istore 4, 2) := by decide +kernel
theorem dX8_least_61 : decode cX8_least 61 = .ok (.iload 4, 2) := by decide +kernel
theorem dX8_least_63 : decode cX8_least 63 = .ok (.sipush 9999, 3) := by decide +kernel
theorem dX8_least_66 : decode cX8_least 66 = .ok (.if_icmp .gt 45, 3) := by decide +kernel
theorem dX8_least_69 : decode cX8_least 69 = .ok (.aload_n 0, 1) := by decide +kernel
theorem dX8_least_70 : decode cX8_least 70 = .ok (.getfield 54, 3) := by decide +kernel
theorem dX8_least_73 : decode cX8_least 73 = .ok (.aload_n 0, 1) := by decide +kernel
theorem dX8_least_74 : decode cX8_least 74 = .ok (.getfield 23, 3) := by decide +kernel
theorem dX8_least_77 : decode cX8_least 77 = .ok (.aload_n 0, 1) := by decide +kernel
theorem dX8_least_78 : decode cX8_least 78 = .ok (.getfield 30, 3) := by decide +kernel
theorem dX8_least_81 : decode cX8_least 81 = .ok (.iload_n 1, 1) := by decide +kernel
theorem dX8_least_82 : decode cX8_least 82 = .ok (.iload 4, 2) := by decide +kernel
theorem dX8_least_84 : decode cX8_least 84 = .ok (.invokevirtual 287, 3) := by decide +kernel
theorem dX8_least_87 : decode cX8_least 87 = .ok (.aload_n 0, 1) := by decide +kernel
theorem dX8_least_88 : decode cX8_least 88 = .ok (.getfield 54, 3) := by decide +kernel
theorem dX8_least_91 : decode cX8_least 91 = .ok (.getfield 293, 3) := by decide +kernel
theorem dX8_least_94 : decode cX8_least 94 = .ok (.iload_n 2, 1) := by decide +kernel
theorem dX8_least_95 : decode cX8_least 95 = .ok (.ishr, 1) := by decide +kernel
theorem dX8_least_96 : decode cX8_least 96 = .ok (.iconst 1, 1) := by decide +kernel
theorem dX8_least_97 : decode cX8_least 97 = .ok (.iand, 1) := by decide +kernel
theorem dX8_least_98 : decode cX8_least 98 = .ok (.iconst 1, 1) := by decide +kernel
theorem dX8_least_99 : decode cX8_least 99 = .ok (.if_icmp .ne 6, 3) := by decide +kernel
theorem dX8_least_102 : decode cX8_least 102 = .ok (.iload 4, 2) := by decide +kernel
theorem dX8_least_104 : decode cX8_least 104 = .ok (.ireturn, 1) := by decide +kernel
theorem dX8_least_105 : decode cX8_least 105 = .ok (.iinc 4 1, 3) := by decide +kernel
theorem dX8_least_108 : decode cX8_least 108 = .ok (.goto (-47), 3) := by decide +kernel
theorem dX8_least_111 : decode cX8_least 111 = .ok (.iconst (-1), 1) := by decide +kernel
theorem dX8_least_112 : decode cX8_least 112 = .ok (.ireturn, 1) := by decide +kernel
theorem dX8_letter_0 : decode cX8_letter 0 = .ok (.iload_n 3, 1) := by decide +kernel
theorem dX8_letter_1 : decode cX8_letter 1 = .ok (.ifCond .lt 9, 3) := by decide +kernel
theorem dX8_letter_4 : decode cX8_letter 4 = .ok (.iload_n 3, 1) := by decide +kernel
theorem dX8_letter_5 : decode cX8_letter 5 = .ok (.bipush 6, 2) := by decide +kernel
theorem dX8_letter_7 : decode cX8_letter 7 = .ok (.if_icmp .lt 5, 3) := by decide +kernel
theorem dX8_letter_10 : decode cX8_letter 10 = .ok (.iconst (-1), 1) := by decide +kernel
theorem dX8_letter_11 : decode cX8_letter 11 = .ok (.ireturn, 1) := by decide +kernel
theorem dX8_letter_12 : decode cX8_letter 12 = .ok (.iload_n 1, 1) := by decide +kernel
theorem dX8_letter_13 : decode cX8_letter 13 = .ok (.ifCond .ne 25, 3) := by decide +kernel
theorem dX8_letter_16 : decode cX8_letter 16 = .ok (.aload_n 0, 1) := by decide +kernel
theorem dX8_letter_17 : decode cX8_letter 17 = .ok (.iload_n 2, 1) := by decide +kernel
theorem dX8_letter_18 : decode cX8_letter 18 = .ok (.invokevirtual 155, 3) := by decide +kernel
theorem dX8_letter_21 : decode cX8_letter 21 = .ok (.ifCond .eq 17, 3) := by decide +kernel
theorem dX8_letter_24 : decode cX8_letter 24 = .ok (.aload_n 0, 1) := by decide +kernel
theorem dX8_letter_25 : decode cX8_letter 25 = .ok (.getfield 23, 3) := by decide +kernel
theorem dX8_letter_28 : decode cX8_letter 28 = .ok (.getfield 159, 3) := by decide +kernel
theorem dX8_letter_31 : decode cX8_letter 31 = .ok (.iload_n 2, 1) := by decide +kernel
theorem dX8_letter_32 : decode cX8_letter 32 = .ok (.iaload, 1) := by decide +kernel
theorem dX8_letter_33 : decode cX8_letter 33 = .ok (.iload_n 3, 1) := by decide +kernel
theorem dX8_letter_34 : decode cX8_letter 34 = .ok (.invokestatic 162, 3) := by decide +kernel
theorem dX8_letter_37 : decode cX8_letter 37 = .ok (.ireturn, 1) := by decide +kernel
theorem dX8_letter_38 : decode cX8_letter 38 = .ok (.iload_n 1, 1) := by decide +kernel
theorem dX8_letter_39 : decode cX8_letter 39 = .ok (.iconst 1, 1) := by decide +kernel
theorem dX8_letter_40 : decode cX8_letter 40 = .ok (.if_icmp .ne 25, 3) := by decide +kernel
theorem dX8_letter_43 : decode cX8_letter 43 = .ok (.aload_n 0, 1) := by decide +kernel
theorem dX8_letter_44 : decode cX8_letter 44 = .ok (.iload_n 2, 1) := by decide +kernel
theorem dX8_letter_45 : decode cX8_letter 45 = .ok (.invokevirtual 166, 3) := by decide +kernel
theorem dX8_letter_48 : decode cX8_letter 48 = .ok (.ifCond .eq 17, 3) := by decide +kernel
theorem dX8_letter_51 : decode cX8_letter 51 = .ok (.aload_n 0, 1) := by decide +kernel
theorem dX8_letter_52 : decode cX8_letter 52 = .ok (.getfield 23, 3) := by decide +kernel
theorem dX8_letter_55 : decode cX8_letter 55 = .ok (.getfield 169, 3) := by decide +kernel
theorem dX8_letter_58 : decode cX8_letter 58 = .ok (.iload_n 2, 1) := by decide +kernel
theorem dX8_letter_59 : decode cX8_letter 59 = .ok (.iaload, 1) := by decide +kernel
theorem dX8_letter_60 : decode cX8_letter 60 = .ok (.iload_n 3, 1) := by decide +kernel
theorem dX8_letter_61 : decode cX8_letter 61 = .ok (.invokestatic 162, 3) := by decide +kernel
theorem dX8_letter_64 : decode cX8_letter 64 = .ok (.ireturn, 1) := by decide +kernel
theorem dX8_letter_65 : decode cX8_letter 65 = .ok (.iconst (-1), 1) := by decide +kernel
theorem dX8_letter_66 : decode cX8_letter 66 = .ok (.ireturn, 1) := by decide +kernel
theorem dX8_letterOf_0 : decode cX8_letterOf 0 = .ok (.iload_n 0, 1) := by decide +kernel
theorem dX8_letterOf_1 : decode cX8_letterOf 1 = .ok (.iconst 5, 1) := by decide +kernel
theorem dX8_letterOf_2 : decode cX8_letterOf 2 = .ok (.iload_n 1, 1) := by decide +kernel
theorem dX8_letterOf_3 : decode cX8_letterOf 3 = .ok (.imul, 1) := by decide +kernel
theorem dX8_letterOf_4 : decode cX8_letterOf 4 = .ok (.ishr, 1) := by decide +kernel
theorem dX8_letterOf_5 : decode cX8_letterOf 5 = .ok (.bipush 31, 2) := by decide +kernel
theorem dX8_letterOf_7 : decode cX8_letterOf 7 = .ok (.iand, 1) := by decide +kernel
theorem dX8_letterOf_8 : decode cX8_letterOf 8 = .ok (.ireturn, 1) := by decide +kernel
theorem dX8_nights_0 : decode cX8_nights 0 = .ok (.iload_n 1, 1) := by decide +kernel
theorem dX8_nights_1 : decode cX8_nights 1 = .ok (.iconst 1, 1) := by decide +kernel
theorem dX8_nights_2 : decode cX8_nights 2 = .ok (.if_icmp .lt 40, 3) := by decide +kernel
theorem dX8_nights_5 : decode cX8_nights 5 = .ok (.iload_n 1, 1) := by decide +kernel
theorem dX8_nights_6 : decode cX8_nights 6 = .ok (.bipush 20, 2) := by decide +kernel
theorem dX8_nights_8 : decode cX8_nights 8 = .ok (.if_icmp .gt 34, 3) := by decide +kernel
theorem dX8_nights_11 : decode cX8_nights 11 = .ok (.iload_n 2, 1) := by decide +kernel
theorem dX8_nights_12 : decode cX8_nights 12 = .ok (.iconst 1, 1) := by decide +kernel
theorem dX8_nights_13 : decode cX8_nights 13 = .ok (.if_icmp .lt 29, 3) := by decide +kernel
theorem dX8_nights_16 : decode cX8_nights 16 = .ok (.iload_n 2, 1) := by decide +kernel
theorem dX8_nights_17 : decode cX8_nights 17 = .ok (.bipush 60, 2) := by decide +kernel
theorem dX8_nights_19 : decode cX8_nights 19 = .ok (.if_icmp .gt 23, 3) := by decide +kernel
theorem dX8_nights_22 : decode cX8_nights 22 = .ok (.iload_n 3, 1) := by decide +kernel
theorem dX8_nights_23 : decode cX8_nights 23 = .ok (.ifCond .lt 19, 3) := by decide +kernel
theorem dX8_nights_26 : decode cX8_nights 26 = .ok (.iload_n 3, 1) := by decide +kernel
theorem dX8_nights_27 : decode cX8_nights 27 = .ok (.iconst 2, 1) := by decide +kernel
theorem dX8_nights_28 : decode cX8_nights 28 = .ok (.if_icmp .gt 14, 3) := by decide +kernel
theorem dX8_nights_31 : decode cX8_nights 31 = .ok (.aload_n 0, 1) := by decide +kernel
theorem dX8_nights_32 : decode cX8_nights 32 = .ok (.getfield 30, 3) := by decide +kernel
theorem dX8_nights_35 : decode cX8_nights 35 = .ok (.getfield 135, 3) := by decide +kernel
theorem dX8_nights_38 : decode cX8_nights 38 = .ok (.iconst 1, 1) := by decide +kernel
theorem dX8_nights_39 : decode cX8_nights 39 = .ok (.if_icmp .ge 5, 3) := by decide +kernel
theorem dX8_nights_42 : decode cX8_nights 42 = .ok (.iconst (-1), 1) := by decide +kernel
theorem dX8_nights_43 : decode cX8_nights 43 = .ok (.ireturn, 1) := by decide +kernel
theorem dX8_nights_44 : decode cX8_nights 44 = .ok (.iconst 0, 1) := by decide +kernel
theorem dX8_nights_45 : decode cX8_nights 45 = .ok (.istore 4, 2) := by decide +kernel
theorem dX8_nights_47 : decode cX8_nights 47 = .ok (.iconst 0, 1) := by decide +kernel
theorem dX8_nights_48 : decode cX8_nights 48 = .ok (.istore 5, 2) := by decide +kernel
theorem dX8_nights_50 : decode cX8_nights 50 = .ok (.iconst 0, 1) := by decide +kernel
theorem dX8_nights_51 : decode cX8_nights 51 = .ok (.istore 6, 2) := by decide +kernel
theorem dX8_nights_53 : decode cX8_nights 53 = .ok (.aload_n 0, 1) := by decide +kernel
theorem dX8_nights_54 : decode cX8_nights 54 = .ok (.getfield 34, 3) := by decide +kernel
theorem dX8_nights_57 : decode cX8_nights 57 = .ok (.aload_n 0, 1) := by decide +kernel
theorem dX8_nights_58 : decode cX8_nights 58 = .ok (.getfield 30, 3) := by decide +kernel
theorem dX8_nights_61 : decode cX8_nights 61 = .ok (.invokevirtual 360, 3) := by decide +kernel
theorem dX8_nights_64 : decode cX8_nights 64 = .ok (.iconst 0, 1) := by decide +kernel
theorem dX8_nights_65 : decode cX8_nights 65 = .ok (.istore 7, 2) := by decide +kernel
theorem dX8_nights_67 : decode cX8_nights 67 = .ok (.iload 7, 2) := by decide +kernel
theorem dX8_nights_69 : decode cX8_nights 69 = .ok (.iload_n 1, 1) := by decide +kernel
theorem dX8_nights_70 : decode cX8_nights 70 = .ok (.if_icmp .ge 112, 3) := by decide +kernel
theorem dX8_nights_73 : decode cX8_nights 73 = .ok (.iconst 0, 1) := by decide +kernel
theorem dX8_nights_74 : decode cX8_nights 74 = .ok (.istore 8, 2) := by decide +kernel
theorem dX8_nights_76 : decode cX8_nights 76 = .ok (.iload 8, 2) := by decide +kernel
theorem dX8_nights_78 : decode cX8_nights 78 = .ok (.iload_n 2, 1) := by decide +kernel
theorem dX8_nights_79 : decode cX8_nights 79 = .ok (.if_icmp .ge 37, 3) := by decide +kernel
theorem dX8_nights_82 : decode cX8_nights 82 = .ok (.aload_n 0, 1) := by decide +kernel
theorem dX8_nights_83 : decode cX8_nights 83 = .ok (.getfield 30, 3) := by decide +kernel
theorem dX8_nights_86 : decode cX8_nights 86 = .ok (.getfield 132, 3) := by decide +kernel
theorem dX8_nights_89 : decode cX8_nights 89 = .ok (.sipush 999, 3) := by decide +kernel
theorem dX8_nights_92 : decode cX8_nights 92 = .ok (.if_icmp .ge 24, 3) := by decide +kernel
theorem dX8_nights_95 : decode cX8_nights 95 = .ok (.aload_n 0, 1) := by decide +kernel
theorem dX8_nights_96 : decode cX8_nights 96 = .ok (.getfield 47, 3) := by decide +kernel
theorem dX8_nights_99 : decode cX8_nights 99 = .ok (.aload_n 0, 1) := by decide +kernel
theorem dX8_nights_100 : decode cX8_nights 100 = .ok (.getfield 23, 3) := by decide +kernel
theorem dX8_nights_103 : decode cX8_nights 103 = .ok (.aload_n 0, 1) := by decide +kernel
theorem dX8_nights_104 : decode cX8_nights 104 = .ok (.getfield 30, 3) := by decide +kernel
theorem dX8_nights_107 : decode cX8_nights 107 = .ok (.invokevirtual 265, 3) := by decide +kernel
theorem dX8_nights_110 : decode cX8_nights 110 = .ok (.iinc 8 1, 3) := by decide +kernel
theorem dX8_nights_113 : decode cX8_nights 113 = .ok (.goto (-37), 3) := by decide +kernel
theorem dX8_nights_116 : decode cX8_nights 116 = .ok (.iload 4, 2) := by decide +kernel
theorem dX8_nights_118 : decode cX8_nights 118 = .ok (.aload_n 0, 1) := by decide +kernel
theorem dX8_nights_119 : decode cX8_nights 119 = .ok (.getfield 30, 3) := by decide +kernel
theorem dX8_nights_122 : decode cX8_nights 122 = .ok (.getfield 262, 3) := by decide +kernel
theorem dX8_nights_125 : decode cX8_nights 125 = .ok (.aload_n 0, 1) := by decide +kernel
theorem dX8_nights_126 : decode cX8_nights 126 = .ok (.getfield 34, 3) := by decide +kernel
theorem dX8_nights_129 : decode cX8_nights 129 = .ok (.getfield 262, 3) := by decide +kernel
theorem dX8_nights_132 : decode cX8_nights 132 = .ok (.isub, 1) := by decide +kernel
theorem dX8_nights_133 : decode cX8_nights 133 = .ok (.iadd, 1) := by decide +kernel
theorem dX8_nights_134 : decode cX8_nights 134 = .ok (.istore 4, 2) := by decide +kernel
theorem dX8_nights_136 : decode cX8_nights 136 = .ok (.iload 5, 2) := by decide +kernel
theorem dX8_nights_138 : decode cX8_nights 138 = .ok (.aload_n 0, 1) := by decide +kernel
theorem dX8_nights_139 : decode cX8_nights 139 = .ok (.getfield 30, 3) := by decide +kernel
theorem dX8_nights_142 : decode cX8_nights 142 = .ok (.invokevirtual 136, 3) := by decide +kernel
theorem dX8_nights_145 : decode cX8_nights 145 = .ok (.iadd, 1) := by decide +kernel
theorem dX8_nights_146 : decode cX8_nights 146 = .ok (.istore 5, 2) := by decide +kernel
theorem dX8_nights_148 : decode cX8_nights 148 = .ok (.iload 6, 2) := by decide +kernel
theorem dX8_nights_150 : decode cX8_nights 150 = .ok (.aload_n 0, 1) := by decide +kernel
theorem dX8_nights_151 : decode cX8_nights 151 = .ok (.invokevirtual 364, 3) := by decide +kernel
theorem dX8_nights_154 : decode cX8_nights 154 = .ok (.ifCond .eq 7, 3) := by decide +kernel
theorem dX8_nights_157 : decode cX8_nights 157 = .ok (.iconst 1, 1) := by decide +kernel
theorem dX8_nights_158 : decode cX8_nights 158 = .ok (.goto 4, 3) := by decide +kernel
theorem dX8_nights_161 : decode cX8_nights 161 = .ok (.iconst 0, 1) := by decide +kernel
theorem dX8_nights_162 : decode cX8_nights 162 = .ok (.iadd, 1) := by decide +kernel
theorem dX8_nights_163 : decode cX8_nights 163 = .ok (.istore 6, 2) := by decide +kernel
theorem dX8_nights_165 : decode cX8_nights 165 = .ok (.aload_n 0, 1) := by decide +kernel
theorem dX8_nights_166 : decode cX8_nights 166 = .ok (.getfield 30, 3) := by decide +kernel
theorem dX8_nights_169 : decode cX8_nights 169 = .ok (.aload_n 0, 1) := by decide +kernel
theorem dX8_nights_170 : decode cX8_nights 170 = .ok (.getfield 34, 3) := by decide +kernel
theorem dX8_nights_173 : decode cX8_nights 173 = .ok (.invokevirtual 360, 3) := by decide +kernel
theorem dX8_nights_176 : decode cX8_nights 176 = .ok (.iinc 7 1, 3) := by decide +kernel
theorem dX8_nights_179 : decode cX8_nights 179 = .ok (.goto (-112), 3) := by decide +kernel
theorem dX8_nights_182 : decode cX8_nights 182 = .ok (.iload_n 3, 1) := by decide +kernel
theorem dX8_nights_183 : decode cX8_nights 183 = .ok (.ifCond .ne 8, 3) := by decide +kernel
theorem dX8_nights_186 : decode cX8_nights 186 = .ok (.iload 4, 2) := by decide +kernel
theorem dX8_nights_188 : decode cX8_nights 188 = .ok (.goto 15, 3) := by decide +kernel
theorem dX8_nights_191 : decode cX8_nights 191 = .ok (.iload_n 3, 1) := by decide +kernel
theorem dX8_nights_192 : decode cX8_nights 192 = .ok (.iconst 1, 1) := by decide +kernel
theorem dX8_nights_193 : decode cX8_nights 193 = .ok (.if_icmp .ne 8, 3) := by decide +kernel
theorem dX8_nights_196 : decode cX8_nights 196 = .ok (.iload 5, 2) := by decide +kernel
theorem dX8_nights_198 : decode cX8_nights 198 = .ok (.goto 5, 3) := by decide +kernel
theorem dX8_nights_201 : decode cX8_nights 201 = .ok (.iload 6, 2) := by decide +kernel
theorem dX8_nights_203 : decode cX8_nights 203 = .ok (.ireturn, 1) := by decide +kernel
theorem dX8_octet_0 : decode cX8_octet 0 = .ok (.iload_n 1, 1) := by decide +kernel
theorem dX8_octet_1 : decode cX8_octet 1 = .ok (.ifCond .lt 11, 3) := by decide +kernel
theorem dX8_octet_4 : decode cX8_octet 4 = .ok (.iload_n 1, 1) := by decide +kernel
theorem dX8_octet_5 : decode cX8_octet 5 = .ok (.aload_n 0, 1) := by decide +kernel
theorem dX8_octet_6 : decode cX8_octet 6 = .ok (.getfield 368, 3) := by decide +kernel
theorem dX8_octet_9 : decode cX8_octet 9 = .ok (.if_icmp .lt 7, 3) := by decide +kernel
theorem dX8_octet_12 : decode cX8_octet 12 = .ok (.iconst (-1), 1) := by decide +kernel
theorem dX8_octet_13 : decode cX8_octet 13 = .ok (.goto 9, 3) := by decide +kernel
theorem dX8_octet_16 : decode cX8_octet 16 = .ok (.aload_n 0, 1) := by decide +kernel
theorem dX8_octet_17 : decode cX8_octet 17 = .ok (.getfield 68, 3) := by decide +kernel
theorem dX8_octet_20 : decode cX8_octet 20 = .ok (.iload_n 1, 1) := by decide +kernel
theorem dX8_octet_21 : decode cX8_octet 21 = .ok (.iaload, 1) := by decide +kernel
theorem dX8_octet_22 : decode cX8_octet 22 = .ok (.ireturn, 1) := by decide +kernel
theorem dX8_oddsOfHaving_0 : decode cX8_oddsOfHaving 0 = .ok (.aload_n 0, 1) := by decide +kernel
theorem dX8_oddsOfHaving_1 : decode cX8_oddsOfHaving 1 = .ok (.getfield 23, 3) := by decide +kernel
theorem dX8_oddsOfHaving_4 : decode cX8_oddsOfHaving 4 = .ok (.iload_n 1, 1) := by decide +kernel
theorem dX8_oddsOfHaving_5 : decode cX8_oddsOfHaving 5 = .ok (.invokevirtual 256, 3) := by decide +kernel
theorem dX8_oddsOfHaving_8 : decode cX8_oddsOfHaving 8 = .ok (.ifCond .eq 5, 3) := by decide +kernel
theorem dX8_oddsOfHaving_11 : decode cX8_oddsOfHaving 11 = .ok (.iconst 0, 1) := by decide +kernel
theorem dX8_oddsOfHaving_12 : decode cX8_oddsOfHaving 12 = .ok (.ireturn, 1) := by decide +kernel
theorem dX8_oddsOfHaving_13 : decode cX8_oddsOfHaving 13 = .ok (.aload_n 0, 1) := by decide +kernel
theorem dX8_oddsOfHaving_14 : decode cX8_oddsOfHaving 14 = .ok (.getfield 54, 3) := by decide +kernel
theorem dX8_oddsOfHaving_17 : decode cX8_oddsOfHaving 17 = .ok (.aload_n 0, 1) := by decide +kernel
theorem dX8_oddsOfHaving_18 : decode cX8_oddsOfHaving 18 = .ok (.getfield 23, 3) := by decide +kernel
theorem dX8_oddsOfHaving_21 : decode cX8_oddsOfHaving 21 = .ok (.aload_n 0, 1) := by decide +kernel
theorem dX8_oddsOfHaving_22 : decode cX8_oddsOfHaving 22 = .ok (.getfield 30, 3) := by decide +kernel
theorem dX8_oddsOfHaving_25 : decode cX8_oddsOfHaving 25 = .ok (.aload_n 0, 1) := by decide +kernel
theorem dX8_oddsOfHaving_26 : decode cX8_oddsOfHaving 26 = .ok (.getfield 30, 3) := by decide +kernel
theorem dX8_oddsOfHaving_29 : decode cX8_oddsOfHaving 29 = .ok (.iload_n 1, 1) := by decide +kernel
theorem dX8_oddsOfHaving_30 : decode cX8_oddsOfHaving 30 = .ok (.invokevirtual 187, 3) := by decide +kernel
theorem dX8_oddsOfHaving_33 : decode cX8_oddsOfHaving 33 = .ok (.aload_n 0, 1) := by decide +kernel
theorem dX8_oddsOfHaving_34 : decode cX8_oddsOfHaving 34 = .ok (.getfield 23, 3) := by decide +kernel
theorem dX8_oddsOfHaving_37 : decode cX8_oddsOfHaving 37 = .ok (.getfield 230, 3) := by decide +kernel
theorem dX8_oddsOfHaving_40 : decode cX8_oddsOfHaving 40 = .ok (.iload_n 2, 1) := by decide +kernel
theorem dX8_oddsOfHaving_41 : decode cX8_oddsOfHaving 41 = .ok (.iaload, 1) := by decide +kernel
theorem dX8_oddsOfHaving_42 : decode cX8_oddsOfHaving 42 = .ok (.invokevirtual 287, 3) := by decide +kernel
theorem dX8_oddsOfHaving_45 : decode cX8_oddsOfHaving 45 = .ok (.iconst 0, 1) := by decide +kernel
theorem dX8_oddsOfHaving_46 : decode cX8_oddsOfHaving 46 = .ok (.istore_n 3, 1) := by decide +kernel
theorem dX8_oddsOfHaving_47 : decode cX8_oddsOfHaving 47 = .ok (.iload_n 3, 1) := by decide +kernel
theorem dX8_oddsOfHaving_48 : decode cX8_oddsOfHaving 48 = .ok (.aload_n 0, 1) := by decide +kernel
theorem dX8_oddsOfHaving_49 : decode cX8_oddsOfHaving 49 = .ok (.getfield 30, 3) := by decide +kernel
theorem dX8_oddsOfHaving_52 : decode cX8_oddsOfHaving 52 = .ok (.getfield 135, 3) := by decide +kernel
theorem dX8_oddsOfHaving_55 : decode cX8_oddsOfHaving 55 = .ok (.if_icmp .ge 29, 3) := by decide +kernel
theorem dX8_oddsOfHaving_58 : decode cX8_oddsOfHaving 58 = .ok (.aload_n 0, 1) := by decide +kernel
theorem dX8_oddsOfHaving_59 : decode cX8_oddsOfHaving 59 = .ok (.getfield 54, 3) := by decide +kernel
theorem dX8_oddsOfHaving_62 : decode cX8_oddsOfHaving 62 = .ok (.getfield 290, 3) := by decide +kernel
theorem dX8_oddsOfHaving_65 : decode cX8_oddsOfHaving 65 = .ok (.iload_n 3, 1) := by decide +kernel
theorem dX8_oddsOfHaving_66 : decode cX8_oddsOfHaving 66 = .ok (.iaload, 1) := by decide +kernel
theorem dX8_oddsOfHaving_67 : decode cX8_oddsOfHaving 67 = .ok (.aload_n 0, 1) := by decide +kernel
theorem dX8_oddsOfHaving_68 : decode cX8_oddsOfHaving 68 = .ok (.getfield 65, 3) := by decide +kernel
theorem dX8_oddsOfHaving_71 : decode cX8_oddsOfHaving 71 = .ok (.iload_n 3, 1) := by decide +kernel
theorem dX8_oddsOfHaving_72 : decode cX8_oddsOfHaving 72 = .ok (.iaload, 1) := by decide +kernel
theorem dX8_oddsOfHaving_73 : decode cX8_oddsOfHaving 73 = .ok (.if_icmp .eq 5, 3) := by decide +kernel
theorem dX8_oddsOfHaving_76 : decode cX8_oddsOfHaving 76 = .ok (.iconst 0, 1) := by decide +kernel
theorem dX8_oddsOfHaving_77 : decode cX8_oddsOfHaving 77 = .ok (.ireturn, 1) := by decide +kernel
theorem dX8_oddsOfHaving_78 : decode cX8_oddsOfHaving 78 = .ok (.iinc 3 1, 3) := by decide +kernel
theorem dX8_oddsOfHaving_81 : decode cX8_oddsOfHaving 81 = .ok (.goto (-34), 3) := by decide +kernel
theorem dX8_oddsOfHaving_84 : decode cX8_oddsOfHaving 84 = .ok (.aload_n 0, 1) := by decide +kernel
theorem dX8_oddsOfHaving_85 : decode cX8_oddsOfHaving 85 = .ok (.getfield 23, 3) := by decide +kernel
theorem dX8_oddsOfHaving_88 : decode cX8_oddsOfHaving 88 = .ok (.getfield 178, 3) := by decide +kernel
theorem dX8_oddsOfHaving_91 : decode cX8_oddsOfHaving 91 = .ok (.iload_n 1, 1) := by decide +kernel
theorem dX8_oddsOfHaving_92 : decode cX8_oddsOfHaving 92 = .ok (.iaload, 1) := by decide +kernel
theorem dX8_oddsOfHaving_93 : decode cX8_oddsOfHaving 93 = .ok (.aload_n 0, 1) := by decide +kernel
theorem dX8_oddsOfHaving_94 : decode cX8_oddsOfHaving 94 = .ok (.getfield 23, 3) := by decide +kernel
theorem dX8_oddsOfHaving_97 : decode cX8_oddsOfHaving 97 = .ok (.getfield 239, 3) := by decide +kernel
theorem dX8_oddsOfHaving_100 : decode cX8_oddsOfHaving 100 = .ok (.iload_n 2, 1) := by decide +kernel
theorem dX8_oddsOfHaving_101 : decode cX8_oddsOfHaving 101 = .ok (.iaload, 1) := by decide +kernel
theorem dX8_oddsOfHaving_102 : decode cX8_oddsOfHaving 102 = .ok (.imul, 1) := by decide +kernel
theorem dX8_oddsOfHaving_103 : decode cX8_oddsOfHaving 103 = .ok (.ireturn, 1) := by decide +kernel
theorem dX8_on_0 : decode cX8_on 0 = .ok (.aload_n 0, 1) := by decide +kernel
theorem dX8_on_1 : decode cX8_on 1 = .ok (.getfield 74, 3) := by decide +kernel
theorem dX8_on_4 : decode cX8_on 4 = .ok (.istore_n 1, 1) := by decide +kernel
theorem dX8_on_5 : decode cX8_on 5 = .ok (.aload_n 0, 1) := by decide +kernel
theorem dX8_on_6 : decode cX8_on 6 = .ok (.iconst 0, 1) := by decide +kernel
theorem dX8_on_7 : decode cX8_on 7 = .ok (.putfield 74, 3) := by decide +kernel
theorem dX8_on_10 : decode cX8_on 10 = .ok (.aload_n 0, 1) := by decide +kernel
theorem dX8_on_11 : decode cX8_on 11 = .ok (.iload_n 1, 1) := by decide +kernel
theorem dX8_on_12 : decode cX8_on 12 = .ok (.invokevirtual 386, 3) := by decide +kernel
theorem dX8_on_15 : decode cX8_on 15 = .ok (.ifCond .ne 10, 3) := by decide +kernel
theorem dX8_on_18 : decode cX8_on 18 = .ok (.aload_n 0, 1) := by decide +kernel
theorem dX8_on_19 : decode cX8_on 19 = .ok (.iconst 5, 1) := by decide +kernel
theorem dX8_on_20 : decode cX8_on 20 = .ok (.invokevirtual 78, 3) := by decide +kernel
theorem dX8_on_23 : decode cX8_on 23 = .ok (.iconst 0, 1) := by decide +kernel
theorem dX8_on_24 : decode cX8_on 24 = .ok (.ireturn, 1) := by decide +kernel
theorem dX8_on_25 : decode cX8_on 25 = .ok (.aload_n 0, 1) := by decide +kernel
theorem dX8_on_26 : decode cX8_on 26 = .ok (.getfield 30, 3) := by decide +kernel
theorem dX8_on_29 : decode cX8_on 29 = .ok (.aload_n 0, 1) := by decide +kernel
theorem dX8_on_30 : decode cX8_on 30 = .ok (.getfield 23, 3) := by decide +kernel
theorem dX8_on_33 : decode cX8_on 33 = .ok (.invokevirtual 90, 3) := by decide +kernel
theorem dX8_on_36 : decode cX8_on 36 = .ok (.aload_n 0, 1) := by decide +kernel
theorem dX8_on_37 : decode cX8_on 37 = .ok (.getfield 30, 3) := by decide +kernel
theorem dX8_on_40 : decode cX8_on 40 = .ok (.aload_n 0, 1) := by decide +kernel
theorem dX8_on_41 : decode cX8_on 41 = .ok (.iconst 0, 1) := by decide +kernel
theorem dX8_on_42 : decode cX8_on 42 = .ok (.invokevirtual 337, 3) := by decide +kernel
theorem dX8_on_45 : decode cX8_on 45 = .ok (.putfield 132, 3) := by decide +kernel
theorem dX8_on_48 : decode cX8_on 48 = .ok (.iconst 0, 1) := by decide +kernel
theorem dX8_on_49 : decode cX8_on 49 = .ok (.istore_n 2, 1) := by decide +kernel
theorem dX8_on_50 : decode cX8_on 50 = .ok (.iload_n 2, 1) := by decide +kernel
theorem dX8_on_51 : decode cX8_on 51 = .ok (.aload_n 0, 1) := by decide +kernel
theorem dX8_on_52 : decode cX8_on 52 = .ok (.getfield 30, 3) := by decide +kernel
theorem dX8_on_55 : decode cX8_on 55 = .ok (.getfield 135, 3) := by decide +kernel
theorem dX8_on_58 : decode cX8_on 58 = .ok (.if_icmp .ge 132, 3) := by decide +kernel
theorem dX8_on_61 : decode cX8_on 61 = .ok (.iconst 2, 1) := by decide +kernel
theorem dX8_on_62 : decode cX8_on 62 = .ok (.bipush 7, 2) := by decide +kernel
theorem dX8_on_64 : decode cX8_on 64 = .ok (.iload_n 2, 1) := by decide +kernel
theorem dX8_on_65 : decode cX8_on 65 = .ok (.imul, 1) := by decide +kernel
theorem dX8_on_66 : decode cX8_on 66 = .ok (.iadd, 1) := by decide +kernel
theorem dX8_on_67 : decode cX8_on 67 = .ok (.istore_n 3, 1) := by decide +kernel
theorem dX8_on_68 : decode cX8_on 68 = .ok (.aload_n 0, 1) := by decide +kernel
theorem dX8_on_69 : decode cX8_on 69 = .ok (.iload_n 3, 1) := by decide +kernel
theorem dX8_on_70 : decode cX8_on 70 = .ok (.invokevirtual 389, 3) := by decide +kernel
theorem dX8_on_73 : decode cX8_on 73 = .ok (.istore 4, 2) := by decide +kernel
theorem dX8_on_75 : decode cX8_on 75 = .ok (.aload_n 0, 1) := by decide +kernel
theorem dX8_on_76 : decode cX8_on 76 = .ok (.getfield 30, 3) := by decide +kernel
theorem dX8_on_79 : decode cX8_on 79 = .ok (.getfield 215, 3) := by decide +kernel
theorem dX8_on_82 : decode cX8_on 82 = .ok (.iload_n 2, 1) := by decide +kernel
theorem dX8_on_83 : decode cX8_on 83 = .ok (.iload 4, 2) := by decide +kernel
theorem dX8_on_85 : decode cX8_on 85 = .ok (.iastore, 1) := by decide +kernel
theorem dX8_on_86 : decode cX8_on 86 = .ok (.aload_n 0, 1) := by decide +kernel
theorem dX8_on_87 : decode cX8_on 87 = .ok (.getfield 30, 3) := by decide +kernel
theorem dX8_on_90 : decode cX8_on 90 = .ok (.getfield 190, 3) := by decide +kernel
theorem dX8_on_93 : decode cX8_on 93 = .ok (.iload 4, 2) := by decide +kernel
theorem dX8_on_95 : decode cX8_on 95 = .ok (.aload_n 0, 1) := by decide +kernel
theorem dX8_on_96 : decode cX8_on 96 = .ok (.iload_n 3, 1) := by decide +kernel
theorem dX8_on_97 : decode cX8_on 97 = .ok (.iconst 1, 1) := by decide +kernel
theorem dX8_on_98 : decode cX8_on 98 = .ok (.iadd, 1) := by decide +kernel
theorem dX8_on_99 : decode cX8_on 99 = .ok (.invokevirtual 389, 3) := by decide +kernel
theorem dX8_on_102 : decode cX8_on 102 = .ok (.iconst 1, 1) := by decide +kernel
theorem dX8_on_103 : decode cX8_on 103 = .ok (.if_icmp .ne 7, 3) := by decide +kernel
theorem dX8_on_106 : decode cX8_on 106 = .ok (.iconst 1, 1) := by decide +kernel
theorem dX8_on_107 : decode cX8_on 107 = .ok (.goto 4, 3) := by decide +kernel
theorem dX8_on_110 : decode cX8_on 110 = .ok (.iconst 0, 1) := by decide +kernel
theorem dX8_on_111 : decode cX8_on 111 = .ok (.bastore, 1) := by decide +kernel
theorem dX8_on_112 : decode cX8_on 112 = .ok (.aload_n 0, 1) := by decide +kernel
theorem dX8_on_113 : decode cX8_on 113 = .ok (.getfield 30, 3) := by decide +kernel
theorem dX8_on_116 : decode cX8_on 116 = .ok (.getfield 194, 3) := by decide +kernel
theorem dX8_on_119 : decode cX8_on 119 = .ok (.iload 4, 2) := by decide +kernel
theorem dX8_on_121 : decode cX8_on 121 = .ok (.aload_n 0, 1) := by decide +kernel
theorem dX8_on_122 : decode cX8_on 122 = .ok (.iload_n 3, 1) := by decide +kernel
theorem dX8_on_123 : decode cX8_on 123 = .ok (.iconst 2, 1) := by decide +kernel
theorem dX8_on_124 : decode cX8_on 124 = .ok (.iadd, 1) := by decide +kernel
theorem dX8_on_125 : decode cX8_on 125 = .ok (.invokevirtual 389, 3) := by decide +kernel
theorem dX8_on_128 : decode cX8_on 128 = .ok (.iconst 1, 1) := by decide +kernel
theorem dX8_on_129 : decode cX8_on 129 = .ok (.isub, 1) := by decide +kernel
theorem dX8_on_130 : decode cX8_on 130 = .ok (.iastore, 1) := by decide +kernel
theorem dX8_on_131 : decode cX8_on 131 = .ok (.aload_n 0, 1) := by decide +kernel
theorem dX8_on_132 : decode cX8_on 132 = .ok (.getfield 30, 3) := by decide +kernel
theorem dX8_on_135 : decode cX8_on 135 = .ok (.getfield 197, 3) := by decide +kernel
theorem dX8_on_138 : decode cX8_on 138 = .ok (.iload 4, 2) := by decide +kernel
theorem dX8_on_140 : decode cX8_on 140 = .ok (.aload_n 0, 1) := by decide +kernel
theorem dX8_on_141 : decode cX8_on 141 = .ok (.iload_n 3, 1) := by decide +kernel
theorem dX8_on_142 : decode cX8_on 142 = .ok (.iconst 3, 1) := by decide +kernel
theorem dX8_on_143 : decode cX8_on 143 = .ok (.iadd, 1) := by decide +kernel
theorem dX8_on_144 : decode cX8_on 144 = .ok (.invokevirtual 389, 3) := by decide +kernel
theorem dX8_on_147 : decode cX8_on 147 = .ok (.iastore, 1) := by decide +kernel
theorem dX8_on_148 : decode cX8_on 148 = .ok (.aload_n 0, 1) := by decide +kernel
theorem dX8_on_149 : decode cX8_on 149 = .ok (.getfield 30, 3) := by decide +kernel
theorem dX8_on_152 : decode cX8_on 152 = .ok (.getfield 200, 3) := by decide +kernel
theorem dX8_on_155 : decode cX8_on 155 = .ok (.iload 4, 2) := by decide +kernel
theorem dX8_on_157 : decode cX8_on 157 = .ok (.aload_n 0, 1) := by decide +kernel
theorem dX8_on_158 : decode cX8_on 158 = .ok (.iload_n 3, 1) := by decide +kernel
theorem dX8_on_159 : decode cX8_on 159 = .ok (.iconst 4, 1) := by decide +kernel
theorem dX8_on_160 : decode cX8_on 160 = .ok (.iadd, 1) := by decide +kernel
theorem dX8_on_161 : decode cX8_on 161 = .ok (.invokevirtual 389, 3) := by decide +kernel
theorem dX8_on_164 : decode cX8_on 164 = .ok (.iconst 1, 1) := by decide +kernel
theorem dX8_on_165 : decode cX8_on 165 = .ok (.isub, 1) := by decide +kernel
theorem dX8_on_166 : decode cX8_on 166 = .ok (.iastore, 1) := by decide +kernel
theorem dX8_on_167 : decode cX8_on 167 = .ok (.aload_n 0, 1) := by decide +kernel
theorem dX8_on_168 : decode cX8_on 168 = .ok (.getfield 30, 3) := by decide +kernel
theorem dX8_on_171 : decode cX8_on 171 = .ok (.getfield 203, 3) := by decide +kernel
theorem dX8_on_174 : decode cX8_on 174 = .ok (.iload 4, 2) := by decide +kernel
theorem dX8_on_176 : decode cX8_on 176 = .ok (.aload_n 0, 1) := by decide +kernel
theorem dX8_on_177 : decode cX8_on 177 = .ok (.iload_n 3, 1) := by decide +kernel
theorem dX8_on_178 : decode cX8_on 178 = .ok (.iconst 5, 1) := by decide +kernel
theorem dX8_on_179 : decode cX8_on 179 = .ok (.iadd, 1) := by decide +kernel
theorem dX8_on_180 : decode cX8_on 180 = .ok (.invokevirtual 337, 3) := by decide +kernel
theorem dX8_on_183 : decode cX8_on 183 = .ok (.iastore, 1) := by decide +kernel
theorem dX8_on_184 : decode cX8_on 184 = .ok (.iinc 2 1, 3) := by decide +kernel
theorem dX8_on_187 : decode cX8_on 187 = .ok (.goto (-137), 3) := by decide +kernel
theorem dX8_on_190 : decode cX8_on 190 = .ok (.iconst 0, 1) := by decide +kernel
theorem dX8_on_191 : decode cX8_on 191 = .ok (.istore_n 2, 1) := by decide +kernel
theorem dX8_on_192 : decode cX8_on 192 = .ok (.iload_n 2, 1) := by decide +kernel
theorem dX8_on_193 : decode cX8_on 193 = .ok (.aload_n 0, 1) := by decide +kernel
theorem dX8_on_194 : decode cX8_on 194 = .ok (.getfield 30, 3) := by decide +kernel
theorem dX8_on_197 : decode cX8_on 197 = .ok (.getfield 135, 3) := by decide +kernel
theorem dX8_on_200 : decode cX8_on 200 = .ok (.iconst 1, 1) := by decide +kernel
theorem dX8_on_201 : decode cX8_on 201 = .ok (.isub, 1) := by decide +kernel
theorem dX8_on_202 : decode cX8_on 202 = .ok (.if_icmp .ge 65, 3) := by decide +kernel
theorem dX8_on_205 : decode cX8_on 205 = .ok (.iconst 2, 1) := by decide +kernel
theorem dX8_on_206 : decode cX8_on 206 = .ok (.bipush 7, 2) := by decide +kernel
theorem dX8_on_208 : decode cX8_on 208 = .ok (.aload_n 0, 1) := by decide +kernel
theorem dX8_on_209 : decode cX8_on 209 = .ok (.getfield 30, 3) := by decide +kernel
theorem dX8_on_212 : decode cX8_on 212 = .ok (.getfield 135, 3) := by decide +kernel
theorem dX8_on_215 : decode cX8_on 215 = .ok (.imul, 1) := by decide +kernel
theorem dX8_on_216 : decode cX8_on 216 = .ok (.iadd, 1) := by decide +kernel
theorem dX8_on_217 : decode cX8_on 217 = .ok (.iconst 2, 1) := by decide +kernel
theorem dX8_on_218 : decode cX8_on 218 = .ok (.iload_n 2, 1) := by decide +kernel
theorem dX8_on_219 : decode cX8_on 219 = .ok (.imul, 1) := by decide +kernel
theorem dX8_on_220 : decode cX8_on 220 = .ok (.iadd, 1) := by decide +kernel
theorem dX8_on_221 : decode cX8_on 221 = .ok (.istore_n 3, 1) := by decide +kernel
theorem dX8_on_222 : decode cX8_on 222 = .ok (.aload_n 0, 1) := by decide +kernel
theorem dX8_on_223 : decode cX8_on 223 = .ok (.getfield 30, 3) := by decide +kernel
theorem dX8_on_226 : decode cX8_on 226 = .ok (.getfield 221, 3) := by decide +kernel
theorem dX8_on_229 : decode cX8_on 229 = .ok (.iload_n 2, 1) := by decide +kernel
theorem dX8_on_230 : decode cX8_on 230 = .ok (.aload_n 0, 1) := by decide +kernel
theorem dX8_on_231 : decode cX8_on 231 = .ok (.iload_n 3, 1) := by decide +kernel
theorem dX8_on_232 : decode cX8_on 232 = .ok (.invokevirtual 389, 3) := by decide +kernel
theorem dX8_on_235 : decode cX8_on 235 = .ok (.iconst 1, 1) := by decide +kernel
theorem dX8_on_236 : decode cX8_on 236 = .ok (.if_icmp .ne 7, 3) := by decide +kernel
theorem dX8_on_239 : decode cX8_on 239 = .ok (.iconst 1, 1) := by decide +kernel
theorem dX8_on_240 : decode cX8_on 240 = .ok (.goto 4, 3) := by decide +kernel
theorem dX8_on_243 : decode cX8_on 243 = .ok (.iconst 0, 1) := by decide +kernel
theorem dX8_on_244 : decode cX8_on 244 = .ok (.bastore, 1) := by decide +kernel
theorem dX8_on_245 : decode cX8_on 245 = .ok (.aload_n 0, 1) := by decide +kernel
theorem dX8_on_246 : decode cX8_on 246 = .ok (.getfield 30, 3) := by decide +kernel
theorem dX8_on_249 : decode cX8_on 249 = .ok (.getfield 224, 3) := by decide +kernel
theorem dX8_on_252 : decode cX8_on 252 = .ok (.iload_n 2, 1) := by decide +kernel
theorem dX8_on_253 : decode cX8_on 253 = .ok (.aload_n 0, 1) := by decide +kernel
theorem dX8_on_254 : decode cX8_on 254 = .ok (.iload_n 3, 1) := by decide +kernel
theorem dX8_on_255 : decode cX8_on 255 = .ok (.iconst 1, 1) := by decide +kernel
theorem dX8_on_256 : decode cX8_on 256 = .ok (.iadd, 1) := by decide +kernel
theorem dX8_on_257 : decode cX8_on 257 = .ok (.invokevirtual 389, 3) := by decide +kernel
theorem dX8_on_260 : decode cX8_on 260 = .ok (.iastore, 1) := by decide +kernel
theorem dX8_on_261 : decode cX8_on 261 = .ok (.iinc 2 1, 3) := by decide +kernel
theorem dX8_on_264 : decode cX8_on 264 = .ok (.goto (-72), 3) := by decide +kernel
theorem dX8_on_267 : decode cX8_on 267 = .ok (.aload_n 0, 1) := by decide +kernel
theorem dX8_on_268 : decode cX8_on 268 = .ok (.getfield 40, 3) := by decide +kernel
theorem dX8_on_271 : decode cX8_on 271 = .ok (.invokevirtual 94, 3) := by decide +kernel
theorem dX8_on_274 : decode cX8_on 274 = .ok (.aload_n 0, 1) := by decide +kernel
theorem dX8_on_275 : decode cX8_on 275 = .ok (.iconst 0, 1) := by decide +kernel
theorem dX8_on_276 : decode cX8_on 276 = .ok (.putfield 97, 3) := by decide +kernel
theorem dX8_on_279 : decode cX8_on 279 = .ok (.aload_n 0, 1) := by decide +kernel
theorem dX8_on_280 : decode cX8_on 280 = .ok (.dup, 1) := by decide +kernel
theorem dX8_on_281 : decode cX8_on 281 = .ok (.getfield 101, 3) := by decide +kernel
theorem dX8_on_284 : decode cX8_on 284 = .ok (.iconst 1, 1) := by decide +kernel
theorem dX8_on_285 : decode cX8_on 285 = .ok (.iadd, 1) := by decide +kernel
theorem dX8_on_286 : decode cX8_on 286 = .ok (.putfield 101, 3) := by decide +kernel
theorem dX8_on_289 : decode cX8_on 289 = .ok (.iconst 1, 1) := by decide +kernel
theorem dX8_on_290 : decode cX8_on 290 = .ok (.ireturn, 1) := by decide +kernel
theorem dX8_onTape_0 : decode cX8_onTape 0 = .ok (.iload_n 1, 1) := by decide +kernel
theorem dX8_onTape_1 : decode cX8_onTape 1 = .ok (.ifCond .lt 10, 3) := by decide +kernel
theorem dX8_onTape_4 : decode cX8_onTape 4 = .ok (.iload_n 1, 1) := by decide +kernel
theorem dX8_onTape_5 : decode cX8_onTape 5 = .ok (.sipush 1600, 3) := by decide +kernel
theorem dX8_onTape_8 : decode cX8_onTape 8 = .ok (.if_icmp .lt 7, 3) := by decide +kernel
theorem dX8_onTape_11 : decode cX8_onTape 11 = .ok (.iconst 0, 1) := by decide +kernel
theorem dX8_onTape_12 : decode cX8_onTape 12 = .ok (.goto 9, 3) := by decide +kernel
theorem dX8_onTape_15 : decode cX8_onTape 15 = .ok (.aload_n 0, 1) := by decide +kernel
theorem dX8_onTape_16 : decode cX8_onTape 16 = .ok (.getfield 9, 3) := by decide +kernel
theorem dX8_onTape_19 : decode cX8_onTape 19 = .ok (.iload_n 1, 1) := by decide +kernel
theorem dX8_onTape_20 : decode cX8_onTape 20 = .ok (.iaload, 1) := by decide +kernel
theorem dX8_onTape_21 : decode cX8_onTape 21 = .ok (.ireturn, 1) := by decide +kernel
theorem dX8_pairOnTape_0 : decode cX8_pairOnTape 0 = .ok (.sipush 256, 3) := by decide +kernel
theorem dX8_pairOnTape_3 : decode cX8_pairOnTape 3 = .ok (.aload_n 0, 1) := by decide +kernel
theorem dX8_pairOnTape_4 : decode cX8_pairOnTape 4 = .ok (.iload_n 1, 1) := by decide +kernel
theorem dX8_pairOnTape_5 : decode cX8_pairOnTape 5 = .ok (.invokevirtual 389, 3) := by decide +kernel
theorem dX8_pairOnTape_8 : decode cX8_pairOnTape 8 = .ok (.imul, 1) := by decide +kernel
theorem dX8_pairOnTape_9 : decode cX8_pairOnTape 9 = .ok (.aload_n 0, 1) := by decide +kernel
theorem dX8_pairOnTape_10 : decode cX8_pairOnTape 10 = .ok (.iload_n 1, 1) := by decide +kernel
theorem dX8_pairOnTape_11 : decode cX8_pairOnTape 11 = .ok (.iconst 1, 1) := by decide +kernel
theorem dX8_pairOnTape_12 : decode cX8_pairOnTape 12 = .ok (.iadd, 1) := by decide +kernel
theorem dX8_pairOnTape_13 : decode cX8_pairOnTape 13 = .ok (.invokevirtual 389, 3) := by decide +kernel
theorem dX8_pairOnTape_16 : decode cX8_pairOnTape 16 = .ok (.iadd, 1) := by decide +kernel
theorem dX8_pairOnTape_17 : decode cX8_pairOnTape 17 = .ok (.ireturn, 1) := by decide +kernel
theorem dX8_pulled_0 : decode cX8_pulled 0 = .ok (.aload_n 0, 1) := by decide +kernel
theorem dX8_pulled_1 : decode cX8_pulled 1 = .ok (.iload_n 1, 1) := by decide +kernel
theorem dX8_pulled_2 : decode cX8_pulled 2 = .ok (.invokevirtual 155, 3) := by decide +kernel
theorem dX8_pulled_5 : decode cX8_pulled 5 = .ok (.ifCond .eq 23, 3) := by decide +kernel
theorem dX8_pulled_8 : decode cX8_pulled 8 = .ok (.iload_n 2, 1) := by decide +kernel
theorem dX8_pulled_9 : decode cX8_pulled 9 = .ok (.iconst (-1), 1) := by decide +kernel
theorem dX8_pulled_10 : decode cX8_pulled 10 = .ok (.if_icmp .eq 11, 3) := by decide +kernel
theorem dX8_pulled_13 : decode cX8_pulled 13 = .ok (.aload_n 0, 1) := by decide +kernel
theorem dX8_pulled_14 : decode cX8_pulled 14 = .ok (.iload_n 2, 1) := by decide +kernel
theorem dX8_pulled_15 : decode cX8_pulled 15 = .ok (.invokevirtual 166, 3) := by decide +kernel
theorem dX8_pulled_18 : decode cX8_pulled 18 = .ok (.ifCond .eq 10, 3) := by decide +kernel
theorem dX8_pulled_21 : decode cX8_pulled 21 = .ok (.aload_n 0, 1) := by decide +kernel
theorem dX8_pulled_22 : decode cX8_pulled 22 = .ok (.getfield 97, 3) := by decide +kernel
theorem dX8_pulled_25 : decode cX8_pulled 25 = .ok (.ifCond .ne 5, 3) := by decide +kernel
theorem dX8_pulled_28 : decode cX8_pulled 28 = .ok (.iconst (-1), 1) := by decide +kernel
theorem dX8_pulled_29 : decode cX8_pulled 29 = .ok (.ireturn, 1) := by decide +kernel
theorem dX8_pulled_30 : decode cX8_pulled 30 = .ok (.iconst 0, 1) := by decide +kernel
theorem dX8_pulled_31 : decode cX8_pulled 31 = .ok (.istore_n 3, 1) := by decide +kernel
theorem dX8_pulled_32 : decode cX8_pulled 32 = .ok (.iconst 0, 1) := by decide +kernel
theorem dX8_pulled_33 : decode cX8_pulled 33 = .ok (.istore 4, 2) := by decide +kernel
theorem dX8_pulled_35 : decode cX8_pulled 35 = .ok (.iload 4, 2) := by decide +kernel
theorem dX8_pulled_37 : decode cX8_pulled 37 = .ok (.aload_n 0, 1) := by decide +kernel
theorem dX8_pulled_38 : decode cX8_pulled 38 = .ok (.getfield 23, 3) := by decide +kernel
theorem dX8_pulled_41 : decode cX8_pulled 41 = .ok (.getfield 113, 3) := by decide +kernel
theorem dX8_pulled_44 : decode cX8_pulled 44 = .ok (.if_icmp .ge 41, 3) := by decide +kernel
theorem dX8_pulled_47 : decode cX8_pulled 47 = .ok (.iconst 0, 1) := by decide +kernel
theorem dX8_pulled_48 : decode cX8_pulled 48 = .ok (.istore 5, 2) := by decide +kernel
theorem dX8_pulled_50 : decode cX8_pulled 50 = .ok (.iload 5, 2) := by decide +kernel
theorem dX8_pulled_52 : decode cX8_pulled 52 = .ok (.aload_n 0, 1) := by decide +kernel
theorem dX8_pulled_53 : decode cX8_pulled 53 = .ok (.getfield 23, 3) := by decide +kernel
theorem dX8_pulled_56 : decode cX8_pulled 56 = .ok (.getfield 116, 3) := by decide +kernel
theorem dX8_pulled_59 : decode cX8_pulled 59 = .ok (.if_icmp .ge 20, 3) := by decide +kernel
theorem dX8_pulled_62 : decode cX8_pulled 62 = .ok (.iload_n 3, 1) := by decide +kernel
theorem dX8_pulled_63 : decode cX8_pulled 63 = .ok (.aload_n 0, 1) := by decide +kernel
theorem dX8_pulled_64 : decode cX8_pulled 64 = .ok (.iload 4, 2) := by decide +kernel
theorem dX8_pulled_66 : decode cX8_pulled 66 = .ok (.iload 5, 2) := by decide +kernel
theorem dX8_pulled_68 : decode cX8_pulled 68 = .ok (.invokevirtual 340, 3) := by decide +kernel
theorem dX8_pulled_71 : decode cX8_pulled 71 = .ok (.iadd, 1) := by decide +kernel
theorem dX8_pulled_72 : decode cX8_pulled 72 = .ok (.istore_n 3, 1) := by decide +kernel
theorem dX8_pulled_73 : decode cX8_pulled 73 = .ok (.iinc 5 1, 3) := by decide +kernel
theorem dX8_pulled_76 : decode cX8_pulled 76 = .ok (.goto (-26), 3) := by decide +kernel
theorem dX8_pulled_79 : decode cX8_pulled 79 = .ok (.iinc 4 1, 3) := by decide +kernel
theorem dX8_pulled_82 : decode cX8_pulled 82 = .ok (.goto (-47), 3) := by decide +kernel
theorem dX8_pulled_85 : decode cX8_pulled 85 = .ok (.iload_n 3, 1) := by decide +kernel
theorem dX8_pulled_86 : decode cX8_pulled 86 = .ok (.ifCond .gt 5, 3) := by decide +kernel
theorem dX8_pulled_89 : decode cX8_pulled 89 = .ok (.iconst (-1), 1) := by decide +kernel
theorem dX8_pulled_90 : decode cX8_pulled 90 = .ok (.ireturn, 1) := by decide +kernel
theorem dX8_pulled_91 : decode cX8_pulled 91 = .ok (.iconst 0, 1) := by decide +kernel
theorem dX8_pulled_92 : decode cX8_pulled 92 = .ok (.istore 4, 2) := by decide +kernel
theorem dX8_pulled_94 : decode cX8_pulled 94 = .ok (.iconst 0, 1) := by decide +kernel
theorem dX8_pulled_95 : decode cX8_pulled 95 = .ok (.istore 5, 2) := by decide +kernel
theorem dX8_pulled_97 : decode cX8_pulled 97 = .ok (.iload 5, 2) := by decide +kernel
theorem dX8_pulled_99 : decode cX8_pulled 99 = .ok (.aload_n 0, 1) := by decide +kernel
theorem dX8_pulled_100 : decode cX8_pulled 100 = .ok (.getfield 23, 3) := by decide +kernel
theorem dX8_pulled_103 : decode cX8_pulled 103 = .ok (.getfield 116, 3) := by decide +kernel
theorem dX8_pulled_106 : decode cX8_pulled 106 = .ok (.if_icmp .ge 38, 3) := by decide +kernel
theorem dX8_pulled_109 : decode cX8_pulled 109 = .ok (.iload_n 2, 1) := by decide +kernel
theorem dX8_pulled_110 : decode cX8_pulled 110 = .ok (.iconst (-1), 1) := by decide +kernel
theorem dX8_pulled_111 : decode cX8_pulled 111 = .ok (.if_icmp .eq 9, 3) := by decide +kernel
theorem dX8_pulled_114 : decode cX8_pulled 114 = .ok (.iload_n 2, 1) := by decide +kernel
theorem dX8_pulled_115 : decode cX8_pulled 115 = .ok (.iload 5, 2) := by decide +kernel
theorem dX8_pulled_117 : decode cX8_pulled 117 = .ok (.if_icmp .ne 21, 3) := by decide +kernel
theorem dX8_pulled_120 : decode cX8_pulled 120 = .ok (.iload 4, 2) := by decide +kernel
theorem dX8_pulled_122 : decode cX8_pulled 122 = .ok (.sipush 1000, 3) := by decide +kernel
theorem dX8_pulled_125 : decode cX8_pulled 125 = .ok (.aload_n 0, 1) := by decide +kernel
theorem dX8_pulled_126 : decode cX8_pulled 126 = .ok (.iload_n 1, 1) := by decide +kernel
theorem dX8_pulled_127 : decode cX8_pulled 127 = .ok (.iload 5, 2) := by decide +kernel
theorem dX8_pulled_129 : decode cX8_pulled 129 = .ok (.invokevirtual 340, 3) := by decide +kernel
theorem dX8_pulled_132 : decode cX8_pulled 132 = .ok (.imul, 1) := by decide +kernel
theorem dX8_pulled_133 : decode cX8_pulled 133 = .ok (.iload_n 3, 1) := by decide +kernel
theorem dX8_pulled_134 : decode cX8_pulled 134 = .ok (.idiv, 1) := by decide +kernel
theorem dX8_pulled_135 : decode cX8_pulled 135 = .ok (.iadd, 1) := by decide +kernel
theorem dX8_pulled_136 : decode cX8_pulled 136 = .ok (.istore 4, 2) := by decide +kernel
theorem dX8_pulled_138 : decode cX8_pulled 138 = .ok (.iinc 5 1, 3) := by decide +kernel
theorem dX8_pulled_141 : decode cX8_pulled 141 = .ok (.goto (-44), 3) := by decide +kernel
theorem dX8_pulled_144 : decode cX8_pulled 144 = .ok (.iload 4, 2) := by decide +kernel
theorem dX8_pulled_146 : decode cX8_pulled 146 = .ok (.ireturn, 1) := by decide +kernel
theorem dX8_putOctet_0 : decode cX8_putOctet 0 = .ok (.aload_n 0, 1) := by decide +kernel
theorem dX8_putOctet_1 : decode cX8_putOctet 1 = .ok (.getfield 368, 3) := by decide +kernel
theorem dX8_putOctet_4 : decode cX8_putOctet 4 = .ok (.bipush 109, 2) := by decide +kernel
theorem dX8_putOctet_6 : decode cX8_putOctet 6 = .ok (.if_icmp .ge 23, 3) := by decide +kernel
theorem dX8_putOctet_9 : decode cX8_putOctet 9 = .ok (.aload_n 0, 1) := by decide +kernel
theorem dX8_putOctet_10 : decode cX8_putOctet 10 = .ok (.getfield 68, 3) := by decide +kernel
theorem dX8_putOctet_13 : decode cX8_putOctet 13 = .ok (.aload_n 0, 1) := by decide +kernel
theorem dX8_putOctet_14 : decode cX8_putOctet 14 = .ok (.getfield 368, 3) := by decide +kernel
theorem dX8_putOctet_17 : decode cX8_putOctet 17 = .ok (.iload_n 1, 1) := by decide +kernel
theorem dX8_putOctet_18 : decode cX8_putOctet 18 = .ok (.iastore, 1) := by decide +kernel
theorem dX8_putOctet_19 : decode cX8_putOctet 19 = .ok (.aload_n 0, 1) := by decide +kernel
theorem dX8_putOctet_20 : decode cX8_putOctet 20 = .ok (.dup, 1) := by decide +kernel
theorem dX8_putOctet_21 : decode cX8_putOctet 21 = .ok (.getfield 368, 3) := by decide +kernel
theorem dX8_putOctet_24 : decode cX8_putOctet 24 = .ok (.iconst 1, 1) := by decide +kernel
theorem dX8_putOctet_25 : decode cX8_putOctet 25 = .ok (.iadd, 1) := by decide +kernel
theorem dX8_putOctet_26 : decode cX8_putOctet 26 = .ok (.putfield 368, 3) := by decide +kernel
theorem dX8_putOctet_29 : decode cX8_putOctet 29 = .ok (.return_, 1) := by decide +kernel
theorem dX8_putOnTape_0 : decode cX8_putOnTape 0 = .ok (.bipush 24, 2) := by decide +kernel
theorem dX8_putOnTape_2 : decode cX8_putOnTape 2 = .ok (.istore_n 2, 1) := by decide +kernel
theorem dX8_putOnTape_3 : decode cX8_putOnTape 3 = .ok (.iload_n 2, 1) := by decide +kernel
theorem dX8_putOnTape_4 : decode cX8_putOnTape 4 = .ok (.ifCond .lt 45, 3) := by decide +kernel
theorem dX8_putOnTape_7 : decode cX8_putOnTape 7 = .ok (.aload_n 0, 1) := by decide +kernel
theorem dX8_putOnTape_8 : decode cX8_putOnTape 8 = .ok (.getfield 74, 3) := by decide +kernel
theorem dX8_putOnTape_11 : decode cX8_putOnTape 11 = .ok (.sipush 1600, 3) := by decide +kernel
theorem dX8_putOnTape_14 : decode cX8_putOnTape 14 = .ok (.if_icmp .ge 35, 3) := by decide +kernel
theorem dX8_putOnTape_17 : decode cX8_putOnTape 17 = .ok (.aload_n 0, 1) := by decide +kernel
theorem dX8_putOnTape_18 : decode cX8_putOnTape 18 = .ok (.getfield 9, 3) := by decide +kernel
theorem dX8_putOnTape_21 : decode cX8_putOnTape 21 = .ok (.aload_n 0, 1) := by decide +kernel
theorem dX8_putOnTape_22 : decode cX8_putOnTape 22 = .ok (.getfield 74, 3) := by decide +kernel
theorem dX8_putOnTape_25 : decode cX8_putOnTape 25 = .ok (.iload_n 1, 1) := by decide +kernel
theorem dX8_putOnTape_26 : decode cX8_putOnTape 26 = .ok (.iload_n 2, 1) := by decide +kernel
theorem dX8_putOnTape_27 : decode cX8_putOnTape 27 = .ok (.ishr, 1) := by decide +kernel
theorem dX8_putOnTape_28 : decode cX8_putOnTape 28 = .ok (.sipush 255, 3) := by decide +kernel
theorem dX8_putOnTape_31 : decode cX8_putOnTape 31 = .ok (.iand, 1) := by decide +kernel
theorem dX8_putOnTape_32 : decode cX8_putOnTape 32 = .ok (.iastore, 1) := by decide +kernel
theorem dX8_putOnTape_33 : decode cX8_putOnTape 33 = .ok (.aload_n 0, 1) := by decide +kernel
theorem dX8_putOnTape_34 : decode cX8_putOnTape 34 = .ok (.dup, 1) := by decide +kernel
theorem dX8_putOnTape_35 : decode cX8_putOnTape 35 = .ok (.getfield 74, 3) := by decide +kernel
theorem dX8_putOnTape_38 : decode cX8_putOnTape 38 = .ok (.iconst 1, 1) := by decide +kernel
theorem dX8_putOnTape_39 : decode cX8_putOnTape 39 = .ok (.iadd, 1) := by decide +kernel
theorem dX8_putOnTape_40 : decode cX8_putOnTape 40 = .ok (.putfield 74, 3) := by decide +kernel
theorem dX8_putOnTape_43 : decode cX8_putOnTape 43 = .ok (.iinc 2 (-8), 3) := by decide +kernel
theorem dX8_putOnTape_46 : decode cX8_putOnTape 46 = .ok (.goto (-43), 3) := by decide +kernel
theorem dX8_putOnTape_49 : decode cX8_putOnTape 49 = .ok (.return_, 1) := by decide +kernel
theorem dX8_putPair_0 : decode cX8_putPair 0 = .ok (.aload_n 0, 1) := by decide +kernel
theorem dX8_putPair_1 : decode cX8_putPair 1 = .ok (.iload_n 1, 1) := by decide +kernel
theorem dX8_putPair_2 : decode cX8_putPair 2 = .ok (.sipush 256, 3) := by decide +kernel
theorem dX8_putPair_5 : decode cX8_putPair 5 = .ok (.idiv, 1) := by decide +kernel
theorem dX8_putPair_6 : decode cX8_putPair 6 = .ok (.invokevirtual 374, 3) := by decide +kernel
theorem dX8_putPair_9 : decode cX8_putPair 9 = .ok (.aload_n 0, 1) := by decide +kernel
theorem dX8_putPair_10 : decode cX8_putPair 10 = .ok (.iload_n 1, 1) := by decide +kernel
theorem dX8_putPair_11 : decode cX8_putPair 11 = .ok (.sipush 256, 3) := by decide +kernel
theorem dX8_putPair_14 : decode cX8_putPair 14 = .ok (.irem, 1) := by decide +kernel
theorem dX8_putPair_15 : decode cX8_putPair 15 = .ok (.invokevirtual 374, 3) := by decide +kernel
theorem dX8_putPair_18 : decode cX8_putPair 18 = .ok (.return_, 1) := by decide +kernel
theorem dX8_refuse_0 : decode cX8_refuse 0 = .ok (.iload_n 1, 1) := by decide +kernel
theorem dX8_refuse_1 : decode cX8_refuse 1 = .ok (.ifCond .lt 19, 3) := by decide +kernel
theorem dX8_refuse_4 : decode cX8_refuse 4 = .ok (.iload_n 1, 1) := by decide +kernel
theorem dX8_refuse_5 : decode cX8_refuse 5 = .ok (.bipush 6, 2) := by decide +kernel
theorem dX8_refuse_7 : decode cX8_refuse 7 = .ok (.if_icmp .ge 13, 3) := by decide +kernel
theorem dX8_refuse_10 : decode cX8_refuse 10 = .ok (.aload_n 0, 1) := by decide +kernel
theorem dX8_refuse_11 : decode cX8_refuse 11 = .ok (.getfield 71, 3) := by decide +kernel
theorem dX8_refuse_14 : decode cX8_refuse 14 = .ok (.iload_n 1, 1) := by decide +kernel
theorem dX8_refuse_15 : decode cX8_refuse 15 = .ok (.dup2, 1) := by decide +kernel
theorem dX8_refuse_16 : decode cX8_refuse 16 = .ok (.iaload, 1) := by decide +kernel
theorem dX8_refuse_17 : decode cX8_refuse 17 = .ok (.iconst 1, 1) := by decide +kernel
theorem dX8_refuse_18 : decode cX8_refuse 18 = .ok (.iadd, 1) := by decide +kernel
theorem dX8_refuse_19 : decode cX8_refuse 19 = .ok (.iastore, 1) := by decide +kernel
theorem dX8_refuse_20 : decode cX8_refuse 20 = .ok (.return_, 1) := by decide +kernel
theorem dX8_sealOf_0 : decode cX8_sealOf 0 = .ok (.bipush 89, 2) := by decide +kernel
theorem dX8_sealOf_2 : decode cX8_sealOf 2 = .ok (.istore_n 2, 1) := by decide +kernel
theorem dX8_sealOf_3 : decode cX8_sealOf 3 = .ok (.iconst 0, 1) := by decide +kernel
theorem dX8_sealOf_4 : decode cX8_sealOf 4 = .ok (.istore_n 3, 1) := by decide +kernel
theorem dX8_sealOf_5 : decode cX8_sealOf 5 = .ok (.iload_n 3, 1) := by decide +kernel
theorem dX8_sealOf_6 : decode cX8_sealOf 6 = .ok (.iload_n 1, 1) := by decide +kernel
theorem dX8_sealOf_7 : decode cX8_sealOf 7 = .ok (.if_icmp .ge 27, 3) := by decide +kernel
theorem dX8_sealOf_10 : decode cX8_sealOf 10 = .ok (.iload_n 3, 1) := by decide +kernel
theorem dX8_sealOf_11 : decode cX8_sealOf 11 = .ok (.aload_n 0, 1) := by decide +kernel
theorem dX8_sealOf_12 : decode cX8_sealOf 12 = .ok (.arraylength, 1) := by decide +kernel
theorem dX8_sealOf_13 : decode cX8_sealOf 13 = .ok (.if_icmp .ge 21, 3) := by decide +kernel
theorem dX8_sealOf_16 : decode cX8_sealOf 16 = .ok (.iconst 5, 1) := by decide +kernel
theorem dX8_sealOf_17 : decode cX8_sealOf 17 = .ok (.iload_n 2, 1) := by decide +kernel
theorem dX8_sealOf_18 : decode cX8_sealOf 18 = .ok (.imul, 1) := by decide +kernel
theorem dX8_sealOf_19 : decode cX8_sealOf 19 = .ok (.aload_n 0, 1) := by decide +kernel
theorem dX8_sealOf_20 : decode cX8_sealOf 20 = .ok (.iload_n 3, 1) := by decide +kernel
theorem dX8_sealOf_21 : decode cX8_sealOf 21 = .ok (.iaload, 1) := by decide +kernel
theorem dX8_sealOf_22 : decode cX8_sealOf 22 = .ok (.iadd, 1) := by decide +kernel
theorem dX8_sealOf_23 : decode cX8_sealOf 23 = .ok (.sipush 251, 3) := by decide +kernel
theorem dX8_sealOf_26 : decode cX8_sealOf 26 = .ok (.irem, 1) := by decide +kernel
theorem dX8_sealOf_27 : decode cX8_sealOf 27 = .ok (.istore_n 2, 1) := by decide +kernel
theorem dX8_sealOf_28 : decode cX8_sealOf 28 = .ok (.iinc 3 1, 3) := by decide +kernel
theorem dX8_sealOf_31 : decode cX8_sealOf 31 = .ok (.goto (-26), 3) := by decide +kernel
theorem dX8_sealOf_34 : decode cX8_sealOf 34 = .ok (.iload_n 2, 1) := by decide +kernel
theorem dX8_sealOf_35 : decode cX8_sealOf 35 = .ok (.ireturn, 1) := by decide +kernel
theorem dX8_seed_0 : decode cX8_seed 0 = .ok (.iload_n 1, 1) := by decide +kernel
theorem dX8_seed_1 : decode cX8_seed 1 = .ok (.ifCond .ge 10, 3) := by decide +kernel
theorem dX8_seed_4 : decode cX8_seed 4 = .ok (.aload_n 0, 1) := by decide +kernel
theorem dX8_seed_5 : decode cX8_seed 5 = .ok (.iconst 5, 1) := by decide +kernel
theorem dX8_seed_6 : decode cX8_seed 6 = .ok (.invokevirtual 78, 3) := by decide +kernel
theorem dX8_seed_9 : decode cX8_seed 9 = .ok (.iconst 0, 1) := by decide +kernel
theorem dX8_seed_10 : decode cX8_seed 10 = .ok (.ireturn, 1) := by decide +kernel
theorem dX8_seed_11 : decode cX8_seed 11 = .ok (.aload_n 0, 1) := by decide +kernel
theorem dX8_seed_12 : decode cX8_seed 12 = .ok (.getfield 47, 3) := by decide +kernel
theorem dX8_seed_15 : decode cX8_seed 15 = .ok (.iload_n 1, 1) := by decide +kernel
theorem dX8_seed_16 : decode cX8_seed 16 = .ok (.putfield 152, 3) := by decide +kernel
theorem dX8_seed_19 : decode cX8_seed 19 = .ok (.iconst 1, 1) := by decide +kernel
theorem dX8_seed_20 : decode cX8_seed 20 = .ok (.ireturn, 1) := by decide +kernel
theorem dX8_slack_0 : decode cX8_slack 0 = .ok (.aload_n 0, 1) := by decide +kernel
theorem dX8_slack_1 : decode cX8_slack 1 = .ok (.iload_n 1, 1) := by decide +kernel
theorem dX8_slack_2 : decode cX8_slack 2 = .ok (.invokevirtual 218, 3) := by decide +kernel
theorem dX8_slack_5 : decode cX8_slack 5 = .ok (.ifCond .eq 13, 3) := by decide +kernel
theorem dX8_slack_8 : decode cX8_slack 8 = .ok (.iload_n 2, 1) := by decide +kernel
theorem dX8_slack_9 : decode cX8_slack 9 = .ok (.ifCond .lt 9, 3) := by decide +kernel
theorem dX8_slack_12 : decode cX8_slack 12 = .ok (.iload_n 2, 1) := by decide +kernel
theorem dX8_slack_13 : decode cX8_slack 13 = .ok (.bipush 99, 2) := by decide +kernel
theorem dX8_slack_15 : decode cX8_slack 15 = .ok (.if_icmp .le 10, 3) := by decide +kernel
theorem dX8_slack_18 : decode cX8_slack 18 = .ok (.aload_n 0, 1) := by decide +kernel
theorem dX8_slack_19 : decode cX8_slack 19 = .ok (.iconst 3, 1) := by decide +kernel
theorem dX8_slack_20 : decode cX8_slack 20 = .ok (.invokevirtual 78, 3) := by decide +kernel
theorem dX8_slack_23 : decode cX8_slack 23 = .ok (.iconst (-1), 1) := by decide +kernel
theorem dX8_slack_24 : decode cX8_slack 24 = .ok (.ireturn, 1) := by decide +kernel
theorem dX8_slack_25 : decode cX8_slack 25 = .ok (.aload_n 0, 1) := by decide +kernel
theorem dX8_slack_26 : decode cX8_slack 26 = .ok (.invokevirtual 259, 3) := by decide +kernel
theorem dX8_slack_29 : decode cX8_slack 29 = .ok (.aload_n 0, 1) := by decide +kernel
theorem dX8_slack_30 : decode cX8_slack 30 = .ok (.getfield 30, 3) := by decide +kernel
theorem dX8_slack_33 : decode cX8_slack 33 = .ok (.getfield 224, 3) := by decide +kernel
theorem dX8_slack_36 : decode cX8_slack 36 = .ok (.iload_n 1, 1) := by decide +kernel
theorem dX8_slack_37 : decode cX8_slack 37 = .ok (.iaload, 1) := by decide +kernel
theorem dX8_slack_38 : decode cX8_slack 38 = .ok (.istore_n 3, 1) := by decide +kernel
theorem dX8_slack_39 : decode cX8_slack 39 = .ok (.aload_n 0, 1) := by decide +kernel
theorem dX8_slack_40 : decode cX8_slack 40 = .ok (.getfield 30, 3) := by decide +kernel
theorem dX8_slack_43 : decode cX8_slack 43 = .ok (.getfield 224, 3) := by decide +kernel
theorem dX8_slack_46 : decode cX8_slack 46 = .ok (.iload_n 1, 1) := by decide +kernel
theorem dX8_slack_47 : decode cX8_slack 47 = .ok (.iload_n 2, 1) := by decide +kernel
theorem dX8_slack_48 : decode cX8_slack 48 = .ok (.iastore, 1) := by decide +kernel
theorem dX8_slack_49 : decode cX8_slack 49 = .ok (.iload_n 3, 1) := by decide +kernel
theorem dX8_slack_50 : decode cX8_slack 50 = .ok (.ireturn, 1) := by decide +kernel
theorem dX8_startAct_0 : decode cX8_startAct 0 = .ok (.aload_n 0, 1) := by decide +kernel
theorem dX8_startAct_1 : decode cX8_startAct 1 = .ok (.getfield 40, 3) := by decide +kernel
theorem dX8_startAct_4 : decode cX8_startAct 4 = .ok (.aload_n 0, 1) := by decide +kernel
theorem dX8_startAct_5 : decode cX8_startAct 5 = .ok (.getfield 30, 3) := by decide +kernel
theorem dX8_startAct_8 : decode cX8_startAct 8 = .ok (.invokevirtual 392, 3) := by decide +kernel
theorem dX8_startAct_11 : decode cX8_startAct 11 = .ok (.aload_n 0, 1) := by decide +kernel
theorem dX8_startAct_12 : decode cX8_startAct 12 = .ok (.dup, 1) := by decide +kernel
theorem dX8_startAct_13 : decode cX8_startAct 13 = .ok (.getfield 101, 3) := by decide +kernel
theorem dX8_startAct_16 : decode cX8_startAct 16 = .ok (.iconst 1, 1) := by decide +kernel
theorem dX8_startAct_17 : decode cX8_startAct 17 = .ok (.iadd, 1) := by decide +kernel
theorem dX8_startAct_18 : decode cX8_startAct 18 = .ok (.putfield 101, 3) := by decide +kernel
theorem dX8_startAct_21 : decode cX8_startAct 21 = .ok (.return_, 1) := by decide +kernel
theorem dX8_status_0 : decode cX8_status 0 = .ok (.iload_n 1, 1) := by decide +kernel
theorem dX8_status_1 : decode cX8_status 1 = .ok (.ifCond .lt 9, 3) := by decide +kernel
theorem dX8_status_4 : decode cX8_status 4 = .ok (.iload_n 1, 1) := by decide +kernel
theorem dX8_status_5 : decode cX8_status 5 = .ok (.bipush 6, 2) := by decide +kernel
theorem dX8_status_7 : decode cX8_status 7 = .ok (.if_icmp .lt 7, 3) := by decide +kernel
theorem dX8_status_10 : decode cX8_status 10 = .ok (.iconst (-1), 1) := by decide +kernel
theorem dX8_status_11 : decode cX8_status 11 = .ok (.goto 9, 3) := by decide +kernel
theorem dX8_status_14 : decode cX8_status 14 = .ok (.aload_n 0, 1) := by decide +kernel
theorem dX8_status_15 : decode cX8_status 15 = .ok (.getfield 71, 3) := by decide +kernel
theorem dX8_status_18 : decode cX8_status 18 = .ok (.iload_n 1, 1) := by decide +kernel
theorem dX8_status_19 : decode cX8_status 19 = .ok (.iaload, 1) := by decide +kernel
theorem dX8_status_20 : decode cX8_status 20 = .ok (.ireturn, 1) := by decide +kernel
theorem dX8_strain_0 : decode cX8_strain 0 = .ok (.iconst 0, 1) := by decide +kernel
theorem dX8_strain_1 : decode cX8_strain 1 = .ok (.istore_n 2, 1) := by decide +kernel
theorem dX8_strain_2 : decode cX8_strain 2 = .ok (.iconst 0, 1) := by decide +kernel
theorem dX8_strain_3 : decode cX8_strain 3 = .ok (.istore_n 3, 1) := by decide +kernel
theorem dX8_strain_4 : decode cX8_strain 4 = .ok (.aload_n 0, 1) := by decide +kernel
theorem dX8_strain_5 : decode cX8_strain 5 = .ok (.getfield 30, 3) := by decide +kernel
theorem dX8_strain_8 : decode cX8_strain 8 = .ok (.getfield 135, 3) := by decide +kernel
theorem dX8_strain_11 : decode cX8_strain 11 = .ok (.iconst 2, 1) := by decide +kernel
theorem dX8_strain_12 : decode cX8_strain 12 = .ok (.isub, 1) := by decide +kernel
theorem dX8_strain_13 : decode cX8_strain 13 = .ok (.istore 4, 2) := by decide +kernel
theorem dX8_strain_15 : decode cX8_strain 15 = .ok (.iload 4, 2) := by decide +kernel
theorem dX8_strain_17 : decode cX8_strain 17 = .ok (.iload_n 1, 1) := by decide +kernel
theorem dX8_strain_18 : decode cX8_strain 18 = .ok (.if_icmp .lt 96, 3) := by decide +kernel
theorem dX8_strain_21 : decode cX8_strain 21 = .ok (.iload 4, 2) := by decide +kernel
theorem dX8_strain_23 : decode cX8_strain 23 = .ok (.ifCond .lt 91, 3) := by decide +kernel
theorem dX8_strain_26 : decode cX8_strain 26 = .ok (.aload_n 0, 1) := by decide +kernel
theorem dX8_strain_27 : decode cX8_strain 27 = .ok (.getfield 30, 3) := by decide +kernel
theorem dX8_strain_30 : decode cX8_strain 30 = .ok (.getfield 215, 3) := by decide +kernel
theorem dX8_strain_33 : decode cX8_strain 33 = .ok (.iload 4, 2) := by decide +kernel
theorem dX8_strain_35 : decode cX8_strain 35 = .ok (.iconst 1, 1) := by decide +kernel
theorem dX8_strain_36 : decode cX8_strain 36 = .ok (.iadd, 1) := by decide +kernel
theorem dX8_strain_37 : decode cX8_strain 37 = .ok (.iaload, 1) := by decide +kernel
theorem dX8_strain_38 : decode cX8_strain 38 = .ok (.istore 5, 2) := by decide +kernel
theorem dX8_strain_40 : decode cX8_strain 40 = .ok (.aload_n 0, 1) := by decide +kernel
theorem dX8_strain_41 : decode cX8_strain 41 = .ok (.getfield 30, 3) := by decide +kernel
theorem dX8_strain_44 : decode cX8_strain 44 = .ok (.getfield 190, 3) := by decide +kernel
theorem dX8_strain_47 : decode cX8_strain 47 = .ok (.iload 5, 2) := by decide +kernel
theorem dX8_strain_49 : decode cX8_strain 49 = .ok (.baload, 1) := by decide +kernel
theorem dX8_strain_50 : decode cX8_strain 50 = .ok (.ifCond .eq 16, 3) := by decide +kernel
theorem dX8_strain_53 : decode cX8_strain 53 = .ok (.aload_n 0, 1) := by decide +kernel
theorem dX8_strain_54 : decode cX8_strain 54 = .ok (.getfield 23, 3) := by decide +kernel
theorem dX8_strain_57 : decode cX8_strain 57 = .ok (.getfield 181, 3) := by decide +kernel
theorem dX8_strain_60 : decode cX8_strain 60 = .ok (.iload 5, 2) := by decide +kernel
theorem dX8_strain_62 : decode cX8_strain 62 = .ok (.iaload, 1) := by decide +kernel
theorem dX8_strain_63 : decode cX8_strain 63 = .ok (.goto 4, 3) := by decide +kernel
theorem dX8_strain_66 : decode cX8_strain 66 = .ok (.iconst 0, 1) := by decide +kernel
theorem dX8_strain_67 : decode cX8_strain 67 = .ok (.istore 6, 2) := by decide +kernel
theorem dX8_strain_69 : decode cX8_strain 69 = .ok (.aload_n 0, 1) := by decide +kernel
theorem dX8_strain_70 : decode cX8_strain 70 = .ok (.getfield 30, 3) := by decide +kernel
theorem dX8_strain_73 : decode cX8_strain 73 = .ok (.getfield 221, 3) := by decide +kernel
theorem dX8_strain_76 : decode cX8_strain 76 = .ok (.iload 4, 2) := by decide +kernel
theorem dX8_strain_78 : decode cX8_strain 78 = .ok (.baload, 1) := by decide +kernel
theorem dX8_strain_79 : decode cX8_strain 79 = .ok (.ifCond .eq 10, 3) := by decide +kernel
theorem dX8_strain_82 : decode cX8_strain 82 = .ok (.iload 6, 2) := by decide +kernel
theorem dX8_strain_84 : decode cX8_strain 84 = .ok (.iload_n 2, 1) := by decide +kernel
theorem dX8_strain_85 : decode cX8_strain 85 = .ok (.iadd, 1) := by decide +kernel
theorem dX8_strain_86 : decode cX8_strain 86 = .ok (.goto 4, 3) := by decide +kernel
theorem dX8_strain_89 : decode cX8_strain 89 = .ok (.iconst 0, 1) := by decide +kernel
theorem dX8_strain_90 : decode cX8_strain 90 = .ok (.istore_n 3, 1) := by decide +kernel
theorem dX8_strain_91 : decode cX8_strain 91 = .ok (.iconst 0, 1) := by decide +kernel
theorem dX8_strain_92 : decode cX8_strain 92 = .ok (.iload_n 3, 1) := by decide +kernel
theorem dX8_strain_93 : decode cX8_strain 93 = .ok (.aload_n 0, 1) := by decide +kernel
theorem dX8_strain_94 : decode cX8_strain 94 = .ok (.getfield 30, 3) := by decide +kernel
theorem dX8_strain_97 : decode cX8_strain 97 = .ok (.getfield 224, 3) := by decide +kernel
theorem dX8_strain_100 : decode cX8_strain 100 = .ok (.iload 4, 2) := by decide +kernel
theorem dX8_strain_102 : decode cX8_strain 102 = .ok (.iaload, 1) := by decide +kernel
theorem dX8_strain_103 : decode cX8_strain 103 = .ok (.isub, 1) := by decide +kernel
theorem dX8_strain_104 : decode cX8_strain 104 = .ok (.invokestatic 395, 3) := by decide +kernel
theorem dX8_strain_107 : decode cX8_strain 107 = .ok (.istore_n 2, 1) := by decide +kernel
theorem dX8_strain_108 : decode cX8_strain 108 = .ok (.iinc 4 (-1), 3) := by decide +kernel
theorem dX8_strain_111 : decode cX8_strain 111 = .ok (.goto (-96), 3) := by decide +kernel
theorem dX8_strain_114 : decode cX8_strain 114 = .ok (.iload_n 3, 1) := by decide +kernel
theorem dX8_strain_115 : decode cX8_strain 115 = .ok (.ireturn, 1) := by decide +kernel
theorem dX8_swap_0 : decode cX8_swap 0 = .ok (.aload_n 0, 1) := by decide +kernel
theorem dX8_swap_1 : decode cX8_swap 1 = .ok (.iload_n 1, 1) := by decide +kernel
theorem dX8_swap_2 : decode cX8_swap 2 = .ok (.invokevirtual 212, 3) := by decide +kernel
theorem dX8_swap_5 : decode cX8_swap 5 = .ok (.ifCond .eq 16, 3) := by decide +kernel
theorem dX8_swap_8 : decode cX8_swap 8 = .ok (.aload_n 0, 1) := by decide +kernel
theorem dX8_swap_9 : decode cX8_swap 9 = .ok (.iload_n 2, 1) := by decide +kernel
theorem dX8_swap_10 : decode cX8_swap 10 = .ok (.invokevirtual 212, 3) := by decide +kernel
theorem dX8_swap_13 : decode cX8_swap 13 = .ok (.ifCond .eq 8, 3) := by decide +kernel
theorem dX8_swap_16 : decode cX8_swap 16 = .ok (.iload_n 1, 1) := by decide +kernel
theorem dX8_swap_17 : decode cX8_swap 17 = .ok (.iload_n 2, 1) := by decide +kernel
theorem dX8_swap_18 : decode cX8_swap 18 = .ok (.if_icmp .ne 10, 3) := by decide +kernel
theorem dX8_swap_21 : decode cX8_swap 21 = .ok (.aload_n 0, 1) := by decide +kernel
theorem dX8_swap_22 : decode cX8_swap 22 = .ok (.iconst 3, 1) := by decide +kernel
theorem dX8_swap_23 : decode cX8_swap 23 = .ok (.invokevirtual 78, 3) := by decide +kernel
theorem dX8_swap_26 : decode cX8_swap 26 = .ok (.iconst 0, 1) := by decide +kernel
theorem dX8_swap_27 : decode cX8_swap 27 = .ok (.ireturn, 1) := by decide +kernel
theorem dX8_swap_28 : decode cX8_swap 28 = .ok (.aload_n 0, 1) := by decide +kernel
theorem dX8_swap_29 : decode cX8_swap 29 = .ok (.invokevirtual 259, 3) := by decide +kernel
theorem dX8_swap_32 : decode cX8_swap 32 = .ok (.aload_n 0, 1) := by decide +kernel
theorem dX8_swap_33 : decode cX8_swap 33 = .ok (.getfield 30, 3) := by decide +kernel
theorem dX8_swap_36 : decode cX8_swap 36 = .ok (.iload_n 1, 1) := by decide +kernel
theorem dX8_swap_37 : decode cX8_swap 37 = .ok (.iload_n 2, 1) := by decide +kernel
theorem dX8_swap_38 : decode cX8_swap 38 = .ok (.invokevirtual 279, 3) := by decide +kernel
theorem dX8_swap_41 : decode cX8_swap 41 = .ok (.iconst 1, 1) := by decide +kernel
theorem dX8_swap_42 : decode cX8_swap 42 = .ok (.ireturn, 1) := by decide +kernel
theorem dX8_takenBy_0 : decode cX8_takenBy 0 = .ok (.iconst 3, 1) := by decide +kernel
theorem dX8_takenBy_1 : decode cX8_takenBy 1 = .ok (.aload_n 0, 1) := by decide +kernel
theorem dX8_takenBy_2 : decode cX8_takenBy 2 = .ok (.getfield 23, 3) := by decide +kernel
theorem dX8_takenBy_5 : decode cX8_takenBy 5 = .ok (.getfield 172, 3) := by decide +kernel
theorem dX8_takenBy_8 : decode cX8_takenBy 8 = .ok (.aload_n 0, 1) := by decide +kernel
theorem dX8_takenBy_9 : decode cX8_takenBy 9 = .ok (.getfield 30, 3) := by decide +kernel
theorem dX8_takenBy_12 : decode cX8_takenBy 12 = .ok (.getfield 215, 3) := by decide +kernel
theorem dX8_takenBy_15 : decode cX8_takenBy 15 = .ok (.iload_n 1, 1) := by decide +kernel
theorem dX8_takenBy_16 : decode cX8_takenBy 16 = .ok (.iaload, 1) := by decide +kernel
theorem dX8_takenBy_17 : decode cX8_takenBy 17 = .ok (.iaload, 1) := by decide +kernel
theorem dX8_takenBy_18 : decode cX8_takenBy 18 = .ok (.imul, 1) := by decide +kernel
theorem dX8_takenBy_19 : decode cX8_takenBy 19 = .ok (.istore_n 3, 1) := by decide +kernel
theorem dX8_takenBy_20 : decode cX8_takenBy 20 = .ok (.iconst 0, 1) := by decide +kernel
theorem dX8_takenBy_21 : decode cX8_takenBy 21 = .ok (.istore 4, 2) := by decide +kernel
theorem dX8_takenBy_23 : decode cX8_takenBy 23 = .ok (.iload_n 1, 1) := by decide +kernel
theorem dX8_takenBy_24 : decode cX8_takenBy 24 = .ok (.iload_n 2, 1) := by decide +kernel
theorem dX8_takenBy_25 : decode cX8_takenBy 25 = .ok (.iadd, 1) := by decide +kernel
theorem dX8_takenBy_26 : decode cX8_takenBy 26 = .ok (.istore 5, 2) := by decide +kernel
theorem dX8_takenBy_28 : decode cX8_takenBy 28 = .ok (.iload 5, 2) := by decide +kernel
theorem dX8_takenBy_30 : decode cX8_takenBy 30 = .ok (.ifCond .lt 108, 3) := by decide +kernel
theorem dX8_takenBy_33 : decode cX8_takenBy 33 = .ok (.iload 5, 2) := by decide +kernel
theorem dX8_takenBy_35 : decode cX8_takenBy 35 = .ok (.aload_n 0, 1) := by decide +kernel
theorem dX8_takenBy_36 : decode cX8_takenBy 36 = .ok (.getfield 30, 3) := by decide +kernel
theorem dX8_takenBy_39 : decode cX8_takenBy 39 = .ok (.getfield 135, 3) := by decide +kernel
theorem dX8_takenBy_42 : decode cX8_takenBy 42 = .ok (.if_icmp .ge 96, 3) := by decide +kernel
theorem dX8_takenBy_45 : decode cX8_takenBy 45 = .ok (.iload_n 2, 1) := by decide +kernel
theorem dX8_takenBy_46 : decode cX8_takenBy 46 = .ok (.ifCond .le 10, 3) := by decide +kernel
theorem dX8_takenBy_49 : decode cX8_takenBy 49 = .ok (.iload 5, 2) := by decide +kernel
theorem dX8_takenBy_51 : decode cX8_takenBy 51 = .ok (.iconst 1, 1) := by decide +kernel
theorem dX8_takenBy_52 : decode cX8_takenBy 52 = .ok (.isub, 1) := by decide +kernel
theorem dX8_takenBy_53 : decode cX8_takenBy 53 = .ok (.goto 5, 3) := by decide +kernel
theorem dX8_takenBy_56 : decode cX8_takenBy 56 = .ok (.iload 5, 2) := by decide +kernel
theorem dX8_takenBy_58 : decode cX8_takenBy 58 = .ok (.istore 6, 2) := by decide +kernel
theorem dX8_takenBy_60 : decode cX8_takenBy 60 = .ok (.aload_n 0, 1) := by decide +kernel
theorem dX8_takenBy_61 : decode cX8_takenBy 61 = .ok (.getfield 23, 3) := by decide +kernel
theorem dX8_takenBy_64 : decode cX8_takenBy 64 = .ok (.getfield 172, 3) := by decide +kernel
theorem dX8_takenBy_67 : decode cX8_takenBy 67 = .ok (.aload_n 0, 1) := by decide +kernel
theorem dX8_takenBy_68 : decode cX8_takenBy 68 = .ok (.getfield 30, 3) := by decide +kernel
theorem dX8_takenBy_71 : decode cX8_takenBy 71 = .ok (.getfield 215, 3) := by decide +kernel
theorem dX8_takenBy_74 : decode cX8_takenBy 74 = .ok (.iload 5, 2) := by decide +kernel
theorem dX8_takenBy_76 : decode cX8_takenBy 76 = .ok (.iaload, 1) := by decide +kernel
theorem dX8_takenBy_77 : decode cX8_takenBy 77 = .ok (.iaload, 1) := by decide +kernel
theorem dX8_takenBy_78 : decode cX8_takenBy 78 = .ok (.istore 7, 2) := by decide +kernel
theorem dX8_takenBy_80 : decode cX8_takenBy 80 = .ok (.iload_n 3, 1) := by decide +kernel
theorem dX8_takenBy_81 : decode cX8_takenBy 81 = .ok (.aload_n 0, 1) := by decide +kernel
theorem dX8_takenBy_82 : decode cX8_takenBy 82 = .ok (.getfield 30, 3) := by decide +kernel
theorem dX8_takenBy_85 : decode cX8_takenBy 85 = .ok (.getfield 224, 3) := by decide +kernel
theorem dX8_takenBy_88 : decode cX8_takenBy 88 = .ok (.iload 6, 2) := by decide +kernel
theorem dX8_takenBy_90 : decode cX8_takenBy 90 = .ok (.iaload, 1) := by decide +kernel
theorem dX8_takenBy_91 : decode cX8_takenBy 91 = .ok (.isub, 1) := by decide +kernel
theorem dX8_takenBy_92 : decode cX8_takenBy 92 = .ok (.istore_n 3, 1) := by decide +kernel
theorem dX8_takenBy_93 : decode cX8_takenBy 93 = .ok (.aload_n 0, 1) := by decide +kernel
theorem dX8_takenBy_94 : decode cX8_takenBy 94 = .ok (.getfield 30, 3) := by decide +kernel
theorem dX8_takenBy_97 : decode cX8_takenBy 97 = .ok (.getfield 221, 3) := by decide +kernel
theorem dX8_takenBy_100 : decode cX8_takenBy 100 = .ok (.iload 6, 2) := by decide +kernel
theorem dX8_takenBy_102 : decode cX8_takenBy 102 = .ok (.baload, 1) := by decide +kernel
theorem dX8_takenBy_103 : decode cX8_takenBy 103 = .ok (.ifCond .eq 9, 3) := by decide +kernel
theorem dX8_takenBy_106 : decode cX8_takenBy 106 = .ok (.iload_n 3, 1) := by decide +kernel
theorem dX8_takenBy_107 : decode cX8_takenBy 107 = .ok (.iload 7, 2) := by decide +kernel
theorem dX8_takenBy_109 : decode cX8_takenBy 109 = .ok (.if_icmp .ge 6, 3) := by decide +kernel
theorem dX8_takenBy_112 : decode cX8_takenBy 112 = .ok (.iload 4, 2) := by decide +kernel
theorem dX8_takenBy_114 : decode cX8_takenBy 114 = .ok (.ireturn, 1) := by decide +kernel
theorem dX8_takenBy_115 : decode cX8_takenBy 115 = .ok (.iload_n 3, 1) := by decide +kernel
theorem dX8_takenBy_116 : decode cX8_takenBy 116 = .ok (.iload 7, 2) := by decide +kernel
theorem dX8_takenBy_118 : decode cX8_takenBy 118 = .ok (.isub, 1) := by decide +kernel
theorem dX8_takenBy_119 : decode cX8_takenBy 119 = .ok (.istore_n 3, 1) := by decide +kernel
theorem dX8_takenBy_120 : decode cX8_takenBy 120 = .ok (.iload 4, 2) := by decide +kernel
theorem dX8_takenBy_122 : decode cX8_takenBy 122 = .ok (.iconst 1, 1) := by decide +kernel
theorem dX8_takenBy_123 : decode cX8_takenBy 123 = .ok (.iload 5, 2) := by decide +kernel
theorem dX8_takenBy_125 : decode cX8_takenBy 125 = .ok (.ishl, 1) := by decide +kernel
theorem dX8_takenBy_126 : decode cX8_takenBy 126 = .ok (.ior, 1) := by decide +kernel
theorem dX8_takenBy_127 : decode cX8_takenBy 127 = .ok (.istore 4, 2) := by decide +kernel
theorem dX8_takenBy_129 : decode cX8_takenBy 129 = .ok (.iload 5, 2) := by decide +kernel
theorem dX8_takenBy_131 : decode cX8_takenBy 131 = .ok (.iload_n 2, 1) := by decide +kernel
theorem dX8_takenBy_132 : decode cX8_takenBy 132 = .ok (.iadd, 1) := by decide +kernel
theorem dX8_takenBy_133 : decode cX8_takenBy 133 = .ok (.istore 5, 2) := by decide +kernel
theorem dX8_takenBy_135 : decode cX8_takenBy 135 = .ok (.goto (-107), 3) := by decide +kernel
theorem dX8_takenBy_138 : decode cX8_takenBy 138 = .ok (.iload 4, 2) := by decide +kernel
theorem dX8_takenBy_140 : decode cX8_takenBy 140 = .ok (.ireturn, 1) := by decide +kernel
theorem dX8_tie_0 : decode cX8_tie 0 = .ok (.aload_n 0, 1) := by decide +kernel
theorem dX8_tie_1 : decode cX8_tie 1 = .ok (.iload_n 1, 1) := by decide +kernel
theorem dX8_tie_2 : decode cX8_tie 2 = .ok (.invokevirtual 218, 3) := by decide +kernel
theorem dX8_tie_5 : decode cX8_tie 5 = .ok (.ifCond .eq 16, 3) := by decide +kernel
theorem dX8_tie_8 : decode cX8_tie 8 = .ok (.aload_n 0, 1) := by decide +kernel
theorem dX8_tie_9 : decode cX8_tie 9 = .ok (.getfield 30, 3) := by decide +kernel
theorem dX8_tie_12 : decode cX8_tie 12 = .ok (.getfield 221, 3) := by decide +kernel
theorem dX8_tie_15 : decode cX8_tie 15 = .ok (.iload_n 1, 1) := by decide +kernel
theorem dX8_tie_16 : decode cX8_tie 16 = .ok (.baload, 1) := by decide +kernel
theorem dX8_tie_17 : decode cX8_tie 17 = .ok (.iload_n 2, 1) := by decide +kernel
theorem dX8_tie_18 : decode cX8_tie 18 = .ok (.if_icmp .ne 10, 3) := by decide +kernel
theorem dX8_tie_21 : decode cX8_tie 21 = .ok (.aload_n 0, 1) := by decide +kernel
theorem dX8_tie_22 : decode cX8_tie 22 = .ok (.iconst 3, 1) := by decide +kernel
theorem dX8_tie_23 : decode cX8_tie 23 = .ok (.invokevirtual 78, 3) := by decide +kernel
theorem dX8_tie_26 : decode cX8_tie 26 = .ok (.iconst 0, 1) := by decide +kernel
theorem dX8_tie_27 : decode cX8_tie 27 = .ok (.ireturn, 1) := by decide +kernel
theorem dX8_tie_28 : decode cX8_tie 28 = .ok (.aload_n 0, 1) := by decide +kernel
theorem dX8_tie_29 : decode cX8_tie 29 = .ok (.invokevirtual 259, 3) := by decide +kernel
theorem dX8_tie_32 : decode cX8_tie 32 = .ok (.aload_n 0, 1) := by decide +kernel
theorem dX8_tie_33 : decode cX8_tie 33 = .ok (.getfield 30, 3) := by decide +kernel
theorem dX8_tie_36 : decode cX8_tie 36 = .ok (.getfield 221, 3) := by decide +kernel
theorem dX8_tie_39 : decode cX8_tie 39 = .ok (.iload_n 1, 1) := by decide +kernel
theorem dX8_tie_40 : decode cX8_tie 40 = .ok (.iload_n 2, 1) := by decide +kernel
theorem dX8_tie_41 : decode cX8_tie 41 = .ok (.bastore, 1) := by decide +kernel
theorem dX8_tie_42 : decode cX8_tie 42 = .ok (.iconst 1, 1) := by decide +kernel
theorem dX8_tie_43 : decode cX8_tie 43 = .ok (.ireturn, 1) := by decide +kernel
theorem dX8_tiedKnots_0 : decode cX8_tiedKnots 0 = .ok (.iconst 0, 1) := by decide +kernel
theorem dX8_tiedKnots_1 : decode cX8_tiedKnots 1 = .ok (.istore_n 1, 1) := by decide +kernel
theorem dX8_tiedKnots_2 : decode cX8_tiedKnots 2 = .ok (.iconst 0, 1) := by decide +kernel
theorem dX8_tiedKnots_3 : decode cX8_tiedKnots 3 = .ok (.istore_n 2, 1) := by decide +kernel
theorem dX8_tiedKnots_4 : decode cX8_tiedKnots 4 = .ok (.iload_n 2, 1) := by decide +kernel
theorem dX8_tiedKnots_5 : decode cX8_tiedKnots 5 = .ok (.aload_n 0, 1) := by decide +kernel
theorem dX8_tiedKnots_6 : decode cX8_tiedKnots 6 = .ok (.getfield 30, 3) := by decide +kernel
theorem dX8_tiedKnots_9 : decode cX8_tiedKnots 9 = .ok (.getfield 135, 3) := by decide +kernel
theorem dX8_tiedKnots_12 : decode cX8_tiedKnots 12 = .ok (.iconst 1, 1) := by decide +kernel
theorem dX8_tiedKnots_13 : decode cX8_tiedKnots 13 = .ok (.isub, 1) := by decide +kernel
theorem dX8_tiedKnots_14 : decode cX8_tiedKnots 14 = .ok (.if_icmp .ge 29, 3) := by decide +kernel
theorem dX8_tiedKnots_17 : decode cX8_tiedKnots 17 = .ok (.iload_n 1, 1) := by decide +kernel
theorem dX8_tiedKnots_18 : decode cX8_tiedKnots 18 = .ok (.aload_n 0, 1) := by decide +kernel
theorem dX8_tiedKnots_19 : decode cX8_tiedKnots 19 = .ok (.getfield 30, 3) := by decide +kernel
theorem dX8_tiedKnots_22 : decode cX8_tiedKnots 22 = .ok (.getfield 221, 3) := by decide +kernel
theorem dX8_tiedKnots_25 : decode cX8_tiedKnots 25 = .ok (.iload_n 2, 1) := by decide +kernel
theorem dX8_tiedKnots_26 : decode cX8_tiedKnots 26 = .ok (.baload, 1) := by decide +kernel
theorem dX8_tiedKnots_27 : decode cX8_tiedKnots 27 = .ok (.ifCond .eq 7, 3) := by decide +kernel
theorem dX8_tiedKnots_30 : decode cX8_tiedKnots 30 = .ok (.iconst 1, 1) := by decide +kernel
theorem dX8_tiedKnots_31 : decode cX8_tiedKnots 31 = .ok (.goto 4, 3) := by decide +kernel
theorem dX8_tiedKnots_34 : decode cX8_tiedKnots 34 = .ok (.iconst 0, 1) := by decide +kernel
theorem dX8_tiedKnots_35 : decode cX8_tiedKnots 35 = .ok (.iadd, 1) := by decide +kernel
theorem dX8_tiedKnots_36 : decode cX8_tiedKnots 36 = .ok (.istore_n 1, 1) := by decide +kernel
theorem dX8_tiedKnots_37 : decode cX8_tiedKnots 37 = .ok (.iinc 2 1, 3) := by decide +kernel
theorem dX8_tiedKnots_40 : decode cX8_tiedKnots 40 = .ok (.goto (-36), 3) := by decide +kernel
theorem dX8_tiedKnots_43 : decode cX8_tiedKnots 43 = .ok (.iload_n 1, 1) := by decide +kernel
theorem dX8_tiedKnots_44 : decode cX8_tiedKnots 44 = .ok (.ireturn, 1) := by decide +kernel
theorem dX8_tug_0 : decode cX8_tug 0 = .ok (.iload_n 1, 1) := by decide +kernel
theorem dX8_tug_1 : decode cX8_tug 1 = .ok (.ifCond .lt 14, 3) := by decide +kernel
theorem dX8_tug_4 : decode cX8_tug 4 = .ok (.iload_n 1, 1) := by decide +kernel
theorem dX8_tug_5 : decode cX8_tug 5 = .ok (.aload_n 0, 1) := by decide +kernel
theorem dX8_tug_6 : decode cX8_tug 6 = .ok (.getfield 30, 3) := by decide +kernel
theorem dX8_tug_9 : decode cX8_tug 9 = .ok (.invokevirtual 146, 3) := by decide +kernel
theorem dX8_tug_12 : decode cX8_tug 12 = .ok (.if_icmp .lt 5, 3) := by decide +kernel
theorem dX8_tug_15 : decode cX8_tug 15 = .ok (.iconst (-1), 1) := by decide +kernel
theorem dX8_tug_16 : decode cX8_tug 16 = .ok (.ireturn, 1) := by decide +kernel
theorem dX8_tug_17 : decode cX8_tug 17 = .ok (.aload_n 0, 1) := by decide +kernel
theorem dX8_tug_18 : decode cX8_tug 18 = .ok (.getfield 30, 3) := by decide +kernel
theorem dX8_tug_21 : decode cX8_tug 21 = .ok (.iload_n 1, 1) := by decide +kernel
theorem dX8_tug_22 : decode cX8_tug 22 = .ok (.invokevirtual 242, 3) := by decide +kernel
theorem dX8_tug_25 : decode cX8_tug 25 = .ok (.istore_n 3, 1) := by decide +kernel
theorem dX8_tug_26 : decode cX8_tug 26 = .ok (.iload_n 2, 1) := by decide +kernel
theorem dX8_tug_27 : decode cX8_tug 27 = .ok (.tableswitch 72 0 4 #[33, 39, 47, 55, 64], 33) := by decide +kernel
theorem dX8_tug_60 : decode cX8_tug 60 = .ok (.iload_n 3, 1) := by decide +kernel
theorem dX8_tug_61 : decode cX8_tug 61 = .ok (.sipush 1023, 3) := by decide +kernel
theorem dX8_tug_64 : decode cX8_tug 64 = .ok (.iand, 1) := by decide +kernel
theorem dX8_tug_65 : decode cX8_tug 65 = .ok (.ireturn, 1) := by decide +kernel
theorem dX8_tug_66 : decode cX8_tug 66 = .ok (.iload_n 3, 1) := by decide +kernel
theorem dX8_tug_67 : decode cX8_tug 67 = .ok (.bipush 10, 2) := by decide +kernel
theorem dX8_tug_69 : decode cX8_tug 69 = .ok (.ishr, 1) := by decide +kernel
theorem dX8_tug_70 : decode cX8_tug 70 = .ok (.bipush 15, 2) := by decide +kernel
theorem dX8_tug_72 : decode cX8_tug 72 = .ok (.iand, 1) := by decide +kernel
theorem dX8_tug_73 : decode cX8_tug 73 = .ok (.ireturn, 1) := by decide +kernel
theorem dX8_tug_74 : decode cX8_tug 74 = .ok (.iload_n 3, 1) := by decide +kernel
theorem dX8_tug_75 : decode cX8_tug 75 = .ok (.bipush 14, 2) := by decide +kernel
theorem dX8_tug_77 : decode cX8_tug 77 = .ok (.ishr, 1) := by decide +kernel
theorem dX8_tug_78 : decode cX8_tug 78 = .ok (.bipush 7, 2) := by decide +kernel
theorem dX8_tug_80 : decode cX8_tug 80 = .ok (.iand, 1) := by decide +kernel
theorem dX8_tug_81 : decode cX8_tug 81 = .ok (.ireturn, 1) := by decide +kernel
theorem dX8_tug_82 : decode cX8_tug 82 = .ok (.iload_n 3, 1) := by decide +kernel
theorem dX8_tug_83 : decode cX8_tug 83 = .ok (.bipush 17, 2) := by decide +kernel
theorem dX8_tug_85 : decode cX8_tug 85 = .ok (.ishr, 1) := by decide +kernel
theorem dX8_tug_86 : decode cX8_tug 86 = .ok (.sipush 1023, 3) := by decide +kernel
theorem dX8_tug_89 : decode cX8_tug 89 = .ok (.iand, 1) := by decide +kernel
theorem dX8_tug_90 : decode cX8_tug 90 = .ok (.ireturn, 1) := by decide +kernel
theorem dX8_tug_91 : decode cX8_tug 91 = .ok (.iload_n 3, 1) := by decide +kernel
theorem dX8_tug_92 : decode cX8_tug 92 = .ok (.bipush 27, 2) := by decide +kernel
theorem dX8_tug_94 : decode cX8_tug 94 = .ok (.ishr, 1) := by decide +kernel
theorem dX8_tug_95 : decode cX8_tug 95 = .ok (.bipush 15, 2) := by decide +kernel
theorem dX8_tug_97 : decode cX8_tug 97 = .ok (.iand, 1) := by decide +kernel
theorem dX8_tug_98 : decode cX8_tug 98 = .ok (.ireturn, 1) := by decide +kernel
theorem dX8_tug_99 : decode cX8_tug 99 = .ok (.iconst (-1), 1) := by decide +kernel
theorem dX8_tug_100 : decode cX8_tug 100 = .ok (.ireturn, 1) := by decide +kernel
theorem dX8_two_0 : decode cX8_two 0 = .ok (.aload_n 0, 1) := by decide +kernel
theorem dX8_two_1 : decode cX8_two 1 = .ok (.getfield 30, 3) := by decide +kernel
theorem dX8_two_4 : decode cX8_two 4 = .ok (.getfield 135, 3) := by decide +kernel
theorem dX8_two_7 : decode cX8_two 7 = .ok (.iconst 2, 1) := by decide +kernel
theorem dX8_two_8 : decode cX8_two 8 = .ok (.if_icmp .lt 24, 3) := by decide +kernel
theorem dX8_two_11 : decode cX8_two 11 = .ok (.aload_n 0, 1) := by decide +kernel
theorem dX8_two_12 : decode cX8_two 12 = .ok (.getfield 30, 3) := by decide +kernel
theorem dX8_two_15 : decode cX8_two 15 = .ok (.getfield 135, 3) := by decide +kernel
theorem dX8_two_18 : decode cX8_two 18 = .ok (.bipush 8, 2) := by decide +kernel
theorem dX8_two_20 : decode cX8_two 20 = .ok (.if_icmp .gt 12, 3) := by decide +kernel
theorem dX8_two_23 : decode cX8_two 23 = .ok (.iload_n 1, 1) := by decide +kernel
theorem dX8_two_24 : decode cX8_two 24 = .ok (.ifCond .lt 8, 3) := by decide +kernel
theorem dX8_two_27 : decode cX8_two 27 = .ok (.iload_n 1, 1) := by decide +kernel
theorem dX8_two_28 : decode cX8_two 28 = .ok (.iconst 1, 1) := by decide +kernel
theorem dX8_two_29 : decode cX8_two 29 = .ok (.if_icmp .le 5, 3) := by decide +kernel
theorem dX8_two_32 : decode cX8_two 32 = .ok (.iconst (-1), 1) := by decide +kernel
theorem dX8_two_33 : decode cX8_two 33 = .ok (.ireturn, 1) := by decide +kernel
theorem dX8_two_34 : decode cX8_two 34 = .ok (.aload_n 0, 1) := by decide +kernel
theorem dX8_two_35 : decode cX8_two 35 = .ok (.getfield 61, 3) := by decide +kernel
theorem dX8_two_38 : decode cX8_two 38 = .ok (.aload_n 0, 1) := by decide +kernel
theorem dX8_two_39 : decode cX8_two 39 = .ok (.getfield 23, 3) := by decide +kernel
theorem dX8_two_42 : decode cX8_two 42 = .ok (.aload_n 0, 1) := by decide +kernel
theorem dX8_two_43 : decode cX8_two 43 = .ok (.getfield 30, 3) := by decide +kernel
theorem dX8_two_46 : decode cX8_two 46 = .ok (.aload_n 0, 1) := by decide +kernel
theorem dX8_two_47 : decode cX8_two 47 = .ok (.getfield 101, 3) := by decide +kernel
theorem dX8_two_50 : decode cX8_two 50 = .ok (.invokevirtual 328, 3) := by decide +kernel
theorem dX8_two_53 : decode cX8_two 53 = .ok (.iload_n 1, 1) := by decide +kernel
theorem dX8_two_54 : decode cX8_two 54 = .ok (.ifCond .ne 13, 3) := by decide +kernel
theorem dX8_two_57 : decode cX8_two 57 = .ok (.aload_n 0, 1) := by decide +kernel
theorem dX8_two_58 : decode cX8_two 58 = .ok (.getfield 61, 3) := by decide +kernel
theorem dX8_two_61 : decode cX8_two 61 = .ok (.getfield 331, 3) := by decide +kernel
theorem dX8_two_64 : decode cX8_two 64 = .ok (.goto 10, 3) := by decide +kernel
theorem dX8_two_67 : decode cX8_two 67 = .ok (.aload_n 0, 1) := by decide +kernel
theorem dX8_two_68 : decode cX8_two 68 = .ok (.getfield 61, 3) := by decide +kernel
theorem dX8_two_71 : decode cX8_two 71 = .ok (.getfield 334, 3) := by decide +kernel
theorem dX8_two_74 : decode cX8_two 74 = .ok (.ireturn, 1) := by decide +kernel
theorem dX8_undo_0 : decode cX8_undo 0 = .ok (.aload_n 0, 1) := by decide +kernel
theorem dX8_undo_1 : decode cX8_undo 1 = .ok (.getfield 40, 3) := by decide +kernel
theorem dX8_undo_4 : decode cX8_undo 4 = .ok (.aload_n 0, 1) := by decide +kernel
theorem dX8_undo_5 : decode cX8_undo 5 = .ok (.getfield 30, 3) := by decide +kernel
theorem dX8_undo_8 : decode cX8_undo 8 = .ok (.invokevirtual 283, 3) := by decide +kernel
theorem dX8_undo_11 : decode cX8_undo 11 = .ok (.ifCond .ne 10, 3) := by decide +kernel
theorem dX8_undo_14 : decode cX8_undo 14 = .ok (.aload_n 0, 1) := by decide +kernel
theorem dX8_undo_15 : decode cX8_undo 15 = .ok (.iconst 4, 1) := by decide +kernel
theorem dX8_undo_16 : decode cX8_undo 16 = .ok (.invokevirtual 78, 3) := by decide +kernel
theorem dX8_undo_19 : decode cX8_undo 19 = .ok (.iconst 0, 1) := by decide +kernel
theorem dX8_undo_20 : decode cX8_undo 20 = .ok (.ireturn, 1) := by decide +kernel
theorem dX8_undo_21 : decode cX8_undo 21 = .ok (.aload_n 0, 1) := by decide +kernel
theorem dX8_undo_22 : decode cX8_undo 22 = .ok (.dup, 1) := by decide +kernel
theorem dX8_undo_23 : decode cX8_undo 23 = .ok (.getfield 101, 3) := by decide +kernel
theorem dX8_undo_26 : decode cX8_undo 26 = .ok (.iconst 1, 1) := by decide +kernel
theorem dX8_undo_27 : decode cX8_undo 27 = .ok (.iadd, 1) := by decide +kernel
theorem dX8_undo_28 : decode cX8_undo 28 = .ok (.putfield 101, 3) := by decide +kernel
theorem dX8_undo_31 : decode cX8_undo 31 = .ok (.iconst 1, 1) := by decide +kernel
theorem dX8_undo_32 : decode cX8_undo 32 = .ok (.ireturn, 1) := by decide +kernel
theorem dX8_wake_0 : decode cX8_wake 0 = .ok (.aload_n 0, 1) := by decide +kernel
theorem dX8_wake_1 : decode cX8_wake 1 = .ok (.iload_n 1, 1) := by decide +kernel
theorem dX8_wake_2 : decode cX8_wake 2 = .ok (.invokevirtual 155, 3) := by decide +kernel
theorem dX8_wake_5 : decode cX8_wake 5 = .ok (.ifCond .eq 16, 3) := by decide +kernel
theorem dX8_wake_8 : decode cX8_wake 8 = .ok (.aload_n 0, 1) := by decide +kernel
theorem dX8_wake_9 : decode cX8_wake 9 = .ok (.getfield 30, 3) := by decide +kernel
theorem dX8_wake_12 : decode cX8_wake 12 = .ok (.getfield 190, 3) := by decide +kernel
theorem dX8_wake_15 : decode cX8_wake 15 = .ok (.iload_n 1, 1) := by decide +kernel
theorem dX8_wake_16 : decode cX8_wake 16 = .ok (.baload, 1) := by decide +kernel
theorem dX8_wake_17 : decode cX8_wake 17 = .ok (.iload_n 2, 1) := by decide +kernel
theorem dX8_wake_18 : decode cX8_wake 18 = .ok (.if_icmp .eq 10, 3) := by decide +kernel
theorem dX8_wake_21 : decode cX8_wake 21 = .ok (.aload_n 0, 1) := by decide +kernel
theorem dX8_wake_22 : decode cX8_wake 22 = .ok (.iconst 2, 1) := by decide +kernel
theorem dX8_wake_23 : decode cX8_wake 23 = .ok (.invokevirtual 78, 3) := by decide +kernel
theorem dX8_wake_26 : decode cX8_wake 26 = .ok (.iconst 0, 1) := by decide +kernel
theorem dX8_wake_27 : decode cX8_wake 27 = .ok (.ireturn, 1) := by decide +kernel
theorem dX8_wake_28 : decode cX8_wake 28 = .ok (.aload_n 0, 1) := by decide +kernel
theorem dX8_wake_29 : decode cX8_wake 29 = .ok (.invokevirtual 259, 3) := by decide +kernel
theorem dX8_wake_32 : decode cX8_wake 32 = .ok (.iload_n 2, 1) := by decide +kernel
theorem dX8_wake_33 : decode cX8_wake 33 = .ok (.ifCond .eq 14, 3) := by decide +kernel
theorem dX8_wake_36 : decode cX8_wake 36 = .ok (.aload_n 0, 1) := by decide +kernel
theorem dX8_wake_37 : decode cX8_wake 37 = .ok (.getfield 30, 3) := by decide +kernel
theorem dX8_wake_40 : decode cX8_wake 40 = .ok (.iload_n 1, 1) := by decide +kernel
theorem dX8_wake_41 : decode cX8_wake 41 = .ok (.invokevirtual 276, 3) := by decide +kernel
theorem dX8_wake_44 : decode cX8_wake 44 = .ok (.goto 13, 3) := by decide +kernel
theorem dX8_wake_47 : decode cX8_wake 47 = .ok (.aload_n 0, 1) := by decide +kernel
theorem dX8_wake_48 : decode cX8_wake 48 = .ok (.getfield 30, 3) := by decide +kernel
theorem dX8_wake_51 : decode cX8_wake 51 = .ok (.getfield 190, 3) := by decide +kernel
theorem dX8_wake_54 : decode cX8_wake 54 = .ok (.iload_n 1, 1) := by decide +kernel
theorem dX8_wake_55 : decode cX8_wake 55 = .ok (.iconst 1, 1) := by decide +kernel
theorem dX8_wake_56 : decode cX8_wake 56 = .ok (.bastore, 1) := by decide +kernel
theorem dX8_wake_57 : decode cX8_wake 57 = .ok (.iconst 1, 1) := by decide +kernel
theorem dX8_wake_58 : decode cX8_wake 58 = .ok (.ireturn, 1) := by decide +kernel
theorem dX8_wakes_0 : decode cX8_wakes 0 = .ok (.aload_n 0, 1) := by decide +kernel
theorem dX8_wakes_1 : decode cX8_wakes 1 = .ok (.iload_n 1, 1) := by decide +kernel
theorem dX8_wakes_2 : decode cX8_wakes 2 = .ok (.invokevirtual 212, 3) := by decide +kernel
theorem dX8_wakes_5 : decode cX8_wakes 5 = .ok (.ifCond .eq 10, 3) := by decide +kernel
theorem dX8_wakes_8 : decode cX8_wakes 8 = .ok (.iload_n 2, 1) := by decide +kernel
theorem dX8_wakes_9 : decode cX8_wakes 9 = .ok (.invokestatic 245, 3) := by decide +kernel
theorem dX8_wakes_12 : decode cX8_wakes 12 = .ok (.ifCond .ne 5, 3) := by decide +kernel
theorem dX8_wakes_15 : decode cX8_wakes 15 = .ok (.iconst (-1), 1) := by decide +kernel
theorem dX8_wakes_16 : decode cX8_wakes 16 = .ok (.ireturn, 1) := by decide +kernel
theorem dX8_wakes_17 : decode cX8_wakes 17 = .ok (.aload_n 0, 1) := by decide +kernel
theorem dX8_wakes_18 : decode cX8_wakes 18 = .ok (.getfield 54, 3) := by decide +kernel
theorem dX8_wakes_21 : decode cX8_wakes 21 = .ok (.aload_n 0, 1) := by decide +kernel
theorem dX8_wakes_22 : decode cX8_wakes 22 = .ok (.getfield 23, 3) := by decide +kernel
theorem dX8_wakes_25 : decode cX8_wakes 25 = .ok (.aload_n 0, 1) := by decide +kernel
theorem dX8_wakes_26 : decode cX8_wakes 26 = .ok (.getfield 30, 3) := by decide +kernel
theorem dX8_wakes_29 : decode cX8_wakes 29 = .ok (.iload_n 1, 1) := by decide +kernel
theorem dX8_wakes_30 : decode cX8_wakes 30 = .ok (.iload_n 2, 1) := by decide +kernel
theorem dX8_wakes_31 : decode cX8_wakes 31 = .ok (.invokevirtual 287, 3) := by decide +kernel
theorem dX8_wakes_34 : decode cX8_wakes 34 = .ok (.aload_n 0, 1) := by decide +kernel
theorem dX8_wakes_35 : decode cX8_wakes 35 = .ok (.getfield 54, 3) := by decide +kernel
theorem dX8_wakes_38 : decode cX8_wakes 38 = .ok (.getfield 293, 3) := by decide +kernel
theorem dX8_wakes_41 : decode cX8_wakes 41 = .ok (.ireturn, 1) := by decide +kernel
theorem dX8_walk_0 : decode cX8_walk 0 = .ok (.aload_n 0, 1) := by decide +kernel
theorem dX8_walk_1 : decode cX8_walk 1 = .ok (.iload_n 1, 1) := by decide +kernel
theorem dX8_walk_2 : decode cX8_walk 2 = .ok (.invokevirtual 212, 3) := by decide +kernel
theorem dX8_walk_5 : decode cX8_walk 5 = .ok (.ifCond .ne 5, 3) := by decide +kernel
theorem dX8_walk_8 : decode cX8_walk 8 = .ok (.iconst (-1), 1) := by decide +kernel
theorem dX8_walk_9 : decode cX8_walk 9 = .ok (.ireturn, 1) := by decide +kernel
theorem dX8_walk_10 : decode cX8_walk 10 = .ok (.aload_n 0, 1) := by decide +kernel
theorem dX8_walk_11 : decode cX8_walk 11 = .ok (.iload_n 1, 1) := by decide +kernel
theorem dX8_walk_12 : decode cX8_walk 12 = .ok (.iconst 1, 1) := by decide +kernel
theorem dX8_walk_13 : decode cX8_walk 13 = .ok (.invokevirtual 357, 3) := by decide +kernel
theorem dX8_walk_16 : decode cX8_walk 16 = .ok (.aload_n 0, 1) := by decide +kernel
theorem dX8_walk_17 : decode cX8_walk 17 = .ok (.iload_n 1, 1) := by decide +kernel
theorem dX8_walk_18 : decode cX8_walk 18 = .ok (.iconst (-1), 1) := by decide +kernel
theorem dX8_walk_19 : decode cX8_walk 19 = .ok (.invokevirtual 357, 3) := by decide +kernel
theorem dX8_walk_22 : decode cX8_walk 22 = .ok (.ior, 1) := by decide +kernel
theorem dX8_walk_23 : decode cX8_walk 23 = .ok (.ireturn, 1) := by decide +kernel
