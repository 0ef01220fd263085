theorem dJ2_getChar_3b067_22 : decode cJ2_getChar_3b067 22 = .ok (.ldc 54, 2) := by decide +kernel
theorem dJ2_getChar_3b067_24 : decode cJ2_getChar_3b067 24 = .ok (.invokespecial 56, 3) := by decide +kernel
theorem dJ2_getChar_3b067_27 : decode cJ2_getChar_3b067 27 = .ok (.athrow, 1) := by decide +kernel
theorem dJ2_getChar_3b067_28 : decode cJ2_getChar_3b067 28 = .ok (.iload_n 1, 1) := by decide +kernel
theorem dJ2_getChar_3b067_29 : decode cJ2_getChar_3b067 29 = .ok (.iconst 1, 1) := by decide +kernel
theorem dJ2_getChar_3b067_30 : decode cJ2_getChar_3b067 30 = .ok (.ishl, 1) := by decide +kernel
theorem dJ2_getChar_3b067_31 : decode cJ2_getChar_3b067 31 = .ok (.istore_n 1, 1) := by decide +kernel
theorem dJ2_getChar_3b067_32 : decode cJ2_getChar_3b067 32 = .ok (.aload_n 0, 1) := by decide +kernel
theorem dJ2_getChar_3b067_33 : decode cJ2_getChar_3b067 33 = .ok (.iload_n 1, 1) := by decide +kernel
theorem dJ2_getChar_3b067_34 : decode cJ2_getChar_3b067 34 = .ok (.iinc 1 1, 3) := by decide +kernel
theorem dJ2_getChar_3b067_37 : decode cJ2_getChar_3b067 37 = .ok (.baload, 1) := by decide +kernel
theorem dJ2_getChar_3b067_38 : decode cJ2_getChar_3b067 38 = .ok (.sipush 255, 3) := by decide +kernel
theorem dJ2_getChar_3b067_41 : decode cJ2_getChar_3b067 41 = .ok (.iand, 1) := by decide +kernel
theorem dJ2_getChar_3b067_42 : decode cJ2_getChar_3b067 42 = .ok (.getstatic 59, 3) := by decide +kernel
theorem dJ2_getChar_3b067_45 : decode cJ2_getChar_3b067 45 = .ok (.ishl, 1) := by decide +kernel
theorem dJ2_getChar_3b067_46 : decode cJ2_getChar_3b067 46 = .ok (.aload_n 0, 1) := by decide +kernel
theorem dJ2_getChar_3b067_47 : decode cJ2_getChar_3b067 47 = .ok (.iload_n 1, 1) := by decide +kernel
theorem dJ2_getChar_3b067_48 : decode cJ2_getChar_3b067 48 = .ok (.baload, 1) := by decide +kernel
theorem dJ2_getChar_3b067_49 : decode cJ2_getChar_3b067 49 = .ok (.sipush 255, 3) := by decide +kernel
theorem dJ2_getChar_3b067_52 : decode cJ2_getChar_3b067 52 = .ok (.iand, 1) := by decide +kernel
theorem dJ2_getChar_3b067_53 : decode cJ2_getChar_3b067 53 = .ok (.getstatic 63, 3) := by decide +kernel
theorem dJ2_getChar_3b067_56 : decode cJ2_getChar_3b067 56 = .ok (.ishl, 1) := by decide +kernel
theorem dJ2_getChar_3b067_57 : decode cJ2_getChar_3b067 57 = .ok (.ior, 1) := by decide +kernel
theorem dJ2_getChar_3b067_58 : decode cJ2_getChar_3b067 58 = .ok (.i2c, 1) := by decide +kernel
theorem dJ2_getChar_3b067_59 : decode cJ2_getChar_3b067 59 = .ok (.ireturn, 1) := by decide +kernel
theorem dJ2_length_9d52b_0 : decode cJ2_length_9d52b 0 = .ok (.aload_n 0, 1) := by decide +kernel
theorem dJ2_length_9d52b_1 : decode cJ2_length_9d52b 1 = .ok (.arraylength, 1) := by decide +kernel
theorem dJ2_length_9d52b_2 : decode cJ2_length_9d52b 2 = .ok (.iconst 1, 1) := by decide +kernel
theorem dJ2_length_9d52b_3 : decode cJ2_length_9d52b 3 = .ok (.ishr, 1) := by decide +kernel
theorem dJ2_length_9d52b_4 : decode cJ2_length_9d52b 4 = .ok (.ireturn, 1) := by decide +kernel
theorem dJ2_fillNull_b72d1_0 : decode cJ2_fillNull_b72d1 0 = .ok (.aload_n 0, 1) := by decide +kernel
theorem dJ2_fillNull_b72d1_1 : decode cJ2_fillNull_b72d1 1 = .ok (.iload_n 1, 1) := by decide +kernel
theorem dJ2_fillNull_b72d1_2 : decode cJ2_fillNull_b72d1 2 = .ok (.iconst 1, 1) := by decide +kernel
theorem dJ2_fillNull_b72d1_3 : decode cJ2_fillNull_b72d1 3 = .ok (.ishl, 1) := by decide +kernel
theorem dJ2_fillNull_b72d1_4 : decode cJ2_fillNull_b72d1 4 = .ok (.iload_n 2, 1) := by decide +kernel
theorem dJ2_fillNull_b72d1_5 : decode cJ2_fillNull_b72d1 5 = .ok (.iconst 1, 1) := by decide +kernel
theorem dJ2_fillNull_b72d1_6 : decode cJ2_fillNull_b72d1 6 = .ok (.ishl, 1) := by decide +kernel
theorem dJ2_fillNull_b72d1_7 : decode cJ2_fillNull_b72d1 7 = .ok (.iconst 0, 1) := by decide +kernel
theorem dJ2_fillNull_b72d1_8 : decode cJ2_fillNull_b72d1 8 = .ok (.invokestatic 380, 3) := by decide +kernel
theorem dJ2_fillNull_b72d1_11 : decode cJ2_fillNull_b72d1 11 = .ok (.return_, 1) := by decide +kernel
theorem dJ2_putCharSB_b72d1_0 : decode cJ2_putCharSB_b72d1 0 = .ok (.iload_n 1, 1) := by decide +kernel
theorem dJ2_putCharSB_b72d1_1 : decode cJ2_putCharSB_b72d1 1 = .ok (.aload_n 0, 1) := by decide +kernel
theorem dJ2_putCharSB_b72d1_2 : decode cJ2_putCharSB_b72d1 2 = .ok (.invokestatic 67, 3) := by decide +kernel
theorem dJ2_putCharSB_b72d1_5 : decode cJ2_putCharSB_b72d1 5 = .ok (.aload_n 0, 1) := by decide +kernel
theorem dJ2_putCharSB_b72d1_6 : decode cJ2_putCharSB_b72d1 6 = .ok (.iload_n 1, 1) := by decide +kernel
theorem dJ2_putCharSB_b72d1_7 : decode cJ2_putCharSB_b72d1 7 = .ok (.iload_n 2, 1) := by decide +kernel
theorem dJ2_putCharSB_b72d1_8 : decode cJ2_putCharSB_b72d1 8 = .ok (.invokestatic 111, 3) := by decide +kernel
theorem dJ2_putCharSB_b72d1_11 : decode cJ2_putCharSB_b72d1 11 = .ok (.return_, 1) := by decide +kernel
theorem dJ2_getChars_46870_0 : decode cJ2_getChars_46870 0 = .ok (.iload_n 1, 1) := by decide +kernel
theorem dJ2_getChars_46870_1 : decode cJ2_getChars_46870 1 = .ok (.iload_n 2, 1) := by decide +kernel
theorem dJ2_getChars_46870_2 : decode cJ2_getChars_46870 2 = .ok (.aload_n 3, 1) := by decide +kernel
theorem dJ2_getChars_46870_3 : decode cJ2_getChars_46870 3 = .ok (.invokestatic 96, 3) := by decide +kernel
theorem dJ2_getChars_46870_6 : decode cJ2_getChars_46870 6 = .ok (.iload_n 0, 1) := by decide +kernel
theorem dJ2_getChars_46870_7 : decode cJ2_getChars_46870 7 = .ok (.iload_n 2, 1) := by decide +kernel
theorem dJ2_getChars_46870_8 : decode cJ2_getChars_46870 8 = .ok (.aload_n 3, 1) := by decide +kernel
theorem dJ2_getChars_46870_9 : decode cJ2_getChars_46870 9 = .ok (.invokestatic 393, 3) := by decide +kernel
theorem dJ2_getChars_46870_12 : decode cJ2_getChars_46870 12 = .ok (.istore 4, 2) := by decide +kernel
theorem dJ2_getChars_46870_14 : decode cJ2_getChars_46870 14 = .ok (.getstatic 44, 3) := by decide +kernel
theorem dJ2_getChars_46870_17 : decode cJ2_getChars_46870 17 = .ok (.ifCond .ne 17, 3) := by decide +kernel
theorem dJ2_getChars_46870_20 : decode cJ2_getChars_46870 20 = .ok (.iload_n 1, 1) := by decide +kernel
theorem dJ2_getChars_46870_21 : decode cJ2_getChars_46870 21 = .ok (.iload 4, 2) := by decide +kernel
theorem dJ2_getChars_46870_23 : decode cJ2_getChars_46870 23 = .ok (.if_icmp .eq 11, 3) := by decide +kernel
theorem dJ2_getChars_46870_26 : decode cJ2_getChars_46870 26 = .ok (.new 52, 3) := by decide +kernel
theorem dJ2_getChars_46870_29 : decode cJ2_getChars_46870 29 = .ok (.dup, 1) := by decide +kernel
theorem dJ2_getChars_46870_30 : decode cJ2_getChars_46870 30 = .ok (.invokespecial 66, 3) := by decide +kernel
theorem dJ2_getChars_46870_33 : decode cJ2_getChars_46870 33 = .ok (.athrow, 1) := by decide +kernel
theorem dJ2_getChars_46870_34 : decode cJ2_getChars_46870 34 = .ok (.iload 4, 2) := by decide +kernel
theorem dJ2_getChars_46870_36 : decode cJ2_getChars_46870 36 = .ok (.ireturn, 1) := by decide +kernel
theorem dJ2_charAt_3b067_0 : decode cJ2_charAt_3b067 0 = .ok (.iload_n 1, 1) := by decide +kernel
theorem dJ2_charAt_3b067_1 : decode cJ2_charAt_3b067 1 = .ok (.aload_n 0, 1) := by decide +kernel
theorem dJ2_charAt_3b067_2 : decode cJ2_charAt_3b067 2 = .ok (.invokestatic 67, 3) := by decide +kernel
theorem dJ2_charAt_3b067_5 : decode cJ2_charAt_3b067 5 = .ok (.aload_n 0, 1) := by decide +kernel
theorem dJ2_charAt_3b067_6 : decode cJ2_charAt_3b067 6 = .ok (.iload_n 1, 1) := by decide +kernel
theorem dJ2_charAt_3b067_7 : decode cJ2_charAt_3b067 7 = .ok (.invokestatic 71, 3) := by decide +kernel
theorem dJ2_charAt_3b067_10 : decode cJ2_charAt_3b067 10 = .ok (.ireturn, 1) := by decide +kernel
theorem dJ2_inflate_0e8fd_0 : decode cJ2_inflate_0e8fd 0 = .ok (.iload_n 3, 1) := by decide +kernel
theorem dJ2_inflate_0e8fd_1 : decode cJ2_inflate_0e8fd 1 = .ok (.iload 4, 2) := by decide +kernel
theorem dJ2_inflate_0e8fd_3 : decode cJ2_inflate_0e8fd 3 = .ok (.aload_n 2, 1) := by decide +kernel
theorem dJ2_inflate_0e8fd_4 : decode cJ2_inflate_0e8fd 4 = .ok (.invokestatic 173, 3) := by decide +kernel
theorem dJ2_inflate_0e8fd_7 : decode cJ2_inflate_0e8fd 7 = .ok (.iconst 0, 1) := by decide +kernel
theorem dJ2_inflate_0e8fd_8 : decode cJ2_inflate_0e8fd 8 = .ok (.istore 5, 2) := by decide +kernel
theorem dJ2_inflate_0e8fd_10 : decode cJ2_inflate_0e8fd 10 = .ok (.iload 5, 2) := by decide +kernel
theorem dJ2_inflate_0e8fd_12 : decode cJ2_inflate_0e8fd 12 = .ok (.iload 4, 2) := by decide +kernel
theorem dJ2_inflate_0e8fd_14 : decode cJ2_inflate_0e8fd 14 = .ok (.if_icmp .ge 27, 3) := by decide +kernel
theorem dJ2_inflate_0e8fd_17 : decode cJ2_inflate_0e8fd 17 = .ok (.aload_n 2, 1) := by decide +kernel
theorem dJ2_inflate_0e8fd_18 : decode cJ2_inflate_0e8fd 18 = .ok (.iload_n 3, 1) := by decide +kernel
theorem dJ2_inflate_0e8fd_19 : decode cJ2_inflate_0e8fd 19 = .ok (.iinc 3 1, 3) := by decide +kernel
theorem dJ2_inflate_0e8fd_22 : decode cJ2_inflate_0e8fd 22 = .ok (.aload_n 0, 1) := by decide +kernel
theorem dJ2_inflate_0e8fd_23 : decode cJ2_inflate_0e8fd 23 = .ok (.iload_n 1, 1) := by decide +kernel
theorem dJ2_inflate_0e8fd_24 : decode cJ2_inflate_0e8fd 24 = .ok (.iinc 1 1, 3) := by decide +kernel
theorem dJ2_inflate_0e8fd_27 : decode cJ2_inflate_0e8fd 27 = .ok (.baload, 1) := by decide +kernel
theorem dJ2_inflate_0e8fd_28 : decode cJ2_inflate_0e8fd 28 = .ok (.sipush 255, 3) := by decide +kernel
theorem dJ2_inflate_0e8fd_31 : decode cJ2_inflate_0e8fd 31 = .ok (.iand, 1) := by decide +kernel
theorem dJ2_inflate_0e8fd_32 : decode cJ2_inflate_0e8fd 32 = .ok (.invokestatic 111, 3) := by decide +kernel
theorem dJ2_inflate_0e8fd_35 : decode cJ2_inflate_0e8fd 35 = .ok (.iinc 5 1, 3) := by decide +kernel
theorem dJ2_inflate_0e8fd_38 : decode cJ2_inflate_0e8fd 38 = .ok (.goto (-28), 3) := by decide +kernel
theorem dJ2_inflate_0e8fd_41 : decode cJ2_inflate_0e8fd 41 = .ok (.return_, 1) := by decide +kernel
theorem dJ2_getChars_ba4f3_0 : decode cJ2_getChars_ba4f3 0 = .ok (.iload_n 1, 1) := by decide +kernel
theorem dJ2_getChars_ba4f3_1 : decode cJ2_getChars_ba4f3 1 = .ok (.istore 5, 2) := by decide +kernel
theorem dJ2_getChars_ba4f3_3 : decode cJ2_getChars_ba4f3 3 = .ok (.iload_n 0, 1) := by decide +kernel
theorem dJ2_getChars_ba4f3_4 : decode cJ2_getChars_ba4f3 4 = .ok (.ifCond .ge 7, 3) := by decide +kernel
theorem dJ2_getChars_ba4f3_7 : decode cJ2_getChars_ba4f3 7 = .ok (.iconst 1, 1) := by decide +kernel
theorem dJ2_getChars_ba4f3_8 : decode cJ2_getChars_ba4f3 8 = .ok (.goto 4, 3) := by decide +kernel
theorem dJ2_getChars_ba4f3_11 : decode cJ2_getChars_ba4f3 11 = .ok (.iconst 0, 1) := by decide +kernel
theorem dJ2_getChars_ba4f3_12 : decode cJ2_getChars_ba4f3 12 = .ok (.istore 6, 2) := by decide +kernel
theorem dJ2_getChars_ba4f3_14 : decode cJ2_getChars_ba4f3 14 = .ok (.iload 6, 2) := by decide +kernel
theorem dJ2_getChars_ba4f3_16 : decode cJ2_getChars_ba4f3 16 = .ok (.ifCond .ne 6, 3) := by decide +kernel
theorem dJ2_getChars_ba4f3_19 : decode cJ2_getChars_ba4f3 19 = .ok (.iload_n 0, 1) := by decide +kernel
theorem dJ2_getChars_ba4f3_20 : decode cJ2_getChars_ba4f3 20 = .ok (.ineg, 1) := by decide +kernel
theorem dJ2_getChars_ba4f3_21 : decode cJ2_getChars_ba4f3 21 = .ok (.istore_n 0, 1) := by decide +kernel
theorem dJ2_getChars_ba4f3_22 : decode cJ2_getChars_ba4f3 22 = .ok (.iload_n 0, 1) := by decide +kernel
theorem dJ2_getChars_ba4f3_23 : decode cJ2_getChars_ba4f3 23 = .ok (.bipush (-100), 2) := by decide +kernel
theorem dJ2_getChars_ba4f3_25 : decode cJ2_getChars_ba4f3 25 = .ok (.if_icmp .gt 51, 3) := by decide +kernel
theorem dJ2_getChars_ba4f3_28 : decode cJ2_getChars_ba4f3 28 = .ok (.iload_n 0, 1) := by decide +kernel
theorem dJ2_getChars_ba4f3_29 : decode cJ2_getChars_ba4f3 29 = .ok (.bipush 100, 2) := by decide +kernel
theorem dJ2_getChars_ba4f3_31 : decode cJ2_getChars_ba4f3 31 = .ok (.idiv, 1) := by decide +kernel
theorem dJ2_getChars_ba4f3_32 : decode cJ2_getChars_ba4f3 32 = .ok (.istore_n 3, 1) := by decide +kernel
theorem dJ2_getChars_ba4f3_33 : decode cJ2_getChars_ba4f3 33 = .ok (.iload_n 3, 1) := by decide +kernel
theorem dJ2_getChars_ba4f3_34 : decode cJ2_getChars_ba4f3 34 = .ok (.bipush 100, 2) := by decide +kernel
theorem dJ2_getChars_ba4f3_36 : decode cJ2_getChars_ba4f3 36 = .ok (.imul, 1) := by decide +kernel
theorem dJ2_getChars_ba4f3_37 : decode cJ2_getChars_ba4f3 37 = .ok (.iload_n 0, 1) := by decide +kernel
theorem dJ2_getChars_ba4f3_38 : decode cJ2_getChars_ba4f3 38 = .ok (.isub, 1) := by decide +kernel
theorem dJ2_getChars_ba4f3_39 : decode cJ2_getChars_ba4f3 39 = .ok (.istore 4, 2) := by decide +kernel
theorem dJ2_getChars_ba4f3_41 : decode cJ2_getChars_ba4f3 41 = .ok (.iload_n 3, 1) := by decide +kernel
theorem dJ2_getChars_ba4f3_42 : decode cJ2_getChars_ba4f3 42 = .ok (.istore_n 0, 1) := by decide +kernel
theorem dJ2_getChars_ba4f3_43 : decode cJ2_getChars_ba4f3 43 = .ok (.aload_n 2, 1) := by decide +kernel
theorem dJ2_getChars_ba4f3_44 : decode cJ2_getChars_ba4f3 44 = .ok (.iinc 5 (-1), 3) := by decide +kernel
theorem dJ2_getChars_ba4f3_47 : decode cJ2_getChars_ba4f3 47 = .ok (.iload 5, 2) := by decide +kernel
theorem dJ2_getChars_ba4f3_49 : decode cJ2_getChars_ba4f3 49 = .ok (.getstatic 403, 3) := by decide +kernel
theorem dJ2_getChars_ba4f3_52 : decode cJ2_getChars_ba4f3 52 = .ok (.iload 4, 2) := by decide +kernel
theorem dJ2_getChars_ba4f3_54 : decode cJ2_getChars_ba4f3 54 = .ok (.baload, 1) := by decide +kernel
theorem dJ2_getChars_ba4f3_55 : decode cJ2_getChars_ba4f3 55 = .ok (.invokestatic 111, 3) := by decide +kernel
theorem dJ2_getChars_ba4f3_58 : decode cJ2_getChars_ba4f3 58 = .ok (.aload_n 2, 1) := by decide +kernel
theorem dJ2_getChars_ba4f3_59 : decode cJ2_getChars_ba4f3 59 = .ok (.iinc 5 (-1), 3) := by decide +kernel
theorem dJ2_getChars_ba4f3_62 : decode cJ2_getChars_ba4f3 62 = .ok (.iload 5, 2) := by decide +kernel
theorem dJ2_getChars_ba4f3_64 : decode cJ2_getChars_ba4f3 64 = .ok (.getstatic 407, 3) := by decide +kernel
theorem dJ2_getChars_ba4f3_67 : decode cJ2_getChars_ba4f3 67 = .ok (.iload 4, 2) := by decide +kernel
theorem dJ2_getChars_ba4f3_69 : decode cJ2_getChars_ba4f3 69 = .ok (.baload, 1) := by decide +kernel
theorem dJ2_getChars_ba4f3_70 : decode cJ2_getChars_ba4f3 70 = .ok (.invokestatic 111, 3) := by decide +kernel
theorem dJ2_getChars_ba4f3_73 : decode cJ2_getChars_ba4f3 73 = .ok (.goto (-51), 3) := by decide +kernel
theorem dJ2_getChars_ba4f3_76 : decode cJ2_getChars_ba4f3 76 = .ok (.aload_n 2, 1) := by decide +kernel
theorem dJ2_getChars_ba4f3_77 : decode cJ2_getChars_ba4f3 77 = .ok (.iinc 5 (-1), 3) := by decide +kernel
theorem dJ2_getChars_ba4f3_80 : decode cJ2_getChars_ba4f3 80 = .ok (.iload 5, 2) := by decide +kernel
theorem dJ2_getChars_ba4f3_82 : decode cJ2_getChars_ba4f3 82 = .ok (.getstatic 403, 3) := by decide +kernel
theorem dJ2_getChars_ba4f3_85 : decode cJ2_getChars_ba4f3 85 = .ok (.iload_n 0, 1) := by decide +kernel
theorem dJ2_getChars_ba4f3_86 : decode cJ2_getChars_ba4f3 86 = .ok (.ineg, 1) := by decide +kernel
theorem dJ2_getChars_ba4f3_87 : decode cJ2_getChars_ba4f3 87 = .ok (.baload, 1) := by decide +kernel
theorem dJ2_getChars_ba4f3_88 : decode cJ2_getChars_ba4f3 88 = .ok (.invokestatic 111, 3) := by decide +kernel
theorem dJ2_getChars_ba4f3_91 : decode cJ2_getChars_ba4f3 91 = .ok (.iload_n 0, 1) := by decide +kernel
theorem dJ2_getChars_ba4f3_92 : decode cJ2_getChars_ba4f3 92 = .ok (.bipush (-9), 2) := by decide +kernel
theorem dJ2_getChars_ba4f3_94 : decode cJ2_getChars_ba4f3 94 = .ok (.if_icmp .ge 18, 3) := by decide +kernel
theorem dJ2_getChars_ba4f3_97 : decode cJ2_getChars_ba4f3 97 = .ok (.aload_n 2, 1) := by decide +kernel
theorem dJ2_getChars_ba4f3_98 : decode cJ2_getChars_ba4f3 98 = .ok (.iinc 5 (-1), 3) := by decide +kernel
theorem dJ2_getChars_ba4f3_101 : decode cJ2_getChars_ba4f3 101 = .ok (.iload 5, 2) := by decide +kernel
theorem dJ2_getChars_ba4f3_103 : decode cJ2_getChars_ba4f3 103 = .ok (.getstatic 407, 3) := by decide +kernel
theorem dJ2_getChars_ba4f3_106 : decode cJ2_getChars_ba4f3 106 = .ok (.iload_n 0, 1) := by decide +kernel
theorem dJ2_getChars_ba4f3_107 : decode cJ2_getChars_ba4f3 107 = .ok (.ineg, 1) := by decide +kernel
theorem dJ2_getChars_ba4f3_108 : decode cJ2_getChars_ba4f3 108 = .ok (.baload, 1) := by decide +kernel
theorem dJ2_getChars_ba4f3_109 : decode cJ2_getChars_ba4f3 109 = .ok (.invokestatic 111, 3) := by decide +kernel
theorem dJ2_getChars_ba4f3_112 : decode cJ2_getChars_ba4f3 112 = .ok (.iload 6, 2) := by decide +kernel
theorem dJ2_getChars_ba4f3_114 : decode cJ2_getChars_ba4f3 114 = .ok (.ifCond .eq 14, 3) := by decide +kernel
theorem dJ2_getChars_ba4f3_117 : decode cJ2_getChars_ba4f3 117 = .ok (.aload_n 2, 1) := by decide +kernel
theorem dJ2_getChars_ba4f3_118 : decode cJ2_getChars_ba4f3 118 = .ok (.iinc 5 (-1), 3) := by decide +kernel
theorem dJ2_getChars_ba4f3_121 : decode cJ2_getChars_ba4f3 121 = .ok (.iload 5, 2) := by decide +kernel
theorem dJ2_getChars_ba4f3_123 : decode cJ2_getChars_ba4f3 123 = .ok (.bipush 45, 2) := by decide +kernel
theorem dJ2_getChars_ba4f3_125 : decode cJ2_getChars_ba4f3 125 = .ok (.invokestatic 111, 3) := by decide +kernel
theorem dJ2_getChars_ba4f3_128 : decode cJ2_getChars_ba4f3 128 = .ok (.iload 5, 2) := by decide +kernel
theorem dJ2_getChars_ba4f3_130 : decode cJ2_getChars_ba4f3 130 = .ok (.ireturn, 1) := by decide +kernel
theorem dJ2_checkIndex_2214a_0 : decode cJ2_checkIndex_2214a 0 = .ok (.iload_n 0, 1) := by decide +kernel
theorem dJ2_checkIndex_2214a_1 : decode cJ2_checkIndex_2214a 1 = .ok (.aload_n 1, 1) := by decide +kernel
theorem dJ2_checkIndex_2214a_2 : decode cJ2_checkIndex_2214a 2 = .ok (.invokestatic 48, 3) := by decide +kernel
theorem dJ2_checkIndex_2214a_5 : decode cJ2_checkIndex_2214a 5 = .ok (.invokestatic 414, 3) := by decide +kernel
theorem dJ2_checkIndex_2214a_8 : decode cJ2_checkIndex_2214a 8 = .ok (.return_, 1) := by decide +kernel
theorem dJ2_checkBoundsBeginEnd_d044e_0 : decode cJ2_checkBoundsBeginEnd_d044e 0 = .ok (.iload_n 0, 1) := by decide +kernel
theorem dJ2_checkBoundsBeginEnd_d044e_1 : decode cJ2_checkBoundsBeginEnd_d044e 1 = .ok (.iload_n 1, 1) := by decide +kernel
theorem dJ2_checkBoundsBeginEnd_d044e_2 : decode cJ2_checkBoundsBeginEnd_d044e 2 = .ok (.aload_n 2, 1) := by decide +kernel
theorem dJ2_checkBoundsBeginEnd_d044e_3 : decode cJ2_checkBoundsBeginEnd_d044e 3 = .ok (.invokestatic 48, 3) := by decide +kernel
theorem dJ2_checkBoundsBeginEnd_d044e_6 : decode cJ2_checkBoundsBeginEnd_d044e 6 = .ok (.invokestatic 241, 3) := by decide +kernel
theorem dJ2_checkBoundsBeginEnd_d044e_9 : decode cJ2_checkBoundsBeginEnd_d044e 9 = .ok (.return_, 1) := by decide +kernel
theorem dJ2_checkBoundsOffCount_d044e_0 : decode cJ2_checkBoundsOffCount_d044e 0 = .ok (.iload_n 0, 1) := by decide +kernel
theorem dJ2_checkBoundsOffCount_d044e_1 : decode cJ2_checkBoundsOffCount_d044e 1 = .ok (.iload_n 1, 1) := by decide +kernel
theorem dJ2_checkBoundsOffCount_d044e_2 : decode cJ2_checkBoundsOffCount_d044e 2 = .ok (.aload_n 2, 1) := by decide +kernel
theorem dJ2_checkBoundsOffCount_d044e_3 : decode cJ2_checkBoundsOffCount_d044e 3 = .ok (.invokestatic 48, 3) := by decide +kernel
theorem dJ2_checkBoundsOffCount_d044e_6 : decode cJ2_checkBoundsOffCount_d044e 6 = .ok (.invokestatic 419, 3) := by decide +kernel
theorem dJ2_checkBoundsOffCount_d044e_9 : decode cJ2_checkBoundsOffCount_d044e 9 = .ok (.pop, 1) := by decide +kernel
theorem dJ2_checkBoundsOffCount_d044e_10 : decode cJ2_checkBoundsOffCount_d044e 10 = .ok (.return_, 1) := by decide +kernel
theorem dJ7_rangeCheck_23922_0 : decode cJ7_rangeCheck_23922 0 = .ok (.iload_n 1, 1) := by decide +kernel
theorem dJ7_rangeCheck_23922_1 : decode cJ7_rangeCheck_23922 1 = .ok (.iload_n 2, 1) := by decide +kernel
theorem dJ7_rangeCheck_23922_2 : decode cJ7_rangeCheck_23922 2 = .ok (.if_icmp .le 44, 3) := by decide +kernel
theorem dJ7_rangeCheck_23922_5 : decode cJ7_rangeCheck_23922 5 = .ok (.new 43, 3) := by decide +kernel
theorem dJ7_rangeCheck_23922_8 : decode cJ7_rangeCheck_23922 8 = .ok (.dup, 1) := by decide +kernel
theorem dJ7_rangeCheck_23922_9 : decode cJ7_rangeCheck_23922 9 = .ok (.new 45, 3) := by decide +kernel
theorem dJ7_rangeCheck_23922_12 : decode cJ7_rangeCheck_23922 12 = .ok (.dup, 1) := by decide +kernel
theorem dJ7_rangeCheck_23922_13 : decode cJ7_rangeCheck_23922 13 = .ok (.invokespecial 47, 3) := by decide +kernel
theorem dJ7_rangeCheck_23922_16 : decode cJ7_rangeCheck_23922 16 = .ok (.ldc 48, 2) := by decide +kernel
theorem dJ7_rangeCheck_23922_18 : decode cJ7_rangeCheck_23922 18 = .ok (.invokevirtual 50, 3) := by decide +kernel
theorem dJ7_rangeCheck_23922_21 : decode cJ7_rangeCheck_23922 21 = .ok (.iload_n 1, 1) := by decide +kernel
theorem dJ7_rangeCheck_23922_22 : decode cJ7_rangeCheck_23922 22 = .ok (.invokevirtual 54, 3) := by decide +kernel
theorem dJ7_rangeCheck_23922_25 : decode cJ7_rangeCheck_23922 25 = .ok (.ldc 57, 2) := by decide +kernel
theorem dJ7_rangeCheck_23922_27 : decode cJ7_rangeCheck_23922 27 = .ok (.invokevirtual 50, 3) := by decide +kernel
theorem dJ7_rangeCheck_23922_30 : decode cJ7_rangeCheck_23922 30 = .ok (.iload_n 2, 1) := by decide +kernel
theorem dJ7_rangeCheck_23922_31 : decode cJ7_rangeCheck_23922 31 = .ok (.invokevirtual 54, 3) := by decide +kernel
theorem dJ7_rangeCheck_23922_34 : decode cJ7_rangeCheck_23922 34 = .ok (.ldc 59, 2) := by decide +kernel
theorem dJ7_rangeCheck_23922_36 : decode cJ7_rangeCheck_23922 36 = .ok (.invokevirtual 50, 3) := by decide +kernel
theorem dJ7_rangeCheck_23922_39 : decode cJ7_rangeCheck_23922 39 = .ok (.invokevirtual 61, 3) := by decide +kernel
theorem dJ7_rangeCheck_23922_42 : decode cJ7_rangeCheck_23922 42 = .ok (.invokespecial 65, 3) := by decide +kernel
theorem dJ7_rangeCheck_23922_45 : decode cJ7_rangeCheck_23922 45 = .ok (.athrow, 1) := by decide +kernel
theorem dJ7_rangeCheck_23922_46 : decode cJ7_rangeCheck_23922 46 = .ok (.iload_n 1, 1) := by decide +kernel
theorem dJ7_rangeCheck_23922_47 : decode cJ7_rangeCheck_23922 47 = .ok (.ifCond .ge 12, 3) := by decide +kernel
theorem dJ7_rangeCheck_23922_50 : decode cJ7_rangeCheck_23922 50 = .ok (.new 68, 3) := by decide +kernel
theorem dJ7_rangeCheck_23922_53 : decode cJ7_rangeCheck_23922 53 = .ok (.dup, 1) := by decide +kernel
theorem dJ7_rangeCheck_23922_54 : decode cJ7_rangeCheck_23922 54 = .ok (.iload_n 1, 1) := by decide +kernel
theorem dJ7_rangeCheck_23922_55 : decode cJ7_rangeCheck_23922 55 = .ok (.invokespecial 70, 3) := by decide +kernel
theorem dJ7_rangeCheck_23922_58 : decode cJ7_rangeCheck_23922 58 = .ok (.athrow, 1) := by decide +kernel
theorem dJ7_rangeCheck_23922_59 : decode cJ7_rangeCheck_23922 59 = .ok (.iload_n 2, 1) := by decide +kernel
theorem dJ7_rangeCheck_23922_60 : decode cJ7_rangeCheck_23922 60 = .ok (.iload_n 0, 1) := by decide +kernel
theorem dJ7_rangeCheck_23922_61 : decode cJ7_rangeCheck_23922 61 = .ok (.if_icmp .le 12, 3) := by decide +kernel
theorem dJ7_rangeCheck_23922_64 : decode cJ7_rangeCheck_23922 64 = .ok (.new 68, 3) := by decide +kernel
theorem dJ7_rangeCheck_23922_67 : decode cJ7_rangeCheck_23922 67 = .ok (.dup, 1) := by decide +kernel
theorem dJ7_rangeCheck_23922_68 : decode cJ7_rangeCheck_23922 68 = .ok (.iload_n 2, 1) := by decide +kernel
theorem dJ7_rangeCheck_23922_69 : decode cJ7_rangeCheck_23922 69 = .ok (.invokespecial 70, 3) := by decide +kernel
theorem dJ7_rangeCheck_23922_72 : decode cJ7_rangeCheck_23922 72 = .ok (.athrow, 1) := by decide +kernel
theorem dJ7_rangeCheck_23922_73 : decode cJ7_rangeCheck_23922 73 = .ok (.return_, 1) := by decide +kernel
theorem dJ7_fill_eb02e_0 : decode cJ7_fill_eb02e 0 = .ok (.aload_n 0, 1) := by decide +kernel
theorem dJ7_fill_eb02e_1 : decode cJ7_fill_eb02e 1 = .ok (.arraylength, 1) := by decide +kernel
theorem dJ7_fill_eb02e_2 : decode cJ7_fill_eb02e 2 = .ok (.iload_n 1, 1) := by decide +kernel
theorem dJ7_fill_eb02e_3 : decode cJ7_fill_eb02e 3 = .ok (.iload_n 2, 1) := by decide +kernel
theorem dJ7_fill_eb02e_4 : decode cJ7_fill_eb02e 4 = .ok (.invokestatic 13, 3) := by decide +kernel
theorem dJ7_fill_eb02e_7 : decode cJ7_fill_eb02e 7 = .ok (.iload_n 1, 1) := by decide +kernel
theorem dJ7_fill_eb02e_8 : decode cJ7_fill_eb02e 8 = .ok (.istore 4, 2) := by decide +kernel
theorem dJ7_fill_eb02e_10 : decode cJ7_fill_eb02e 10 = .ok (.iload 4, 2) := by decide +kernel
theorem dJ7_fill_eb02e_12 : decode cJ7_fill_eb02e 12 = .ok (.iload_n 2, 1) := by decide +kernel
theorem dJ7_fill_eb02e_13 : decode cJ7_fill_eb02e 13 = .ok (.if_icmp .ge 14, 3) := by decide +kernel
theorem dJ7_fill_eb02e_16 : decode cJ7_fill_eb02e 16 = .ok (.aload_n 0, 1) := by decide +kernel
theorem dJ7_fill_eb02e_17 : decode cJ7_fill_eb02e 17 = .ok (.iload 4, 2) := by decide +kernel
theorem dJ7_fill_eb02e_19 : decode cJ7_fill_eb02e 19 = .ok (.iload_n 3, 1) := by decide +kernel
theorem dJ7_fill_eb02e_20 : decode cJ7_fill_eb02e 20 = .ok (.bastore, 1) := by decide +kernel
theorem dJ7_fill_eb02e_21 : decode cJ7_fill_eb02e 21 = .ok (.iinc 4 1, 3) := by decide +kernel
theorem dJ7_fill_eb02e_24 : decode cJ7_fill_eb02e 24 = .ok (.goto (-14), 3) := by decide +kernel
theorem dJ7_fill_eb02e_27 : decode cJ7_fill_eb02e 27 = .ok (.return_, 1) := by decide +kernel
theorem dJ7_copyOf_9075b_0 : decode cJ7_copyOf_9075b 0 = .ok (.iload_n 1, 1) := by decide +kernel
theorem dJ7_copyOf_9075b_1 : decode cJ7_copyOf_9075b 1 = .ok (.aload_n 0, 1) := by decide +kernel
theorem dJ7_copyOf_9075b_2 : decode cJ7_copyOf_9075b 2 = .ok (.arraylength, 1) := by decide +kernel
theorem dJ7_copyOf_9075b_3 : decode cJ7_copyOf_9075b 3 = .ok (.if_icmp .ne 11, 3) := by decide +kernel
theorem dJ7_copyOf_9075b_6 : decode cJ7_copyOf_9075b 6 = .ok (.aload_n 0, 1) := by decide +kernel
theorem dJ7_copyOf_9075b_7 : decode cJ7_copyOf_9075b 7 = .ok (.invokevirtual 310, 3) := by decide +kernel
theorem dJ7_copyOf_9075b_10 : decode cJ7_copyOf_9075b 10 = .ok (.checkcast 311, 3) := by decide +kernel
theorem dJ7_copyOf_9075b_13 : decode cJ7_copyOf_9075b 13 = .ok (.areturn, 1) := by decide +kernel
theorem dJ7_copyOf_9075b_14 : decode cJ7_copyOf_9075b 14 = .ok (.iload_n 1, 1) := by decide +kernel
theorem dJ7_copyOf_9075b_15 : decode cJ7_copyOf_9075b 15 = .ok (.newarray .byte, 2) := by decide +kernel
theorem dJ7_copyOf_9075b_17 : decode cJ7_copyOf_9075b 17 = .ok (.astore_n 2, 1) := by decide +kernel
theorem dJ7_copyOf_9075b_18 : decode cJ7_copyOf_9075b 18 = .ok (.aload_n 0, 1) := by decide +kernel
theorem dJ7_copyOf_9075b_19 : decode cJ7_copyOf_9075b 19 = .ok (.iconst 0, 1) := by decide +kernel
theorem dJ7_copyOf_9075b_20 : decode cJ7_copyOf_9075b 20 = .ok (.aload_n 2, 1) := by decide +kernel
theorem dJ7_copyOf_9075b_21 : decode cJ7_copyOf_9075b 21 = .ok (.iconst 0, 1) := by decide +kernel
theorem dJ7_copyOf_9075b_22 : decode cJ7_copyOf_9075b 22 = .ok (.aload_n 0, 1) := by decide +kernel
theorem dJ7_copyOf_9075b_23 : decode cJ7_copyOf_9075b 23 = .ok (.arraylength, 1) := by decide +kernel
theorem dJ7_copyOf_9075b_24 : decode cJ7_copyOf_9075b 24 = .ok (.iload_n 1, 1) := by decide +kernel
theorem dJ7_copyOf_9075b_25 : decode cJ7_copyOf_9075b 25 = .ok (.invokestatic 304, 3) := by decide +kernel
theorem dJ7_copyOf_9075b_28 : decode cJ7_copyOf_9075b 28 = .ok (.invokestatic 150, 3) := by decide +kernel
theorem dJ7_copyOf_9075b_31 : decode cJ7_copyOf_9075b 31 = .ok (.aload_n 2, 1) := by decide +kernel
theorem dJ7_copyOf_9075b_32 : decode cJ7_copyOf_9075b 32 = .ok (.areturn, 1) := by decide +kernel
theorem dJ8_newLength_cabcc_0 : decode cJ8_newLength_cabcc 0 = .ok (.iload_n 0, 1) := by decide +kernel
theorem dJ8_newLength_cabcc_1 : decode cJ8_newLength_cabcc 1 = .ok (.iload_n 1, 1) := by decide +kernel
theorem dJ8_newLength_cabcc_2 : decode cJ8_newLength_cabcc 2 = .ok (.iload_n 2, 1) := by decide +kernel
theorem dJ8_newLength_cabcc_3 : decode cJ8_newLength_cabcc 3 = .ok (.invokestatic 194, 3) := by decide +kernel
theorem dJ8_newLength_cabcc_6 : decode cJ8_newLength_cabcc 6 = .ok (.iadd, 1) := by decide +kernel
theorem dJ8_newLength_cabcc_7 : decode cJ8_newLength_cabcc 7 = .ok (.istore_n 3, 1) := by decide +kernel
theorem dJ8_newLength_cabcc_8 : decode cJ8_newLength_cabcc 8 = .ok (.iconst 0, 1) := by decide +kernel
theorem dJ8_newLength_cabcc_9 : decode cJ8_newLength_cabcc 9 = .ok (.iload_n 3, 1) := by decide +kernel
theorem dJ8_newLength_cabcc_10 : decode cJ8_newLength_cabcc 10 = .ok (.if_icmp .ge 11, 3) := by decide +kernel
theorem dJ8_newLength_cabcc_13 : decode cJ8_newLength_cabcc 13 = .ok (.iload_n 3, 1) := by decide +kernel
theorem dJ8_newLength_cabcc_14 : decode cJ8_newLength_cabcc 14 = .ok (.ldc 200, 2) := by decide +kernel
theorem dJ8_newLength_cabcc_16 : decode cJ8_newLength_cabcc 16 = .ok (.if_icmp .gt 5, 3) := by decide +kernel
theorem dJ8_newLength_cabcc_19 : decode cJ8_newLength_cabcc 19 = .ok (.iload_n 3, 1) := by decide +kernel
theorem dJ8_newLength_cabcc_20 : decode cJ8_newLength_cabcc 20 = .ok (.ireturn, 1) := by decide +kernel
theorem dJ8_newLength_cabcc_21 : decode cJ8_newLength_cabcc 21 = .ok (.iload_n 0, 1) := by decide +kernel
theorem dJ8_newLength_cabcc_22 : decode cJ8_newLength_cabcc 22 = .ok (.iload_n 1, 1) := by decide +kernel
theorem dJ8_newLength_cabcc_23 : decode cJ8_newLength_cabcc 23 = .ok (.invokestatic 201, 3) := by decide +kernel
theorem dJ8_newLength_cabcc_26 : decode cJ8_newLength_cabcc 26 = .ok (.ireturn, 1) := by decide +kernel
theorem dJ8_hugeLength_7cf53_0 : decode cJ8_hugeLength_7cf53 0 = .ok (.iload_n 0, 1) := by decide +kernel
theorem dJ8_hugeLength_7cf53_1 : decode cJ8_hugeLength_7cf53 1 = .ok (.iload_n 1, 1) := by decide +kernel
theorem dJ8_hugeLength_7cf53_2 : decode cJ8_hugeLength_7cf53 2 = .ok (.iadd, 1) := by decide +kernel
theorem dJ8_hugeLength_7cf53_3 : decode cJ8_hugeLength_7cf53 3 = .ok (.istore_n 2, 1) := by decide +kernel
theorem dJ8_hugeLength_7cf53_4 : decode cJ8_hugeLength_7cf53 4 = .ok (.iload_n 2, 1) := by decide +kernel
theorem dJ8_hugeLength_7cf53_5 : decode cJ8_hugeLength_7cf53 5 = .ok (.ifCond .ge 44, 3) := by decide +kernel
theorem dJ8_hugeLength_7cf53_8 : decode cJ8_hugeLength_7cf53 8 = .ok (.new 204, 3) := by decide +kernel
theorem dJ8_hugeLength_7cf53_11 : decode cJ8_hugeLength_7cf53 11 = .ok (.dup, 1) := by decide +kernel
theorem dJ8_hugeLength_7cf53_12 : decode cJ8_hugeLength_7cf53 12 = .ok (.new 89, 3) := by decide +kernel
theorem dJ8_hugeLength_7cf53_15 : decode cJ8_hugeLength_7cf53 15 = .ok (.dup, 1) := by decide +kernel
theorem dJ8_hugeLength_7cf53_16 : decode cJ8_hugeLength_7cf53 16 = .ok (.invokespecial 91, 3) := by decide +kernel
theorem dJ8_hugeLength_7cf53_19 : decode cJ8_hugeLength_7cf53 19 = .ok (.ldc 206, 2) := by decide +kernel
theorem dJ8_hugeLength_7cf53_21 : decode cJ8_hugeLength_7cf53 21 = .ok (.invokevirtual 94, 3) := by decide +kernel
theorem dJ8_hugeLength_7cf53_24 : decode cJ8_hugeLength_7cf53 24 = .ok (.iload_n 0, 1) := by decide +kernel
theorem dJ8_hugeLength_7cf53_25 : decode cJ8_hugeLength_7cf53 25 = .ok (.invokevirtual 98, 3) := by decide +kernel
theorem dJ8_hugeLength_7cf53_28 : decode cJ8_hugeLength_7cf53 28 = .ok (.ldc 208, 2) := by decide +kernel
theorem dJ8_hugeLength_7cf53_30 : decode cJ8_hugeLength_7cf53 30 = .ok (.invokevirtual 94, 3) := by decide +kernel
theorem dJ8_hugeLength_7cf53_33 : decode cJ8_hugeLength_7cf53 33 = .ok (.iload_n 1, 1) := by decide +kernel
theorem dJ8_hugeLength_7cf53_34 : decode cJ8_hugeLength_7cf53 34 = .ok (.invokevirtual 98, 3) := by decide +kernel
theorem dJ8_hugeLength_7cf53_37 : decode cJ8_hugeLength_7cf53 37 = .ok (.ldc 210, 2) := by decide +kernel
theorem dJ8_hugeLength_7cf53_39 : decode cJ8_hugeLength_7cf53 39 = .ok (.invokevirtual 94, 3) := by decide +kernel
theorem dJ8_hugeLength_7cf53_42 : decode cJ8_hugeLength_7cf53 42 = .ok (.invokevirtual 101, 3) := by decide +kernel
theorem dJ8_hugeLength_7cf53_45 : decode cJ8_hugeLength_7cf53 45 = .ok (.invokespecial 212, 3) := by decide +kernel
theorem dJ8_hugeLength_7cf53_48 : decode cJ8_hugeLength_7cf53 48 = .ok (.athrow, 1) := by decide +kernel
theorem dJ8_hugeLength_7cf53_49 : decode cJ8_hugeLength_7cf53 49 = .ok (.iload_n 2, 1) := by decide +kernel
theorem dJ8_hugeLength_7cf53_50 : decode cJ8_hugeLength_7cf53 50 = .ok (.ldc 200, 2) := by decide +kernel
theorem dJ8_hugeLength_7cf53_52 : decode cJ8_hugeLength_7cf53 52 = .ok (.if_icmp .gt 6, 3) := by decide +kernel
theorem dJ8_hugeLength_7cf53_55 : decode cJ8_hugeLength_7cf53 55 = .ok (.ldc 200, 2) := by decide +kernel
theorem dJ8_hugeLength_7cf53_57 : decode cJ8_hugeLength_7cf53 57 = .ok (.ireturn, 1) := by decide +kernel
theorem dJ8_hugeLength_7cf53_58 : decode cJ8_hugeLength_7cf53 58 = .ok (.iload_n 2, 1) := by decide +kernel
theorem dJ8_hugeLength_7cf53_59 : decode cJ8_hugeLength_7cf53 59 = .ok (.ireturn, 1) := by decide +kernel
theorem dJ3_checkIndex_8e157_0 : decode cJ3_checkIndex_8e157 0 = .ok (.iload_n 0, 1) := by decide +kernel
theorem dJ3_checkIndex_8e157_1 : decode cJ3_checkIndex_8e157 1 = .ok (.ifCond .lt 8, 3) := by decide +kernel
theorem dJ3_checkIndex_8e157_4 : decode cJ3_checkIndex_8e157 4 = .ok (.iload_n 0, 1) := by decide +kernel
theorem dJ3_checkIndex_8e157_5 : decode cJ3_checkIndex_8e157 5 = .ok (.iload_n 1, 1) := by decide +kernel
theorem dJ3_checkIndex_8e157_6 : decode cJ3_checkIndex_8e157 6 = .ok (.if_icmp .lt 10, 3) := by decide +kernel
theorem dJ3_checkIndex_8e157_9 : decode cJ3_checkIndex_8e157 9 = .ok (.aload_n 2, 1) := by decide +kernel
theorem dJ3_checkIndex_8e157_10 : decode cJ3_checkIndex_8e157 10 = .ok (.iload_n 0, 1) := by decide +kernel
theorem dJ3_checkIndex_8e157_11 : decode cJ3_checkIndex_8e157 11 = .ok (.iload_n 1, 1) := by decide +kernel
theorem dJ3_checkIndex_8e157_12 : decode cJ3_checkIndex_8e157 12 = .ok (.invokestatic 95, 3) := by decide +kernel
theorem dJ3_checkIndex_8e157_15 : decode cJ3_checkIndex_8e157 15 = .ok (.athrow, 1) := by decide +kernel
theorem dJ3_checkIndex_8e157_16 : decode cJ3_checkIndex_8e157 16 = .ok (.iload_n 0, 1) := by decide +kernel
theorem dJ3_checkIndex_8e157_17 : decode cJ3_checkIndex_8e157 17 = .ok (.ireturn, 1) := by decide +kernel
theorem dJ3_checkFromToIndex_8c36e_0 : decode cJ3_checkFromToIndex_8c36e 0 = .ok (.iload_n 0, 1) := by decide +kernel
theorem dJ3_checkFromToIndex_8c36e_1 : decode cJ3_checkFromToIndex_8c36e 1 = .ok (.ifCond .lt 13, 3) := by decide +kernel
theorem dJ3_checkFromToIndex_8c36e_4 : decode cJ3_checkFromToIndex_8c36e 4 = .ok (.iload_n 0, 1) := by decide +kernel
theorem dJ3_checkFromToIndex_8c36e_5 : decode cJ3_checkFromToIndex_8c36e 5 = .ok (.iload_n 1, 1) := by decide +kernel
theorem dJ3_checkFromToIndex_8c36e_6 : decode cJ3_checkFromToIndex_8c36e 6 = .ok (.if_icmp .gt 8, 3) := by decide +kernel
theorem dJ3_checkFromToIndex_8c36e_9 : decode cJ3_checkFromToIndex_8c36e 9 = .ok (.iload_n 1, 1) := by decide +kernel
theorem dJ3_checkFromToIndex_8c36e_10 : decode cJ3_checkFromToIndex_8c36e 10 = .ok (.iload_n 2, 1) := by decide +kernel
theorem dJ3_checkFromToIndex_8c36e_11 : decode cJ3_checkFromToIndex_8c36e 11 = .ok (.if_icmp .le 11, 3) := by decide +kernel
theorem dJ3_checkFromToIndex_8c36e_14 : decode cJ3_checkFromToIndex_8c36e 14 = .ok (.aload_n 3, 1) := by decide +kernel
theorem dJ3_checkFromToIndex_8c36e_15 : decode cJ3_checkFromToIndex_8c36e 15 = .ok (.iload_n 0, 1) := by decide +kernel
theorem dJ3_checkFromToIndex_8c36e_16 : decode cJ3_checkFromToIndex_8c36e 16 = .ok (.iload_n 1, 1) := by decide +kernel
theorem dJ3_checkFromToIndex_8c36e_17 : decode cJ3_checkFromToIndex_8c36e 17 = .ok (.iload_n 2, 1) := by decide +kernel
theorem dJ3_checkFromToIndex_8c36e_18 : decode cJ3_checkFromToIndex_8c36e 18 = .ok (.invokestatic 99, 3) := by decide +kernel
theorem dJ3_checkFromToIndex_8c36e_21 : decode cJ3_checkFromToIndex_8c36e 21 = .ok (.athrow, 1) := by decide +kernel
theorem dJ3_checkFromToIndex_8c36e_22 : decode cJ3_checkFromToIndex_8c36e 22 = .ok (.iload_n 0, 1) := by decide +kernel
theorem dJ3_checkFromToIndex_8c36e_23 : decode cJ3_checkFromToIndex_8c36e 23 = .ok (.ireturn, 1) := by decide +kernel
theorem dJ3_checkFromIndexSize_8c36e_0 : decode cJ3_checkFromIndexSize_8c36e 0 = .ok (.iload_n 2, 1) := by decide +kernel
theorem dJ3_checkFromIndexSize_8c36e_1 : decode cJ3_checkFromIndexSize_8c36e 1 = .ok (.iload_n 0, 1) := by decide +kernel
theorem dJ3_checkFromIndexSize_8c36e_2 : decode cJ3_checkFromIndexSize_8c36e 2 = .ok (.ior, 1) := by decide +kernel
theorem dJ3_checkFromIndexSize_8c36e_3 : decode cJ3_checkFromIndexSize_8c36e 3 = .ok (.iload_n 1, 1) := by decide +kernel
theorem dJ3_checkFromIndexSize_8c36e_4 : decode cJ3_checkFromIndexSize_8c36e 4 = .ok (.ior, 1) := by decide +kernel
theorem dJ3_checkFromIndexSize_8c36e_5 : decode cJ3_checkFromIndexSize_8c36e 5 = .ok (.ifCond .lt 10, 3) := by decide +kernel
theorem dJ3_checkFromIndexSize_8c36e_8 : decode cJ3_checkFromIndexSize_8c36e 8 = .ok (.iload_n 1, 1) := by decide +kernel
theorem dJ3_checkFromIndexSize_8c36e_9 : decode cJ3_checkFromIndexSize_8c36e 9 = .ok (.iload_n 2, 1) := by decide +kernel
theorem dJ3_checkFromIndexSize_8c36e_10 : decode cJ3_checkFromIndexSize_8c36e 10 = .ok (.iload_n 0, 1) := by decide +kernel
theorem dJ3_checkFromIndexSize_8c36e_11 : decode cJ3_checkFromIndexSize_8c36e 11 = .ok (.isub, 1) := by decide +kernel
theorem dJ3_checkFromIndexSize_8c36e_12 : decode cJ3_checkFromIndexSize_8c36e 12 = .ok (.if_icmp .le 11, 3) := by decide +kernel
theorem dJ3_checkFromIndexSize_8c36e_15 : decode cJ3_checkFromIndexSize_8c36e 15 = .ok (.aload_n 3, 1) := by decide +kernel
theorem dJ3_checkFromIndexSize_8c36e_16 : decode cJ3_checkFromIndexSize_8c36e 16 = .ok (.iload_n 0, 1) := by decide +kernel
theorem dJ3_checkFromIndexSize_8c36e_17 : decode cJ3_checkFromIndexSize_8c36e 17 = .ok (.iload_n 1, 1) := by decide +kernel
theorem dJ3_checkFromIndexSize_8c36e_18 : decode cJ3_checkFromIndexSize_8c36e 18 = .ok (.iload_n 2, 1) := by decide +kernel
theorem dJ3_checkFromIndexSize_8c36e_19 : decode cJ3_checkFromIndexSize_8c36e 19 = .ok (.invokestatic 103, 3) := by decide +kernel
theorem dJ3_checkFromIndexSize_8c36e_22 : decode cJ3_checkFromIndexSize_8c36e 22 = .ok (.athrow, 1) := by decide +kernel
theorem dJ3_checkFromIndexSize_8c36e_23 : decode cJ3_checkFromIndexSize_8c36e 23 = .ok (.iload_n 0, 1) := by decide +kernel
theorem dJ3_checkFromIndexSize_8c36e_24 : decode cJ3_checkFromIndexSize_8c36e 24 = .ok (.ireturn, 1) := by decide +kernel
theorem dL_cell_0 : decode cL_cell 0 = .ok (.aload_n 0, 1) := by decide +kernel
theorem dL_cell_1 : decode cL_cell 1 = .ok (.arraylength, 1) := by decide +kernel
theorem dL_cell_2 : decode cL_cell 2 = .ok (.ifCond .ne 11, 3) := by decide +kernel
theorem dL_cell_5 : decode cL_cell 5 = .ok (.sipush 577, 3) := by decide +kernel
theorem dL_cell_8 : decode cL_cell 8 = .ok (.iload_n 1, 1) := by decide +kernel
theorem dL_cell_9 : decode cL_cell 9 = .ok (.imul, 1) := by decide +kernel
theorem dL_cell_10 : decode cL_cell 10 = .ok (.goto 12, 3) := by decide +kernel
theorem dL_cell_13 : decode cL_cell 13 = .ok (.aload_n 0, 1) := by decide +kernel
theorem dL_cell_14 : decode cL_cell 14 = .ok (.iload_n 1, 1) := by decide +kernel
theorem dL_cell_15 : decode cL_cell 15 = .ok (.ldc 9, 2) := by decide +kernel
theorem dL_cell_17 : decode cL_cell 17 = .ok (.iand, 1) := by decide +kernel
theorem dL_cell_18 : decode cL_cell 18 = .ok (.aload_n 0, 1) := by decide +kernel
theorem dL_cell_19 : decode cL_cell 19 = .ok (.arraylength, 1) := by decide +kernel
theorem dL_cell_20 : decode cL_cell 20 = .ok (.irem, 1) := by decide +kernel
theorem dL_cell_21 : decode cL_cell 21 = .ok (.iaload, 1) := by decide +kernel
theorem dL_cell_22 : decode cL_cell 22 = .ok (.ireturn, 1) := by decide +kernel
theorem dL_write_0 : decode cL_write 0 = .ok (.iconst 0, 1) := by decide +kernel
theorem dL_write_1 : decode cL_write 1 = .ok (.istore_n 2, 1) := by decide +kernel
theorem dL_write_2 : decode cL_write 2 = .ok (.iload_n 2, 1) := by decide +kernel
theorem dL_write_3 : decode cL_write 3 = .ok (.aload_n 1, 1) := by decide +kernel
theorem dL_write_4 : decode cL_write 4 = .ok (.invokevirtual 10, 3) := by decide +kernel
theorem dL_write_7 : decode cL_write 7 = .ok (.if_icmp .ge 19, 3) := by decide +kernel
theorem dL_write_10 : decode cL_write 10 = .ok (.aload_n 0, 1) := by decide +kernel
theorem dL_write_11 : decode cL_write 11 = .ok (.aload_n 1, 1) := by decide +kernel
theorem dL_write_12 : decode cL_write 12 = .ok (.iload_n 2, 1) := by decide +kernel
theorem dL_write_13 : decode cL_write 13 = .ok (.invokevirtual 16, 3) := by decide +kernel
theorem dL_write_16 : decode cL_write 16 = .ok (.invokevirtual 20, 3) := by decide +kernel
theorem dL_write_19 : decode cL_write 19 = .ok (.pop, 1) := by decide +kernel
theorem dL_write_20 : decode cL_write 20 = .ok (.iinc 2 1, 3) := by decide +kernel
theorem dL_write_23 : decode cL_write 23 = .ok (.goto (-21), 3) := by decide +kernel
theorem dL_write_26 : decode cL_write 26 = .ok (.aload_n 0, 1) := by decide +kernel
theorem dL_write_27 : decode cL_write 27 = .ok (.areturn, 1) := by decide +kernel
theorem dL_act_0 : decode cL_act 0 = .ok (.iload_n 1, 1) := by decide +kernel
theorem dL_act_1 : decode cL_act 1 = .ok (.iconst 4, 1) := by decide +kernel
theorem dL_act_2 : decode cL_act 2 = .ok (.ishr, 1) := by decide +kernel
theorem dL_act_3 : decode cL_act 3 = .ok (.ldc 9, 2) := by decide +kernel
theorem dL_act_5 : decode cL_act 5 = .ok (.iand, 1) := by decide +kernel
theorem dL_act_6 : decode cL_act 6 = .ok (.istore_n 2, 1) := by decide +kernel
theorem dL_act_7 : decode cL_act 7 = .ok (.iload_n 2, 1) := by decide +kernel
theorem dL_act_8 : decode cL_act 8 = .ok (.iconst 4, 1) := by decide +kernel
theorem dL_act_9 : decode cL_act 9 = .ok (.irem, 1) := by decide +kernel
theorem dL_act_10 : decode cL_act 10 = .ok (.istore_n 3, 1) := by decide +kernel
theorem dL_act_11 : decode cL_act 11 = .ok (.iload_n 2, 1) := by decide +kernel
theorem dL_act_12 : decode cL_act 12 = .ok (.iconst 3, 1) := by decide +kernel
theorem dL_act_13 : decode cL_act 13 = .ok (.ishr, 1) := by decide +kernel
theorem dL_act_14 : decode cL_act 14 = .ok (.bipush 7, 2) := by decide +kernel
theorem dL_act_16 : decode cL_act 16 = .ok (.irem, 1) := by decide +kernel
theorem dL_act_17 : decode cL_act 17 = .ok (.istore 4, 2) := by decide +kernel
theorem dL_act_19 : decode cL_act 19 = .ok (.iload_n 1, 1) := by decide +kernel
theorem dL_act_20 : decode cL_act 20 = .ok (.bipush 15, 2) := by decide +kernel
theorem dL_act_22 : decode cL_act 22 = .ok (.iand, 1) := by decide +kernel
theorem dL_act_23 : decode cL_act 23 = .ok (.tableswitch 247 0 14 #[73, 111, 127, 127, 127, 135, 143, 171, 171, 171, 186, 198, 204, 229, 229], 73) := by decide +kernel
theorem dL_act_96 : decode cL_act 96 = .ok (.iload_n 2, 1) := by decide +kernel
theorem dL_act_97 : decode cL_act 97 = .ok (.bipush 32, 2) := by decide +kernel
theorem dL_act_99 : decode cL_act 99 = .ok (.iand, 1) := by decide +kernel
theorem dL_act_100 : decode cL_act 100 = .ok (.ifCond .ne 22, 3) := by decide +kernel
theorem dL_act_103 : decode cL_act 103 = .ok (.aload_n 0, 1) := by decide +kernel
theorem dL_act_104 : decode cL_act 104 = .ok (.iload_n 2, 1) := by decide +kernel
theorem dL_act_105 : decode cL_act 105 = .ok (.iconst 3, 1) := by decide +kernel
theorem dL_act_106 : decode cL_act 106 = .ok (.ishr, 1) := by decide +kernel
theorem dL_act_107 : decode cL_act 107 = .ok (.bipush 11, 2) := by decide +kernel
theorem dL_act_109 : decode cL_act 109 = .ok (.irem, 1) := by decide +kernel
theorem dL_act_110 : decode cL_act 110 = .ok (.iload_n 2, 1) := by decide +kernel
theorem dL_act_111 : decode cL_act 111 = .ok (.bipush 6, 2) := by decide +kernel
theorem dL_act_113 : decode cL_act 113 = .ok (.ishr, 1) := by decide +kernel
theorem dL_act_114 : decode cL_act 114 = .ok (.iconst 5, 1) := by decide +kernel
theorem dL_act_115 : decode cL_act 115 = .ok (.irem, 1) := by decide +kernel
theorem dL_act_116 : decode cL_act 116 = .ok (.invokevirtual 24, 3) := by decide +kernel
theorem dL_act_119 : decode cL_act 119 = .ok (.goto 14, 3) := by decide +kernel
theorem dL_act_122 : decode cL_act 122 = .ok (.aload_n 0, 1) := by decide +kernel
theorem dL_act_123 : decode cL_act 123 = .ok (.iload_n 2, 1) := by decide +kernel
theorem dL_act_124 : decode cL_act 124 = .ok (.bipush 6, 2) := by decide +kernel
theorem dL_act_126 : decode cL_act 126 = .ok (.ishr, 1) := by decide +kernel
theorem dL_act_127 : decode cL_act 127 = .ok (.bipush 40, 2) := by decide +kernel
theorem dL_act_129 : decode cL_act 129 = .ok (.irem, 1) := by decide +kernel
theorem dL_act_130 : decode cL_act 130 = .ok (.invokevirtual 28, 3) := by decide +kernel
theorem dL_act_133 : decode cL_act 133 = .ok (.ireturn, 1) := by decide +kernel
theorem dL_act_134 : decode cL_act 134 = .ok (.aload_n 0, 1) := by decide +kernel
theorem dL_act_135 : decode cL_act 135 = .ok (.iload_n 2, 1) := by decide +kernel
theorem dL_act_136 : decode cL_act 136 = .ok (.iconst 3, 1) := by decide +kernel
theorem dL_act_137 : decode cL_act 137 = .ok (.ishr, 1) := by decide +kernel
theorem dL_act_138 : decode cL_act 138 = .ok (.iconst 5, 1) := by decide +kernel
theorem dL_act_139 : decode cL_act 139 = .ok (.irem, 1) := by decide +kernel
theorem dL_act_140 : decode cL_act 140 = .ok (.iload_n 2, 1) := by decide +kernel
theorem dL_act_141 : decode cL_act 141 = .ok (.iconst 5, 1) := by decide +kernel
theorem dL_act_142 : decode cL_act 142 = .ok (.ishr, 1) := by decide +kernel
theorem dL_act_143 : decode cL_act 143 = .ok (.bipush 11, 2) := by decide +kernel
theorem dL_act_145 : decode cL_act 145 = .ok (.irem, 1) := by decide +kernel
theorem dL_act_146 : decode cL_act 146 = .ok (.invokevirtual 32, 3) := by decide +kernel
theorem dL_act_149 : decode cL_act 149 = .ok (.ireturn, 1) := by decide +kernel
theorem dL_act_150 : decode cL_act 150 = .ok (.aload_n 0, 1) := by decide +kernel
theorem dL_act_151 : decode cL_act 151 = .ok (.iload_n 3, 1) := by decide +kernel
theorem dL_act_152 : decode cL_act 152 = .ok (.iload 4, 2) := by decide +kernel
theorem dL_act_154 : decode cL_act 154 = .ok (.invokevirtual 35, 3) := by decide +kernel
theorem dL_act_157 : decode cL_act 157 = .ok (.ireturn, 1) := by decide +kernel
theorem dL_act_158 : decode cL_act 158 = .ok (.aload_n 0, 1) := by decide +kernel
theorem dL_act_159 : decode cL_act 159 = .ok (.iload_n 3, 1) := by decide +kernel
theorem dL_act_160 : decode cL_act 160 = .ok (.iload 4, 2) := by decide +kernel
theorem dL_act_162 : decode cL_act 162 = .ok (.invokevirtual 38, 3) := by decide +kernel
theorem dL_act_165 : decode cL_act 165 = .ok (.ireturn, 1) := by decide +kernel
theorem dL_act_166 : decode cL_act 166 = .ok (.iload_n 2, 1) := by decide +kernel
theorem dL_act_167 : decode cL_act 167 = .ok (.bipush 32, 2) := by decide +kernel
theorem dL_act_169 : decode cL_act 169 = .ok (.iand, 1) := by decide +kernel
theorem dL_act_170 : decode cL_act 170 = .ok (.ifCond .ne 12, 3) := by decide +kernel
theorem dL_act_173 : decode cL_act 173 = .ok (.aload_n 0, 1) := by decide +kernel
theorem dL_act_174 : decode cL_act 174 = .ok (.iload 4, 2) := by decide +kernel
theorem dL_act_176 : decode cL_act 176 = .ok (.invokevirtual 41, 3) := by decide +kernel
theorem dL_act_179 : decode cL_act 179 = .ok (.goto 14, 3) := by decide +kernel
theorem dL_act_182 : decode cL_act 182 = .ok (.aload_n 0, 1) := by decide +kernel
theorem dL_act_183 : decode cL_act 183 = .ok (.iload_n 3, 1) := by decide +kernel
theorem dL_act_184 : decode cL_act 184 = .ok (.iload_n 2, 1) := by decide +kernel
theorem dL_act_185 : decode cL_act 185 = .ok (.bipush 6, 2) := by decide +kernel
theorem dL_act_187 : decode cL_act 187 = .ok (.ishr, 1) := by decide +kernel
theorem dL_act_188 : decode cL_act 188 = .ok (.iconst 4, 1) := by decide +kernel
theorem dL_act_189 : decode cL_act 189 = .ok (.irem, 1) := by decide +kernel
theorem dL_act_190 : decode cL_act 190 = .ok (.invokevirtual 44, 3) := by decide +kernel
theorem dL_act_193 : decode cL_act 193 = .ok (.ireturn, 1) := by decide +kernel
theorem dL_act_194 : decode cL_act 194 = .ok (.aload_n 0, 1) := by decide +kernel
theorem dL_act_195 : decode cL_act 195 = .ok (.iload_n 3, 1) := by decide +kernel
theorem dL_act_196 : decode cL_act 196 = .ok (.iload 4, 2) := by decide +kernel
theorem dL_act_198 : decode cL_act 198 = .ok (.iload_n 2, 1) := by decide +kernel
theorem dL_act_199 : decode cL_act 199 = .ok (.bipush 6, 2) := by decide +kernel
theorem dL_act_201 : decode cL_act 201 = .ok (.ishr, 1) := by decide +kernel
theorem dL_act_202 : decode cL_act 202 = .ok (.bipush 11, 2) := by decide +kernel
theorem dL_act_204 : decode cL_act 204 = .ok (.irem, 1) := by decide +kernel
theorem dL_act_205 : decode cL_act 205 = .ok (.invokevirtual 47, 3) := by decide +kernel
theorem dL_act_208 : decode cL_act 208 = .ok (.ireturn, 1) := by decide +kernel
theorem dL_act_209 : decode cL_act 209 = .ok (.aload_n 0, 1) := by decide +kernel
theorem dL_act_210 : decode cL_act 210 = .ok (.iload_n 3, 1) := by decide +kernel
theorem dL_act_211 : decode cL_act 211 = .ok (.iload_n 2, 1) := by decide +kernel
theorem dL_act_212 : decode cL_act 212 = .ok (.iconst 5, 1) := by decide +kernel
theorem dL_act_213 : decode cL_act 213 = .ok (.ishr, 1) := by decide +kernel
theorem dL_act_214 : decode cL_act 214 = .ok (.bipush 12, 2) := by decide +kernel
theorem dL_act_216 : decode cL_act 216 = .ok (.irem, 1) := by decide +kernel
theorem dL_act_217 : decode cL_act 217 = .ok (.invokevirtual 51, 3) := by decide +kernel
theorem dL_act_220 : decode cL_act 220 = .ok (.ireturn, 1) := by decide +kernel
theorem dL_act_221 : decode cL_act 221 = .ok (.aload_n 0, 1) := by decide +kernel
theorem dL_act_222 : decode cL_act 222 = .ok (.iload_n 3, 1) := by decide +kernel
theorem dL_act_223 : decode cL_act 223 = .ok (.invokevirtual 54, 3) := by decide +kernel
theorem dL_act_226 : decode cL_act 226 = .ok (.ireturn, 1) := by decide +kernel
theorem dL_act_227 : decode cL_act 227 = .ok (.iload_n 2, 1) := by decide +kernel
theorem dL_act_228 : decode cL_act 228 = .ok (.bipush 32, 2) := by decide +kernel
theorem dL_act_230 : decode cL_act 230 = .ok (.iand, 1) := by decide +kernel
theorem dL_act_231 : decode cL_act 231 = .ok (.ifCond .ne 16, 3) := by decide +kernel
theorem dL_act_234 : decode cL_act 234 = .ok (.aload_n 0, 1) := by decide +kernel
theorem dL_act_235 : decode cL_act 235 = .ok (.iload_n 2, 1) := by decide +kernel
theorem dL_act_236 : decode cL_act 236 = .ok (.iconst 3, 1) := by decide +kernel
theorem dL_act_237 : decode cL_act 237 = .ok (.ishr, 1) := by decide +kernel
theorem dL_act_238 : decode cL_act 238 = .ok (.bipush 6, 2) := by decide +kernel
theorem dL_act_240 : decode cL_act 240 = .ok (.irem, 1) := by decide +kernel
theorem dL_act_241 : decode cL_act 241 = .ok (.invokevirtual 57, 3) := by decide +kernel
theorem dL_act_244 : decode cL_act 244 = .ok (.goto 7, 3) := by decide +kernel
theorem dL_act_247 : decode cL_act 247 = .ok (.aload_n 0, 1) := by decide +kernel
theorem dL_act_248 : decode cL_act 248 = .ok (.invokevirtual 60, 3) := by decide +kernel
theorem dL_act_251 : decode cL_act 251 = .ok (.ireturn, 1) := by decide +kernel
theorem dL_act_252 : decode cL_act 252 = .ok (.aload_n 0, 1) := by decide +kernel
theorem dL_act_253 : decode cL_act 253 = .ok (.getstatic 63, 3) := by decide +kernel
theorem dL_act_256 : decode cL_act 256 = .ok (.iload_n 2, 1) := by decide +kernel
theorem dL_act_257 : decode cL_act 257 = .ok (.getstatic 63, 3) := by decide +kernel
theorem dL_act_260 : decode cL_act 260 = .ok (.arraylength, 1) := by decide +kernel
theorem dL_act_261 : decode cL_act 261 = .ok (.irem, 1) := by decide +kernel
theorem dL_act_262 : decode cL_act 262 = .ok (.aaload, 1) := by decide +kernel
theorem dL_act_263 : decode cL_act 263 = .ok (.invokestatic 69, 3) := by decide +kernel
theorem dL_act_266 : decode cL_act 266 = .ok (.invokevirtual 73, 3) := by decide +kernel
theorem dL_act_269 : decode cL_act 269 = .ok (.ireturn, 1) := by decide +kernel
theorem dL_act_270 : decode cL_act 270 = .ok (.iload_n 2, 1) := by decide +kernel
theorem dL_act_271 : decode cL_act 271 = .ok (.iconst 3, 1) := by decide +kernel
theorem dL_act_272 : decode cL_act 272 = .ok (.iand, 1) := by decide +kernel
theorem dL_act_273 : decode cL_act 273 = .ok (.ifCond .ne 10, 3) := by decide +kernel
theorem dL_act_276 : decode cL_act 276 = .ok (.aload_n 0, 1) := by decide +kernel
theorem dL_act_277 : decode cL_act 277 = .ok (.invokevirtual 76, 3) := by decide +kernel
theorem dL_act_280 : decode cL_act 280 = .ok (.goto 21, 3) := by decide +kernel
theorem dL_act_283 : decode cL_act 283 = .ok (.iload_n 2, 1) := by decide +kernel
theorem dL_act_284 : decode cL_act 284 = .ok (.iconst 3, 1) := by decide +kernel
theorem dL_act_285 : decode cL_act 285 = .ok (.iand, 1) := by decide +kernel
theorem dL_act_286 : decode cL_act 286 = .ok (.iconst 1, 1) := by decide +kernel
theorem dL_act_287 : decode cL_act 287 = .ok (.if_icmp .ne 10, 3) := by decide +kernel
theorem dL_act_290 : decode cL_act 290 = .ok (.aload_n 0, 1) := by decide +kernel
theorem dL_act_291 : decode cL_act 291 = .ok (.invokevirtual 79, 3) := by decide +kernel
theorem dL_act_294 : decode cL_act 294 = .ok (.goto 7, 3) := by decide +kernel
theorem dL_act_297 : decode cL_act 297 = .ok (.aload_n 0, 1) := by decide +kernel
theorem dL_act_298 : decode cL_act 298 = .ok (.invokevirtual 82, 3) := by decide +kernel
theorem dL_act_301 : decode cL_act 301 = .ok (.ireturn, 1) := by decide +kernel
theorem dL_digest_0 : decode cL_digest 0 = .ok (.ldc2_w 85, 3) := by decide +kernel
theorem dL_digest_3 : decode cL_digest 3 = .ok (.lstore_n 1, 1) := by decide +kernel
theorem dL_digest_4 : decode cL_digest 4 = .ok (.iconst 0, 1) := by decide +kernel
theorem dL_digest_5 : decode cL_digest 5 = .ok (.istore_n 3, 1) := by decide +kernel
theorem dL_digest_6 : decode cL_digest 6 = .ok (.iload_n 3, 1) := by decide +kernel
theorem dL_digest_7 : decode cL_digest 7 = .ok (.bipush 12, 2) := by decide +kernel
theorem dL_digest_9 : decode cL_digest 9 = .ok (.if_icmp .ge 22, 3) := by decide +kernel
theorem dL_digest_12 : decode cL_digest 12 = .ok (.ldc2_w 87, 3) := by decide +kernel
theorem dL_digest_15 : decode cL_digest 15 = .ok (.lload_n 1, 1) := by decide +kernel
theorem dL_digest_16 : decode cL_digest 16 = .ok (.lmul, 1) := by decide +kernel
theorem dL_digest_17 : decode cL_digest 17 = .ok (.aload_n 0, 1) := by decide +kernel
theorem dL_digest_18 : decode cL_digest 18 = .ok (.iload_n 3, 1) := by decide +kernel
theorem dL_digest_19 : decode cL_digest 19 = .ok (.invokevirtual 89, 3) := by decide +kernel
theorem dL_digest_22 : decode cL_digest 22 = .ok (.i2l, 1) := by decide +kernel
theorem dL_digest_23 : decode cL_digest 23 = .ok (.ladd, 1) := by decide +kernel
theorem dL_digest_24 : decode cL_digest 24 = .ok (.lstore_n 1, 1) := by decide +kernel
theorem dL_digest_25 : decode cL_digest 25 = .ok (.iinc 3 1, 3) := by decide +kernel
theorem dL_digest_28 : decode cL_digest 28 = .ok (.goto (-22), 3) := by decide +kernel
theorem dL_digest_31 : decode cL_digest 31 = .ok (.iconst 0, 1) := by decide +kernel
theorem dL_digest_32 : decode cL_digest 32 = .ok (.istore_n 3, 1) := by decide +kernel
theorem dL_digest_33 : decode cL_digest 33 = .ok (.iload_n 3, 1) := by decide +kernel
theorem dL_digest_34 : decode cL_digest 34 = .ok (.iconst 4, 1) := by decide +kernel
theorem dL_digest_35 : decode cL_digest 35 = .ok (.if_icmp .ge 22, 3) := by decide +kernel
theorem dL_digest_38 : decode cL_digest 38 = .ok (.ldc2_w 87, 3) := by decide +kernel
theorem dL_digest_41 : decode cL_digest 41 = .ok (.lload_n 1, 1) := by decide +kernel
theorem dL_digest_42 : decode cL_digest 42 = .ok (.lmul, 1) := by decide +kernel
theorem dL_digest_43 : decode cL_digest 43 = .ok (.aload_n 0, 1) := by decide +kernel
theorem dL_digest_44 : decode cL_digest 44 = .ok (.iload_n 3, 1) := by decide +kernel
theorem dL_digest_45 : decode cL_digest 45 = .ok (.invokevirtual 92, 3) := by decide +kernel
theorem dL_digest_48 : decode cL_digest 48 = .ok (.i2l, 1) := by decide +kernel
theorem dL_digest_49 : decode cL_digest 49 = .ok (.ladd, 1) := by decide +kernel
theorem dL_digest_50 : decode cL_digest 50 = .ok (.lstore_n 1, 1) := by decide +kernel
theorem dL_digest_51 : decode cL_digest 51 = .ok (.iinc 3 1, 3) := by decide +kernel
theorem dL_digest_54 : decode cL_digest 54 = .ok (.goto (-21), 3) := by decide +kernel
theorem dL_digest_57 : decode cL_digest 57 = .ok (.iconst 0, 1) := by decide +kernel
theorem dL_digest_58 : decode cL_digest 58 = .ok (.istore_n 3, 1) := by decide +kernel
theorem dL_digest_59 : decode cL_digest 59 = .ok (.iload_n 3, 1) := by decide +kernel
theorem dL_digest_60 : decode cL_digest 60 = .ok (.aload_n 0, 1) := by decide +kernel
theorem dL_digest_61 : decode cL_digest 61 = .ok (.iconst 0, 1) := by decide +kernel
theorem dL_digest_62 : decode cL_digest 62 = .ok (.invokevirtual 89, 3) := by decide +kernel
theorem dL_digest_65 : decode cL_digest 65 = .ok (.if_icmp .ge 40, 3) := by decide +kernel
theorem dL_digest_68 : decode cL_digest 68 = .ok (.iconst 0, 1) := by decide +kernel
theorem dL_digest_69 : decode cL_digest 69 = .ok (.istore 4, 2) := by decide +kernel
theorem dL_digest_71 : decode cL_digest 71 = .ok (.iload 4, 2) := by decide +kernel
theorem dL_digest_73 : decode cL_digest 73 = .ok (.bipush 6, 2) := by decide +kernel
theorem dL_digest_75 : decode cL_digest 75 = .ok (.if_icmp .ge 24, 3) := by decide +kernel
theorem dL_digest_78 : decode cL_digest 78 = .ok (.ldc2_w 87, 3) := by decide +kernel
theorem dL_digest_81 : decode cL_digest 81 = .ok (.lload_n 1, 1) := by decide +kernel
theorem dL_digest_82 : decode cL_digest 82 = .ok (.lmul, 1) := by decide +kernel
theorem dL_digest_83 : decode cL_digest 83 = .ok (.aload_n 0, 1) := by decide +kernel
theorem dL_digest_84 : decode cL_digest 84 = .ok (.iload_n 3, 1) := by decide +kernel
theorem dL_digest_85 : decode cL_digest 85 = .ok (.iload 4, 2) := by decide +kernel
theorem dL_digest_87 : decode cL_digest 87 = .ok (.invokevirtual 95, 3) := by decide +kernel
theorem dL_digest_90 : decode cL_digest 90 = .ok (.i2l, 1) := by decide +kernel
theorem dL_digest_91 : decode cL_digest 91 = .ok (.ladd, 1) := by decide +kernel
theorem dL_digest_92 : decode cL_digest 92 = .ok (.lstore_n 1, 1) := by decide +kernel
theorem dL_digest_93 : decode cL_digest 93 = .ok (.iinc 4 1, 3) := by decide +kernel
theorem dL_digest_96 : decode cL_digest 96 = .ok (.goto (-25), 3) := by decide +kernel
theorem dL_digest_99 : decode cL_digest 99 = .ok (.iinc 3 1, 3) := by decide +kernel
theorem dL_digest_102 : decode cL_digest 102 = .ok (.goto (-43), 3) := by decide +kernel
theorem dL_digest_105 : decode cL_digest 105 = .ok (.iconst 0, 1) := by decide +kernel
theorem dL_digest_106 : decode cL_digest 106 = .ok (.istore_n 3, 1) := by decide +kernel
theorem dL_digest_107 : decode cL_digest 107 = .ok (.iload_n 3, 1) := by decide +kernel
theorem dL_digest_108 : decode cL_digest 108 = .ok (.aload_n 0, 1) := by decide +kernel
theorem dL_digest_109 : decode cL_digest 109 = .ok (.iconst 1, 1) := by decide +kernel
theorem dL_digest_110 : decode cL_digest 110 = .ok (.invokevirtual 89, 3) := by decide +kernel
theorem dL_digest_113 : decode cL_digest 113 = .ok (.if_icmp .ge 53, 3) := by decide +kernel
theorem dL_digest_116 : decode cL_digest 116 = .ok (.iconst 0, 1) := by decide +kernel
theorem dL_digest_117 : decode cL_digest 117 = .ok (.istore 4, 2) := by decide +kernel
theorem dL_digest_119 : decode cL_digest 119 = .ok (.iload 4, 2) := by decide +kernel
theorem dL_digest_121 : decode cL_digest 121 = .ok (.bipush 9, 2) := by decide +kernel
theorem dL_digest_123 : decode cL_digest 123 = .ok (.if_icmp .ge 24, 3) := by decide +kernel
theorem dL_digest_126 : decode cL_digest 126 = .ok (.ldc2_w 87, 3) := by decide +kernel
theorem dL_digest_129 : decode cL_digest 129 = .ok (.lload_n 1, 1) := by decide +kernel
theorem dL_digest_130 : decode cL_digest 130 = .ok (.lmul, 1) := by decide +kernel
theorem dL_digest_131 : decode cL_digest 131 = .ok (.aload_n 0, 1) := by decide +kernel
theorem dL_digest_132 : decode cL_digest 132 = .ok (.iload_n 3, 1) := by decide +kernel
theorem dL_digest_133 : decode cL_digest 133 = .ok (.iload 4, 2) := by decide +kernel
theorem dL_digest_135 : decode cL_digest 135 = .ok (.invokevirtual 98, 3) := by decide +kernel
theorem dL_digest_138 : decode cL_digest 138 = .ok (.i2l, 1) := by decide +kernel
theorem dL_digest_139 : decode cL_digest 139 = .ok (.ladd, 1) := by decide +kernel
theorem dL_digest_140 : decode cL_digest 140 = .ok (.lstore_n 1, 1) := by decide +kernel
theorem dL_digest_141 : decode cL_digest 141 = .ok (.iinc 4 1, 3) := by decide +kernel
theorem dL_digest_144 : decode cL_digest 144 = .ok (.goto (-25), 3) := by decide +kernel
theorem dL_digest_147 : decode cL_digest 147 = .ok (.ldc2_w 87, 3) := by decide +kernel
theorem dL_digest_150 : decode cL_digest 150 = .ok (.lload_n 1, 1) := by decide +kernel
theorem dL_digest_151 : decode cL_digest 151 = .ok (.lmul, 1) := by decide +kernel
theorem dL_digest_152 : decode cL_digest 152 = .ok (.aload_n 0, 1) := by decide +kernel
theorem dL_digest_153 : decode cL_digest 153 = .ok (.iload_n 3, 1) := by decide +kernel
theorem dL_digest_154 : decode cL_digest 154 = .ok (.invokevirtual 101, 3) := by decide +kernel
theorem dL_digest_157 : decode cL_digest 157 = .ok (.i2l, 1) := by decide +kernel
theorem dL_digest_158 : decode cL_digest 158 = .ok (.ladd, 1) := by decide +kernel
theorem dL_digest_159 : decode cL_digest 159 = .ok (.lstore_n 1, 1) := by decide +kernel
theorem dL_digest_160 : decode cL_digest 160 = .ok (.iinc 3 1, 3) := by decide +kernel
theorem dL_digest_163 : decode cL_digest 163 = .ok (.goto (-56), 3) := by decide +kernel
theorem dL_digest_166 : decode cL_digest 166 = .ok (.iconst 0, 1) := by decide +kernel
theorem dL_digest_167 : decode cL_digest 167 = .ok (.istore_n 3, 1) := by decide +kernel
theorem dL_digest_168 : decode cL_digest 168 = .ok (.iload_n 3, 1) := by decide +kernel
theorem dL_digest_169 : decode cL_digest 169 = .ok (.aload_n 0, 1) := by decide +kernel
theorem dL_digest_170 : decode cL_digest 170 = .ok (.iconst 2, 1) := by decide +kernel
theorem dL_digest_171 : decode cL_digest 171 = .ok (.invokevirtual 89, 3) := by decide +kernel
theorem dL_digest_174 : decode cL_digest 174 = .ok (.if_icmp .ge 40, 3) := by decide +kernel
theorem dL_digest_177 : decode cL_digest 177 = .ok (.iconst 0, 1) := by decide +kernel
theorem dL_digest_178 : decode cL_digest 178 = .ok (.istore 4, 2) := by decide +kernel
theorem dL_digest_180 : decode cL_digest 180 = .ok (.iload 4, 2) := by decide +kernel
theorem dL_digest_182 : decode cL_digest 182 = .ok (.bipush 6, 2) := by decide +kernel
theorem dL_digest_184 : decode cL_digest 184 = .ok (.if_icmp .ge 24, 3) := by decide +kernel
theorem dL_digest_187 : decode cL_digest 187 = .ok (.ldc2_w 87, 3) := by decide +kernel
theorem dL_digest_190 : decode cL_digest 190 = .ok (.lload_n 1, 1) := by decide +kernel
theorem dL_digest_191 : decode cL_digest 191 = .ok (.lmul, 1) := by decide +kernel
theorem dL_digest_192 : decode cL_digest 192 = .ok (.aload_n 0, 1) := by decide +kernel
theorem dL_digest_193 : decode cL_digest 193 = .ok (.iload_n 3, 1) := by decide +kernel
theorem dL_digest_194 : decode cL_digest 194 = .ok (.iload 4, 2) := by decide +kernel
theorem dL_digest_196 : decode cL_digest 196 = .ok (.invokevirtual 104, 3) := by decide +kernel
theorem dL_digest_199 : decode cL_digest 199 = .ok (.i2l, 1) := by decide +kernel
theorem dL_digest_200 : decode cL_digest 200 = .ok (.ladd, 1) := by decide +kernel
theorem dL_digest_201 : decode cL_digest 201 = .ok (.lstore_n 1, 1) := by decide +kernel
theorem dL_digest_202 : decode cL_digest 202 = .ok (.iinc 4 1, 3) := by decide +kernel
theorem dL_digest_205 : decode cL_digest 205 = .ok (.goto (-25), 3) := by decide +kernel
theorem dL_digest_208 : decode cL_digest 208 = .ok (.iinc 3 1, 3) := by decide +kernel
theorem dL_digest_211 : decode cL_digest 211 = .ok (.goto (-43), 3) := by decide +kernel
theorem dL_digest_214 : decode cL_digest 214 = .ok (.lload_n 1, 1) := by decide +kernel
theorem dL_digest_215 : decode cL_digest 215 = .ok (.lreturn, 1) := by decide +kernel
theorem dL_areStars_0 : decode cL_areStars 0 = .ok (.iconst 0, 1) := by decide +kernel
theorem dL_areStars_1 : decode cL_areStars 1 = .ok (.istore_n 1, 1) := by decide +kernel
theorem dL_areStars_2 : decode cL_areStars 2 = .ok (.iconst 0, 1) := by decide +kernel
theorem dL_areStars_3 : decode cL_areStars 3 = .ok (.istore_n 2, 1) := by decide +kernel
theorem dL_areStars_4 : decode cL_areStars 4 = .ok (.iconst 0, 1) := by decide +kernel
theorem dL_areStars_5 : decode cL_areStars 5 = .ok (.istore_n 3, 1) := by decide +kernel
theorem dL_areStars_6 : decode cL_areStars 6 = .ok (.iconst 1, 1) := by decide +kernel
theorem dL_areStars_7 : decode cL_areStars 7 = .ok (.istore 4, 2) := by decide +kernel
theorem dL_areStars_9 : decode cL_areStars 9 = .ok (.iconst 0, 1) := by decide +kernel
theorem dL_areStars_10 : decode cL_areStars 10 = .ok (.istore 5, 2) := by decide +kernel
theorem dL_areStars_12 : decode cL_areStars 12 = .ok (.iload 4, 2) := by decide +kernel
theorem dL_areStars_14 : decode cL_areStars 14 = .ok (.ifCond .eq 175, 3) := by decide +kernel
theorem dL_areStars_17 : decode cL_areStars 17 = .ok (.iload 5, 2) := by decide +kernel
theorem dL_areStars_19 : decode cL_areStars 19 = .ok (.aload_n 0, 1) := by decide +kernel
theorem dL_areStars_20 : decode cL_areStars 20 = .ok (.iconst 0, 1) := by decide +kernel
theorem dL_areStars_21 : decode cL_areStars 21 = .ok (.invokevirtual 89, 3) := by decide +kernel
theorem dL_areStars_24 : decode cL_areStars 24 = .ok (.if_icmp .ge 165, 3) := by decide +kernel
theorem dL_areStars_27 : decode cL_areStars 27 = .ok (.aload_n 0, 1) := by decide +kernel
theorem dL_areStars_28 : decode cL_areStars 28 = .ok (.iload 5, 2) := by decide +kernel
theorem dL_areStars_30 : decode cL_areStars 30 = .ok (.iconst 0, 1) := by decide +kernel
theorem dL_areStars_31 : decode cL_areStars 31 = .ok (.invokevirtual 95, 3) := by decide +kernel
theorem dL_areStars_34 : decode cL_areStars 34 = .ok (.aload_n 0, 1) := by decide +kernel
theorem dL_areStars_35 : decode cL_areStars 35 = .ok (.aload_n 0, 1) := by decide +kernel
theorem dL_areStars_36 : decode cL_areStars 36 = .ok (.iload 5, 2) := by decide +kernel
theorem dL_areStars_38 : decode cL_areStars 38 = .ok (.iconst 1, 1) := by decide +kernel
theorem dL_areStars_39 : decode cL_areStars 39 = .ok (.invokevirtual 95, 3) := by decide +kernel
theorem dL_areStars_42 : decode cL_areStars 42 = .ok (.invokevirtual 92, 3) := by decide +kernel
theorem dL_areStars_45 : decode cL_areStars 45 = .ok (.if_icmp .le 7, 3) := by decide +kernel
theorem dL_areStars_48 : decode cL_areStars 48 = .ok (.iconst 1, 1) := by decide +kernel
theorem dL_areStars_49 : decode cL_areStars 49 = .ok (.goto 4, 3) := by decide +kernel
theorem dL_areStars_52 : decode cL_areStars 52 = .ok (.iconst 0, 1) := by decide +kernel
theorem dL_areStars_53 : decode cL_areStars 53 = .ok (.istore 6, 2) := by decide +kernel
theorem dL_areStars_55 : decode cL_areStars 55 = .ok (.iload_n 1, 1) := by decide +kernel
theorem dL_areStars_56 : decode cL_areStars 56 = .ok (.aload_n 0, 1) := by decide +kernel
theorem dL_areStars_57 : decode cL_areStars 57 = .ok (.iload 5, 2) := by decide +kernel
theorem dL_areStars_59 : decode cL_areStars 59 = .ok (.iconst 3, 1) := by decide +kernel
theorem dL_areStars_60 : decode cL_areStars 60 = .ok (.invokevirtual 95, 3) := by decide +kernel
theorem dL_areStars_63 : decode cL_areStars 63 = .ok (.bipush (-4), 2) := by decide +kernel
theorem dL_areStars_65 : decode cL_areStars 65 = .ok (.if_icmp .ne 7, 3) := by decide +kernel
theorem dL_areStars_68 : decode cL_areStars 68 = .ok (.iconst 0, 1) := by decide +kernel
theorem dL_areStars_69 : decode cL_areStars 69 = .ok (.goto 4, 3) := by decide +kernel
theorem dL_areStars_72 : decode cL_areStars 72 = .ok (.iconst 1, 1) := by decide +kernel
theorem dL_areStars_73 : decode cL_areStars 73 = .ok (.iadd, 1) := by decide +kernel
theorem dL_areStars_74 : decode cL_areStars 74 = .ok (.istore_n 1, 1) := by decide +kernel
theorem dL_areStars_75 : decode cL_areStars 75 = .ok (.iload_n 2, 1) := by decide +kernel
theorem dL_areStars_76 : decode cL_areStars 76 = .ok (.aload_n 0, 1) := by decide +kernel
theorem dL_areStars_77 : decode cL_areStars 77 = .ok (.iload 5, 2) := by decide +kernel
theorem dL_areStars_79 : decode cL_areStars 79 = .ok (.iconst 4, 1) := by decide +kernel
theorem dL_areStars_80 : decode cL_areStars 80 = .ok (.invokevirtual 95, 3) := by decide +kernel
theorem dL_areStars_83 : decode cL_areStars 83 = .ok (.iadd, 1) := by decide +kernel
theorem dL_areStars_84 : decode cL_areStars 84 = .ok (.istore_n 2, 1) := by decide +kernel
theorem dL_areStars_85 : decode cL_areStars 85 = .ok (.aload_n 0, 1) := by decide +kernel
theorem dL_areStars_86 : decode cL_areStars 86 = .ok (.iload 5, 2) := by decide +kernel
theorem dL_areStars_88 : decode cL_areStars 88 = .ok (.iconst 2, 1) := by decide +kernel
theorem dL_areStars_89 : decode cL_areStars 89 = .ok (.invokevirtual 95, 3) := by decide +kernel
theorem dL_areStars_92 : decode cL_areStars 92 = .ok (.iconst 1, 1) := by decide +kernel
theorem dL_areStars_93 : decode cL_areStars 93 = .ok (.if_icmp .ne 7, 3) := by decide +kernel
theorem dL_areStars_96 : decode cL_areStars 96 = .ok (.iconst 1, 1) := by decide +kernel
theorem dL_areStars_97 : decode cL_areStars 97 = .ok (.goto 4, 3) := by decide +kernel
theorem dL_areStars_100 : decode cL_areStars 100 = .ok (.iconst 0, 1) := by decide +kernel
theorem dL_areStars_101 : decode cL_areStars 101 = .ok (.iload 6, 2) := by decide +kernel
theorem dL_areStars_103 : decode cL_areStars 103 = .ok (.if_icmp .ne 7, 3) := by decide +kernel
theorem dL_areStars_106 : decode cL_areStars 106 = .ok (.iconst 1, 1) := by decide +kernel
theorem dL_areStars_107 : decode cL_areStars 107 = .ok (.goto 4, 3) := by decide +kernel
theorem dL_areStars_110 : decode cL_areStars 110 = .ok (.iconst 0, 1) := by decide +kernel
theorem dL_areStars_111 : decode cL_areStars 111 = .ok (.istore 4, 2) := by decide +kernel
theorem dL_areStars_113 : decode cL_areStars 113 = .ok (.iconst 0, 1) := by decide +kernel
theorem dL_areStars_114 : decode cL_areStars 114 = .ok (.istore 7, 2) := by decide +kernel
theorem dL_areStars_116 : decode cL_areStars 116 = .ok (.iload 4, 2) := by decide +kernel
theorem dL_areStars_118 : decode cL_areStars 118 = .ok (.ifCond .eq 65, 3) := by decide +kernel
theorem dL_areStars_121 : decode cL_areStars 121 = .ok (.iload 7, 2) := by decide +kernel
theorem dL_areStars_123 : decode cL_areStars 123 = .ok (.aload_n 0, 1) := by decide +kernel
theorem dL_areStars_124 : decode cL_areStars 124 = .ok (.iconst 1, 1) := by decide +kernel
theorem dL_areStars_125 : decode cL_areStars 125 = .ok (.invokevirtual 89, 3) := by decide +kernel
theorem dL_areStars_128 : decode cL_areStars 128 = .ok (.if_icmp .ge 55, 3) := by decide +kernel
theorem dL_areStars_131 : decode cL_areStars 131 = .ok (.aload_n 0, 1) := by decide +kernel
theorem dL_areStars_132 : decode cL_areStars 132 = .ok (.iload 7, 2) := by decide +kernel
theorem dL_areStars_134 : decode cL_areStars 134 = .ok (.iload 5, 2) := by decide +kernel
theorem dL_areStars_136 : decode cL_areStars 136 = .ok (.invokevirtual 107, 3) := by decide +kernel
theorem dL_areStars_139 : decode cL_areStars 139 = .ok (.iload 6, 2) := by decide +kernel
theorem dL_areStars_141 : decode cL_areStars 141 = .ok (.ifCond .eq 25, 3) := by decide +kernel
theorem dL_areStars_144 : decode cL_areStars 144 = .ok (.aload_n 0, 1) := by decide +kernel
theorem dL_areStars_145 : decode cL_areStars 145 = .ok (.iload 5, 2) := by decide +kernel
theorem dL_areStars_147 : decode cL_areStars 147 = .ok (.iconst 3, 1) := by decide +kernel
theorem dL_areStars_148 : decode cL_areStars 148 = .ok (.invokevirtual 95, 3) := by decide +kernel
theorem dL_areStars_151 : decode cL_areStars 151 = .ok (.iload 7, 2) := by decide +kernel
theorem dL_areStars_153 : decode cL_areStars 153 = .ok (.if_icmp .eq 13, 3) := by decide +kernel
theorem dL_areStars_156 : decode cL_areStars 156 = .ok (.aload_n 0, 1) := by decide +kernel
theorem dL_areStars_157 : decode cL_areStars 157 = .ok (.iload 5, 2) := by decide +kernel
theorem dL_areStars_159 : decode cL_areStars 159 = .ok (.iconst 0, 1) := by decide +kernel
theorem dL_areStars_160 : decode cL_areStars 160 = .ok (.invokevirtual 95, 3) := by decide +kernel
theorem dL_areStars_163 : decode cL_areStars 163 = .ok (.goto 4, 3) := by decide +kernel
theorem dL_areStars_166 : decode cL_areStars 166 = .ok (.iconst 0, 1) := by decide +kernel
theorem dL_areStars_167 : decode cL_areStars 167 = .ok (.if_icmp .ne 7, 3) := by decide +kernel
theorem dL_areStars_170 : decode cL_areStars 170 = .ok (.iconst 1, 1) := by decide +kernel
theorem dL_areStars_171 : decode cL_areStars 171 = .ok (.goto 4, 3) := by decide +kernel
theorem dL_areStars_174 : decode cL_areStars 174 = .ok (.iconst 0, 1) := by decide +kernel
theorem dL_areStars_175 : decode cL_areStars 175 = .ok (.istore 4, 2) := by decide +kernel
theorem dL_areStars_177 : decode cL_areStars 177 = .ok (.iinc 7 1, 3) := by decide +kernel
theorem dL_areStars_180 : decode cL_areStars 180 = .ok (.goto (-64), 3) := by decide +kernel
theorem dL_areStars_183 : decode cL_areStars 183 = .ok (.iinc 5 1, 3) := by decide +kernel
theorem dL_areStars_186 : decode cL_areStars 186 = .ok (.goto (-174), 3) := by decide +kernel
theorem dL_areStars_189 : decode cL_areStars 189 = .ok (.iconst 0, 1) := by decide +kernel
theorem dL_areStars_190 : decode cL_areStars 190 = .ok (.istore 5, 2) := by decide +kernel
theorem dL_areStars_192 : decode cL_areStars 192 = .ok (.iload 4, 2) := by decide +kernel
theorem dL_areStars_194 : decode cL_areStars 194 = .ok (.ifCond .eq 171, 3) := by decide +kernel
theorem dL_areStars_197 : decode cL_areStars 197 = .ok (.iload 5, 2) := by decide +kernel
theorem dL_areStars_199 : decode cL_areStars 199 = .ok (.iconst 4, 1) := by decide +kernel
theorem dL_areStars_200 : decode cL_areStars 200 = .ok (.if_icmp .ge 165, 3) := by decide +kernel
theorem dL_areStars_203 : decode cL_areStars 203 = .ok (.iconst 0, 1) := by decide +kernel
theorem dL_areStars_204 : decode cL_areStars 204 = .ok (.istore 6, 2) := by decide +kernel
theorem dL_areStars_206 : decode cL_areStars 206 = .ok (.iconst 0, 1) := by decide +kernel
theorem dL_areStars_207 : decode cL_areStars 207 = .ok (.istore 7, 2) := by decide +kernel
theorem dL_areStars_209 : decode cL_areStars 209 = .ok (.iload_n 3, 1) := by decide +kernel
theorem dL_areStars_210 : decode cL_areStars 210 = .ok (.aload_n 0, 1) := by decide +kernel
theorem dL_areStars_211 : decode cL_areStars 211 = .ok (.iload 5, 2) := by decide +kernel
theorem dL_areStars_213 : decode cL_areStars 213 = .ok (.invokevirtual 92, 3) := by decide +kernel
theorem dL_areStars_216 : decode cL_areStars 216 = .ok (.iadd, 1) := by decide +kernel
theorem dL_areStars_217 : decode cL_areStars 217 = .ok (.istore_n 3, 1) := by decide +kernel
theorem dL_areStars_218 : decode cL_areStars 218 = .ok (.iconst 0, 1) := by decide +kernel
theorem dL_areStars_219 : decode cL_areStars 219 = .ok (.istore 8, 2) := by decide +kernel
theorem dL_areStars_221 : decode cL_areStars 221 = .ok (.iload 8, 2) := by decide +kernel
theorem dL_areStars_223 : decode cL_areStars 223 = .ok (.aload_n 0, 1) := by decide +kernel
theorem dL_areStars_224 : decode cL_areStars 224 = .ok (.iconst 0, 1) := by decide +kernel
theorem dL_areStars_225 : decode cL_areStars 225 = .ok (.invokevirtual 89, 3) := by decide +kernel
theorem dL_areStars_228 : decode cL_areStars 228 = .ok (.if_icmp .ge 82, 3) := by decide +kernel
theorem dL_areStars_231 : decode cL_areStars 231 = .ok (.aload_n 0, 1) := by decide +kernel
theorem dL_areStars_232 : decode cL_areStars 232 = .ok (.iload 8, 2) := by decide +kernel
theorem dL_areStars_234 : decode cL_areStars 234 = .ok (.iconst 1, 1) := by decide +kernel
theorem dL_areStars_235 : decode cL_areStars 235 = .ok (.invokevirtual 95, 3) := by decide +kernel
theorem dL_areStars_238 : decode cL_areStars 238 = .ok (.iload 5, 2) := by decide +kernel
theorem dL_areStars_240 : decode cL_areStars 240 = .ok (.if_icmp .ne 7, 3) := by decide +kernel
theorem dL_areStars_243 : decode cL_areStars 243 = .ok (.iconst 1, 1) := by decide +kernel
theorem dL_areStars_244 : decode cL_areStars 244 = .ok (.goto 4, 3) := by decide +kernel
theorem dL_areStars_247 : decode cL_areStars 247 = .ok (.iconst 0, 1) := by decide +kernel
theorem dL_areStars_248 : decode cL_areStars 248 = .ok (.istore 9, 2) := by decide +kernel
theorem dL_areStars_250 : decode cL_areStars 250 = .ok (.iload 6, 2) := by decide +kernel
theorem dL_areStars_252 : decode cL_areStars 252 = .ok (.iload 9, 2) := by decide +kernel
theorem dL_areStars_254 : decode cL_areStars 254 = .ok (.ifCond .eq 13, 3) := by decide +kernel
theorem dL_areStars_257 : decode cL_areStars 257 = .ok (.aload_n 0, 1) := by decide +kernel
theorem dL_areStars_258 : decode cL_areStars 258 = .ok (.iload 8, 2) := by decide +kernel
theorem dL_areStars_260 : decode cL_areStars 260 = .ok (.iconst 2, 1) := by decide +kernel
theorem dL_areStars_261 : decode cL_areStars 261 = .ok (.invokevirtual 95, 3) := by decide +kernel
theorem dL_areStars_264 : decode cL_areStars 264 = .ok (.goto 4, 3) := by decide +kernel
theorem dL_areStars_267 : decode cL_areStars 267 = .ok (.iconst 0, 1) := by decide +kernel
theorem dL_areStars_268 : decode cL_areStars 268 = .ok (.iadd, 1) := by decide +kernel
theorem dL_areStars_269 : decode cL_areStars 269 = .ok (.istore 6, 2) := by decide +kernel
theorem dL_areStars_271 : decode cL_areStars 271 = .ok (.iload 9, 2) := by decide +kernel
theorem dL_areStars_273 : decode cL_areStars 273 = .ok (.ifCond .eq 27, 3) := by decide +kernel
theorem dL_areStars_276 : decode cL_areStars 276 = .ok (.iload 7, 2) := by decide +kernel
theorem dL_areStars_278 : decode cL_areStars 278 = .ok (.aload_n 0, 1) := by decide +kernel
theorem dL_areStars_279 : decode cL_areStars 279 = .ok (.iload 5, 2) := by decide +kernel
theorem dL_areStars_281 : decode cL_areStars 281 = .ok (.invokevirtual 92, 3) := by decide +kernel
theorem dL_areStars_284 : decode cL_areStars 284 = .ok (.iconst 1, 1) := by decide +kernel
theorem dL_areStars_285 : decode cL_areStars 285 = .ok (.iadd, 1) := by decide +kernel
theorem dL_areStars_286 : decode cL_areStars 286 = .ok (.aload_n 0, 1) := by decide +kernel
theorem dL_areStars_287 : decode cL_areStars 287 = .ok (.iload 8, 2) := by decide +kernel
theorem dL_areStars_289 : decode cL_areStars 289 = .ok (.iconst 0, 1) := by decide +kernel
theorem dL_areStars_290 : decode cL_areStars 290 = .ok (.invokevirtual 95, 3) := by decide +kernel
theorem dL_areStars_293 : decode cL_areStars 293 = .ok (.isub, 1) := by decide +kernel
theorem dL_areStars_294 : decode cL_areStars 294 = .ok (.invokestatic 110, 3) := by decide +kernel
theorem dL_areStars_297 : decode cL_areStars 297 = .ok (.goto 5, 3) := by decide +kernel
theorem dL_areStars_300 : decode cL_areStars 300 = .ok (.iload 7, 2) := by decide +kernel
theorem dL_areStars_302 : decode cL_areStars 302 = .ok (.istore 7, 2) := by decide +kernel
theorem dL_areStars_304 : decode cL_areStars 304 = .ok (.iinc 8 1, 3) := by decide +kernel
theorem dL_areStars_307 : decode cL_areStars 307 = .ok (.goto (-86), 3) := by decide +kernel
theorem dL_areStars_310 : decode cL_areStars 310 = .ok (.aload_n 0, 1) := by decide +kernel
theorem dL_areStars_311 : decode cL_areStars 311 = .ok (.iload 5, 2) := by decide +kernel
theorem dL_areStars_313 : decode cL_areStars 313 = .ok (.invokevirtual 115, 3) := by decide +kernel
theorem dL_areStars_316 : decode cL_areStars 316 = .ok (.iload 6, 2) := by decide +kernel
theorem dL_areStars_318 : decode cL_areStars 318 = .ok (.if_icmp .ne 38, 3) := by decide +kernel
theorem dL_areStars_321 : decode cL_areStars 321 = .ok (.aload_n 0, 1) := by decide +kernel
theorem dL_areStars_322 : decode cL_areStars 322 = .ok (.iload 5, 2) := by decide +kernel
theorem dL_areStars_324 : decode cL_areStars 324 = .ok (.invokevirtual 118, 3) := by decide +kernel
theorem dL_areStars_327 : decode cL_areStars 327 = .ok (.iload 6, 2) := by decide +kernel
theorem dL_areStars_329 : decode cL_areStars 329 = .ok (.if_icmp .ne 27, 3) := by decide +kernel
theorem dL_areStars_332 : decode cL_areStars 332 = .ok (.aload_n 0, 1) := by decide +kernel
theorem dL_areStars_333 : decode cL_areStars 333 = .ok (.iload 5, 2) := by decide +kernel
theorem dL_areStars_335 : decode cL_areStars 335 = .ok (.invokevirtual 121, 3) := by decide +kernel
theorem dL_areStars_338 : decode cL_areStars 338 = .ok (.iload 7, 2) := by decide +kernel
theorem dL_areStars_340 : decode cL_areStars 340 = .ok (.if_icmp .ne 16, 3) := by decide +kernel
theorem dL_areStars_343 : decode cL_areStars 343 = .ok (.aload_n 0, 1) := by decide +kernel
theorem dL_areStars_344 : decode cL_areStars 344 = .ok (.iload 5, 2) := by decide +kernel
theorem dL_areStars_346 : decode cL_areStars 346 = .ok (.invokevirtual 124, 3) := by decide +kernel
theorem dL_areStars_349 : decode cL_areStars 349 = .ok (.ifCond .lt 7, 3) := by decide +kernel
theorem dL_areStars_352 : decode cL_areStars 352 = .ok (.iconst 1, 1) := by decide +kernel
theorem dL_areStars_353 : decode cL_areStars 353 = .ok (.goto 4, 3) := by decide +kernel
theorem dL_areStars_356 : decode cL_areStars 356 = .ok (.iconst 0, 1) := by decide +kernel
theorem dL_areStars_357 : decode cL_areStars 357 = .ok (.istore 4, 2) := by decide +kernel
theorem dL_areStars_359 : decode cL_areStars 359 = .ok (.iinc 5 1, 3) := by decide +kernel
theorem dL_areStars_362 : decode cL_areStars 362 = .ok (.goto (-170), 3) := by decide +kernel
theorem dL_areStars_365 : decode cL_areStars 365 = .ok (.iload 4, 2) := by decide +kernel
theorem dL_areStars_367 : decode cL_areStars 367 = .ok (.ifCond .eq 63, 3) := by decide +kernel
theorem dL_areStars_370 : decode cL_areStars 370 = .ok (.iload_n 1, 1) := by decide +kernel
theorem dL_areStars_371 : decode cL_areStars 371 = .ok (.aload_n 0, 1) := by decide +kernel
theorem dL_areStars_372 : decode cL_areStars 372 = .ok (.iconst 4, 1) := by decide +kernel
theorem dL_areStars_373 : decode cL_areStars 373 = .ok (.invokevirtual 89, 3) := by decide +kernel
theorem dL_areStars_376 : decode cL_areStars 376 = .ok (.if_icmp .ne 54, 3) := by decide +kernel
theorem dL_areStars_379 : decode cL_areStars 379 = .ok (.iload_n 2, 1) := by decide +kernel
theorem dL_areStars_380 : decode cL_areStars 380 = .ok (.aload_n 0, 1) := by decide +kernel
theorem dL_areStars_381 : decode cL_areStars 381 = .ok (.bipush 6, 2) := by decide +kernel
theorem dL_areStars_383 : decode cL_areStars 383 = .ok (.invokevirtual 89, 3) := by decide +kernel
theorem dL_areStars_386 : decode cL_areStars 386 = .ok (.if_icmp .ne 44, 3) := by decide +kernel
theorem dL_areStars_389 : decode cL_areStars 389 = .ok (.aload_n 0, 1) := by decide +kernel
theorem dL_areStars_390 : decode cL_areStars 390 = .ok (.bipush 7, 2) := by decide +kernel
theorem dL_areStars_392 : decode cL_areStars 392 = .ok (.invokevirtual 89, 3) := by decide +kernel
theorem dL_areStars_395 : decode cL_areStars 395 = .ok (.aload_n 0, 1) := by decide +kernel
theorem dL_areStars_396 : decode cL_areStars 396 = .ok (.bipush 6, 2) := by decide +kernel
theorem dL_areStars_398 : decode cL_areStars 398 = .ok (.invokevirtual 89, 3) := by decide +kernel
theorem dL_areStars_401 : decode cL_areStars 401 = .ok (.if_icmp .gt 29, 3) := by decide +kernel
theorem dL_areStars_404 : decode cL_areStars 404 = .ok (.aload_n 0, 1) := by decide +kernel
theorem dL_areStars_405 : decode cL_areStars 405 = .ok (.invokevirtual 127, 3) := by decide +kernel
theorem dL_areStars_408 : decode cL_areStars 408 = .ok (.iload_n 3, 1) := by decide +kernel
theorem dL_areStars_409 : decode cL_areStars 409 = .ok (.i2d, 1) := by decide +kernel
theorem dL_areStars_410 : decode cL_areStars 410 = .ok (.ldc2_w 131, 3) := by decide +kernel
theorem dL_areStars_413 : decode cL_areStars 413 = .ok (.ddiv, 1) := by decide +kernel
theorem dL_areStars_414 : decode cL_areStars 414 = .ok (.dcmp .l, 1) := by decide +kernel
theorem dL_areStars_415 : decode cL_areStars 415 = .ok (.ifCond .ne 15, 3) := by decide +kernel
theorem dL_areStars_418 : decode cL_areStars 418 = .ok (.aload_n 0, 1) := by decide +kernel
theorem dL_areStars_419 : decode cL_areStars 419 = .ok (.invokevirtual 133, 3) := by decide +kernel
theorem dL_areStars_422 : decode cL_areStars 422 = .ok (.iconst 1, 1) := by decide +kernel
theorem dL_areStars_423 : decode cL_areStars 423 = .ok (.if_icmp .ne 7, 3) := by decide +kernel
theorem dL_areStars_426 : decode cL_areStars 426 = .ok (.iconst 1, 1) := by decide +kernel
theorem dL_areStars_427 : decode cL_areStars 427 = .ok (.goto 4, 3) := by decide +kernel
theorem dL_areStars_430 : decode cL_areStars 430 = .ok (.iconst 0, 1) := by decide +kernel
theorem dL_areStars_431 : decode cL_areStars 431 = .ok (.ireturn, 1) := by decide +kernel
theorem dL_areRoofs_0 : decode cL_areRoofs 0 = .ok (.iconst 0, 1) := by decide +kernel
theorem dL_areRoofs_1 : decode cL_areRoofs 1 = .ok (.istore_n 1, 1) := by decide +kernel
theorem dL_areRoofs_2 : decode cL_areRoofs 2 = .ok (.iconst 0, 1) := by decide +kernel
theorem dL_areRoofs_3 : decode cL_areRoofs 3 = .ok (.istore_n 2, 1) := by decide +kernel
theorem dL_areRoofs_4 : decode cL_areRoofs 4 = .ok (.iconst 0, 1) := by decide +kernel
theorem dL_areRoofs_5 : decode cL_areRoofs 5 = .ok (.istore_n 3, 1) := by decide +kernel
theorem dL_areRoofs_6 : decode cL_areRoofs 6 = .ok (.iconst 0, 1) := by decide +kernel
theorem dL_areRoofs_7 : decode cL_areRoofs 7 = .ok (.istore 4, 2) := by decide +kernel
theorem dL_areRoofs_9 : decode cL_areRoofs 9 = .ok (.iconst 0, 1) := by decide +kernel
theorem dL_areRoofs_10 : decode cL_areRoofs 10 = .ok (.istore 5, 2) := by decide +kernel
theorem dL_areRoofs_12 : decode cL_areRoofs 12 = .ok (.iconst 1, 1) := by decide +kernel
theorem dL_areRoofs_13 : decode cL_areRoofs 13 = .ok (.istore 6, 2) := by decide +kernel
theorem dL_areRoofs_15 : decode cL_areRoofs 15 = .ok (.iconst 0, 1) := by decide +kernel
theorem dL_areRoofs_16 : decode cL_areRoofs 16 = .ok (.istore 7, 2) := by decide +kernel
theorem dL_areRoofs_18 : decode cL_areRoofs 18 = .ok (.iload 6, 2) := by decide +kernel
theorem dL_areRoofs_20 : decode cL_areRoofs 20 = .ok (.ifCond .eq 368, 3) := by decide +kernel
theorem dL_areRoofs_23 : decode cL_areRoofs 23 = .ok (.iload 7, 2) := by decide +kernel
theorem dL_areRoofs_25 : decode cL_areRoofs 25 = .ok (.aload_n 0, 1) := by decide +kernel
theorem dL_areRoofs_26 : decode cL_areRoofs 26 = .ok (.iconst 1, 1) := by decide +kernel
theorem dL_areRoofs_27 : decode cL_areRoofs 27 = .ok (.invokevirtual 89, 3) := by decide +kernel
theorem dL_areRoofs_30 : decode cL_areRoofs 30 = .ok (.if_icmp .ge 358, 3) := by decide +kernel
theorem dL_areRoofs_33 : decode cL_areRoofs 33 = .ok (.iconst 0, 1) := by decide +kernel
theorem dL_areRoofs_34 : decode cL_areRoofs 34 = .ok (.istore 8, 2) := by decide +kernel
theorem dL_areRoofs_36 : decode cL_areRoofs 36 = .ok (.iconst 0, 1) := by decide +kernel
theorem dL_areRoofs_37 : decode cL_areRoofs 37 = .ok (.istore 9, 2) := by decide +kernel
theorem dL_areRoofs_39 : decode cL_areRoofs 39 = .ok (.iconst 0, 1) := by decide +kernel
theorem dL_areRoofs_40 : decode cL_areRoofs 40 = .ok (.istore 10, 2) := by decide +kernel
theorem dL_areRoofs_42 : decode cL_areRoofs 42 = .ok (.iconst 0, 1) := by decide +kernel
theorem dL_areRoofs_43 : decode cL_areRoofs 43 = .ok (.istore 11, 2) := by decide +kernel
theorem dL_areRoofs_45 : decode cL_areRoofs 45 = .ok (.iconst 0, 1) := by decide +kernel
theorem dL_areRoofs_46 : decode cL_areRoofs 46 = .ok (.istore 12, 2) := by decide +kernel
theorem dL_areRoofs_48 : decode cL_areRoofs 48 = .ok (.iload 12, 2) := by decide +kernel
theorem dL_areRoofs_50 : decode cL_areRoofs 50 = .ok (.aload_n 0, 1) := by decide +kernel
theorem dL_areRoofs_51 : decode cL_areRoofs 51 = .ok (.iconst 2, 1) := by decide +kernel
theorem dL_areRoofs_52 : decode cL_areRoofs 52 = .ok (.invokevirtual 89, 3) := by decide +kernel
theorem dL_areRoofs_55 : decode cL_areRoofs 55 = .ok (.if_icmp .ge 127, 3) := by decide +kernel
theorem dL_areRoofs_58 : decode cL_areRoofs 58 = .ok (.aload_n 0, 1) := by decide +kernel
theorem dL_areRoofs_59 : decode cL_areRoofs 59 = .ok (.iload 12, 2) := by decide +kernel
theorem dL_areRoofs_61 : decode cL_areRoofs 61 = .ok (.iconst 0, 1) := by decide +kernel
theorem dL_areRoofs_62 : decode cL_areRoofs 62 = .ok (.invokevirtual 104, 3) := by decide +kernel
theorem dL_areRoofs_65 : decode cL_areRoofs 65 = .ok (.iload 7, 2) := by decide +kernel
theorem dL_areRoofs_67 : decode cL_areRoofs 67 = .ok (.if_icmp .ne 7, 3) := by decide +kernel
theorem dL_areRoofs_70 : decode cL_areRoofs 70 = .ok (.iconst 1, 1) := by decide +kernel
theorem dL_areRoofs_71 : decode cL_areRoofs 71 = .ok (.goto 4, 3) := by decide +kernel
theorem dL_areRoofs_74 : decode cL_areRoofs 74 = .ok (.iconst 0, 1) := by decide +kernel
theorem dL_areRoofs_75 : decode cL_areRoofs 75 = .ok (.istore 13, 2) := by decide +kernel
theorem dL_areRoofs_77 : decode cL_areRoofs 77 = .ok (.iload 13, 2) := by decide +kernel
theorem dL_areRoofs_79 : decode cL_areRoofs 79 = .ok (.ifCond .eq 19, 3) := by decide +kernel
theorem dL_areRoofs_82 : decode cL_areRoofs 82 = .ok (.aload_n 0, 1) := by decide +kernel
theorem dL_areRoofs_83 : decode cL_areRoofs 83 = .ok (.iload 12, 2) := by decide +kernel
theorem dL_areRoofs_85 : decode cL_areRoofs 85 = .ok (.iconst 4, 1) := by decide +kernel
theorem dL_areRoofs_86 : decode cL_areRoofs 86 = .ok (.invokevirtual 104, 3) := by decide +kernel
theorem dL_areRoofs_89 : decode cL_areRoofs 89 = .ok (.bipush (-4), 2) := by decide +kernel
theorem dL_areRoofs_91 : decode cL_areRoofs 91 = .ok (.if_icmp .eq 7, 3) := by decide +kernel
theorem dL_areRoofs_94 : decode cL_areRoofs 94 = .ok (.iconst 1, 1) := by decide +kernel
theorem dL_areRoofs_95 : decode cL_areRoofs 95 = .ok (.goto 4, 3) := by decide +kernel
theorem dL_areRoofs_98 : decode cL_areRoofs 98 = .ok (.iconst 0, 1) := by decide +kernel
theorem dL_areRoofs_99 : decode cL_areRoofs 99 = .ok (.istore 14, 2) := by decide +kernel
theorem dL_areRoofs_101 : decode cL_areRoofs 101 = .ok (.iload 8, 2) := by decide +kernel
theorem dL_areRoofs_103 : decode cL_areRoofs 103 = .ok (.iload 13, 2) := by decide +kernel
theorem dL_areRoofs_105 : decode cL_areRoofs 105 = .ok (.ifCond .eq 7, 3) := by decide +kernel
theorem dL_areRoofs_108 : decode cL_areRoofs 108 = .ok (.iconst 1, 1) := by decide +kernel
theorem dL_areRoofs_109 : decode cL_areRoofs 109 = .ok (.goto 4, 3) := by decide +kernel
theorem dL_areRoofs_112 : decode cL_areRoofs 112 = .ok (.iconst 0, 1) := by decide +kernel
theorem dL_areRoofs_113 : decode cL_areRoofs 113 = .ok (.iadd, 1) := by decide +kernel
theorem dL_areRoofs_114 : decode cL_areRoofs 114 = .ok (.istore 8, 2) := by decide +kernel
theorem dL_areRoofs_116 : decode cL_areRoofs 116 = .ok (.iload 9, 2) := by decide +kernel
theorem dL_areRoofs_118 : decode cL_areRoofs 118 = .ok (.iload 14, 2) := by decide +kernel
theorem dL_areRoofs_120 : decode cL_areRoofs 120 = .ok (.ifCond .eq 7, 3) := by decide +kernel
theorem dL_areRoofs_123 : decode cL_areRoofs 123 = .ok (.iconst 1, 1) := by decide +kernel
theorem dL_areRoofs_124 : decode cL_areRoofs 124 = .ok (.goto 4, 3) := by decide +kernel
theorem dL_areRoofs_127 : decode cL_areRoofs 127 = .ok (.iconst 0, 1) := by decide +kernel
theorem dL_areRoofs_128 : decode cL_areRoofs 128 = .ok (.iadd, 1) := by decide +kernel
theorem dL_areRoofs_129 : decode cL_areRoofs 129 = .ok (.istore 9, 2) := by decide +kernel
theorem dL_areRoofs_131 : decode cL_areRoofs 131 = .ok (.iload 10, 2) := by decide +kernel
theorem dL_areRoofs_133 : decode cL_areRoofs 133 = .ok (.iload 14, 2) := by decide +kernel
theorem dL_areRoofs_135 : decode cL_areRoofs 135 = .ok (.ifCond .eq 13, 3) := by decide +kernel
theorem dL_areRoofs_138 : decode cL_areRoofs 138 = .ok (.aload_n 0, 1) := by decide +kernel
theorem dL_areRoofs_139 : decode cL_areRoofs 139 = .ok (.iload 12, 2) := by decide +kernel
theorem dL_areRoofs_141 : decode cL_areRoofs 141 = .ok (.iconst 5, 1) := by decide +kernel
theorem dL_areRoofs_142 : decode cL_areRoofs 142 = .ok (.invokevirtual 104, 3) := by decide +kernel
theorem dL_areRoofs_145 : decode cL_areRoofs 145 = .ok (.goto 4, 3) := by decide +kernel
theorem dL_areRoofs_148 : decode cL_areRoofs 148 = .ok (.iconst 0, 1) := by decide +kernel
theorem dL_areRoofs_149 : decode cL_areRoofs 149 = .ok (.iadd, 1) := by decide +kernel
theorem dL_areRoofs_150 : decode cL_areRoofs 150 = .ok (.istore 10, 2) := by decide +kernel
theorem dL_areRoofs_152 : decode cL_areRoofs 152 = .ok (.iload 14, 2) := by decide +kernel
theorem dL_areRoofs_154 : decode cL_areRoofs 154 = .ok (.ifCond .eq 18, 3) := by decide +kernel
theorem dL_areRoofs_157 : decode cL_areRoofs 157 = .ok (.iload 11, 2) := by decide +kernel
theorem dL_areRoofs_159 : decode cL_areRoofs 159 = .ok (.aload_n 0, 1) := by decide +kernel
theorem dL_areRoofs_160 : decode cL_areRoofs 160 = .ok (.iload 12, 2) := by decide +kernel
theorem dL_areRoofs_162 : decode cL_areRoofs 162 = .ok (.iconst 5, 1) := by decide +kernel
theorem dL_areRoofs_163 : decode cL_areRoofs 163 = .ok (.invokevirtual 104, 3) := by decide +kernel
theorem dL_areRoofs_166 : decode cL_areRoofs 166 = .ok (.invokestatic 110, 3) := by decide +kernel
theorem dL_areRoofs_169 : decode cL_areRoofs 169 = .ok (.goto 5, 3) := by decide +kernel
theorem dL_areRoofs_172 : decode cL_areRoofs 172 = .ok (.iload 11, 2) := by decide +kernel
theorem dL_areRoofs_174 : decode cL_areRoofs 174 = .ok (.istore 11, 2) := by decide +kernel
theorem dL_areRoofs_176 : decode cL_areRoofs 176 = .ok (.iinc 12 1, 3) := by decide +kernel
theorem dL_areRoofs_179 : decode cL_areRoofs 179 = .ok (.goto (-131), 3) := by decide +kernel
theorem dL_areRoofs_182 : decode cL_areRoofs 182 = .ok (.iload_n 1, 1) := by decide +kernel
theorem dL_areRoofs_183 : decode cL_areRoofs 183 = .ok (.iload 8, 2) := by decide +kernel
theorem dL_areRoofs_185 : decode cL_areRoofs 185 = .ok (.iadd, 1) := by decide +kernel
theorem dL_areRoofs_186 : decode cL_areRoofs 186 = .ok (.istore_n 1, 1) := by decide +kernel
theorem dL_areRoofs_187 : decode cL_areRoofs 187 = .ok (.iload_n 2, 1) := by decide +kernel
theorem dL_areRoofs_188 : decode cL_areRoofs 188 = .ok (.iload 9, 2) := by decide +kernel
theorem dL_areRoofs_190 : decode cL_areRoofs 190 = .ok (.iadd, 1) := by decide +kernel
theorem dL_areRoofs_191 : decode cL_areRoofs 191 = .ok (.istore_n 2, 1) := by decide +kernel
theorem dL_areRoofs_192 : decode cL_areRoofs 192 = .ok (.iload_n 3, 1) := by decide +kernel
theorem dL_areRoofs_193 : decode cL_areRoofs 193 = .ok (.aload_n 0, 1) := by decide +kernel
theorem dL_areRoofs_194 : decode cL_areRoofs 194 = .ok (.iload 7, 2) := by decide +kernel
theorem dL_areRoofs_196 : decode cL_areRoofs 196 = .ok (.iconst 4, 1) := by decide +kernel
theorem dL_areRoofs_197 : decode cL_areRoofs 197 = .ok (.invokevirtual 98, 3) := by decide +kernel
theorem dL_areRoofs_200 : decode cL_areRoofs 200 = .ok (.iadd, 1) := by decide +kernel
theorem dL_areRoofs_201 : decode cL_areRoofs 201 = .ok (.istore_n 3, 1) := by decide +kernel
theorem dL_areRoofs_202 : decode cL_areRoofs 202 = .ok (.iload 4, 2) := by decide +kernel
theorem dL_areRoofs_204 : decode cL_areRoofs 204 = .ok (.aload_n 0, 1) := by decide +kernel
theorem dL_areRoofs_205 : decode cL_areRoofs 205 = .ok (.iload 7, 2) := by decide +kernel
theorem dL_areRoofs_207 : decode cL_areRoofs 207 = .ok (.iconst 5, 1) := by decide +kernel
theorem dL_areRoofs_208 : decode cL_areRoofs 208 = .ok (.invokevirtual 98, 3) := by decide +kernel
theorem dL_areRoofs_211 : decode cL_areRoofs 211 = .ok (.iadd, 1) := by decide +kernel
theorem dL_areRoofs_212 : decode cL_areRoofs 212 = .ok (.istore 4, 2) := by decide +kernel
theorem dL_areRoofs_214 : decode cL_areRoofs 214 = .ok (.iload 5, 2) := by decide +kernel
theorem dL_areRoofs_216 : decode cL_areRoofs 216 = .ok (.aload_n 0, 1) := by decide +kernel
theorem dL_areRoofs_217 : decode cL_areRoofs 217 = .ok (.iload 7, 2) := by decide +kernel
theorem dL_areRoofs_219 : decode cL_areRoofs 219 = .ok (.bipush 6, 2) := by decide +kernel
theorem dL_areRoofs_221 : decode cL_areRoofs 221 = .ok (.invokevirtual 98, 3) := by decide +kernel
theorem dL_areRoofs_224 : decode cL_areRoofs 224 = .ok (.iadd, 1) := by decide +kernel
theorem dL_areRoofs_225 : decode cL_areRoofs 225 = .ok (.istore 5, 2) := by decide +kernel
theorem dL_areRoofs_227 : decode cL_areRoofs 227 = .ok (.aload_n 0, 1) := by decide +kernel
theorem dL_areRoofs_228 : decode cL_areRoofs 228 = .ok (.iload 7, 2) := by decide +kernel
theorem dL_areRoofs_230 : decode cL_areRoofs 230 = .ok (.invokevirtual 136, 3) := by decide +kernel
theorem dL_areRoofs_233 : decode cL_areRoofs 233 = .ok (.istore 12, 2) := by decide +kernel
theorem dL_areRoofs_235 : decode cL_areRoofs 235 = .ok (.aload_n 0, 1) := by decide +kernel
theorem dL_areRoofs_236 : decode cL_areRoofs 236 = .ok (.iload 7, 2) := by decide +kernel
theorem dL_areRoofs_238 : decode cL_areRoofs 238 = .ok (.iconst 2, 1) := by decide +kernel
theorem dL_areRoofs_239 : decode cL_areRoofs 239 = .ok (.invokevirtual 98, 3) := by decide +kernel
theorem dL_areRoofs_242 : decode cL_areRoofs 242 = .ok (.iload 8, 2) := by decide +kernel
theorem dL_areRoofs_244 : decode cL_areRoofs 244 = .ok (.if_icmp .ne 135, 3) := by decide +kernel
theorem dL_areRoofs_247 : decode cL_areRoofs 247 = .ok (.aload_n 0, 1) := by decide +kernel
theorem dL_areRoofs_248 : decode cL_areRoofs 248 = .ok (.iload 7, 2) := by decide +kernel
theorem dL_areRoofs_250 : decode cL_areRoofs 250 = .ok (.iconst 3, 1) := by decide +kernel
theorem dL_areRoofs_251 : decode cL_areRoofs 251 = .ok (.invokevirtual 98, 3) := by decide +kernel
theorem dL_areRoofs_254 : decode cL_areRoofs 254 = .ok (.iload 9, 2) := by decide +kernel
theorem dL_areRoofs_256 : decode cL_areRoofs 256 = .ok (.if_icmp .ne 123, 3) := by decide +kernel
theorem dL_areRoofs_259 : decode cL_areRoofs 259 = .ok (.aload_n 0, 1) := by decide +kernel
theorem dL_areRoofs_260 : decode cL_areRoofs 260 = .ok (.iload 7, 2) := by decide +kernel
theorem dL_areRoofs_262 : decode cL_areRoofs 262 = .ok (.invokevirtual 101, 3) := by decide +kernel
theorem dL_areRoofs_265 : decode cL_areRoofs 265 = .ok (.aload_n 0, 1) := by decide +kernel
theorem dL_areRoofs_266 : decode cL_areRoofs 266 = .ok (.iload 7, 2) := by decide +kernel
theorem dL_areRoofs_268 : decode cL_areRoofs 268 = .ok (.invokevirtual 139, 3) := by decide +kernel
theorem dL_areRoofs_271 : decode cL_areRoofs 271 = .ok (.if_icmp .ne 108, 3) := by decide +kernel
theorem dL_areRoofs_274 : decode cL_areRoofs 274 = .ok (.aload_n 0, 1) := by decide +kernel
theorem dL_areRoofs_275 : decode cL_areRoofs 275 = .ok (.iload 7, 2) := by decide +kernel
theorem dL_areRoofs_277 : decode cL_areRoofs 277 = .ok (.invokevirtual 101, 3) := by decide +kernel
theorem dL_areRoofs_280 : decode cL_areRoofs 280 = .ok (.ifCond .lt 99, 3) := by decide +kernel
theorem dL_areRoofs_283 : decode cL_areRoofs 283 = .ok (.aload_n 0, 1) := by decide +kernel
theorem dL_areRoofs_284 : decode cL_areRoofs 284 = .ok (.iload 7, 2) := by decide +kernel
theorem dL_areRoofs_286 : decode cL_areRoofs 286 = .ok (.iconst 0, 1) := by decide +kernel
theorem dL_areRoofs_287 : decode cL_areRoofs 287 = .ok (.invokevirtual 98, 3) := by decide +kernel
theorem dL_areRoofs_290 : decode cL_areRoofs 290 = .ok (.ifCond .lt 89, 3) := by decide +kernel
theorem dL_areRoofs_293 : decode cL_areRoofs 293 = .ok (.aload_n 0, 1) := by decide +kernel
theorem dL_areRoofs_294 : decode cL_areRoofs 294 = .ok (.iload 7, 2) := by decide +kernel
theorem dL_areRoofs_296 : decode cL_areRoofs 296 = .ok (.bipush 8, 2) := by decide +kernel
theorem dL_areRoofs_298 : decode cL_areRoofs 298 = .ok (.invokevirtual 98, 3) := by decide +kernel
theorem dL_areRoofs_301 : decode cL_areRoofs 301 = .ok (.aload_n 0, 1) := by decide +kernel
theorem dL_areRoofs_302 : decode cL_areRoofs 302 = .ok (.iload 7, 2) := by decide +kernel
theorem dL_areRoofs_304 : decode cL_areRoofs 304 = .ok (.bipush 7, 2) := by decide +kernel
theorem dL_areRoofs_306 : decode cL_areRoofs 306 = .ok (.invokevirtual 98, 3) := by decide +kernel
theorem dL_areRoofs_309 : decode cL_areRoofs 309 = .ok (.iconst (-1), 1) := by decide +kernel
theorem dL_areRoofs_310 : decode cL_areRoofs 310 = .ok (.ixor, 1) := by decide +kernel
theorem dL_areRoofs_311 : decode cL_areRoofs 311 = .ok (.iand, 1) := by decide +kernel
theorem dL_areRoofs_312 : decode cL_areRoofs 312 = .ok (.ifCond .ne 67, 3) := by decide +kernel
theorem dL_areRoofs_315 : decode cL_areRoofs 315 = .ok (.iload 12, 2) := by decide +kernel
theorem dL_areRoofs_317 : decode cL_areRoofs 317 = .ok (.aload_n 0, 1) := by decide +kernel
theorem dL_areRoofs_318 : decode cL_areRoofs 318 = .ok (.iload 7, 2) := by decide +kernel
theorem dL_areRoofs_320 : decode cL_areRoofs 320 = .ok (.invokevirtual 142, 3) := by decide +kernel
theorem dL_areRoofs_323 : decode cL_areRoofs 323 = .ok (.if_icmp .ne 56, 3) := by decide +kernel
theorem dL_areRoofs_326 : decode cL_areRoofs 326 = .ok (.iload 12, 2) := by decide +kernel
theorem dL_areRoofs_328 : decode cL_areRoofs 328 = .ok (.iload 9, 2) := by decide +kernel
theorem dL_areRoofs_330 : decode cL_areRoofs 330 = .ok (.if_icmp .gt 49, 3) := by decide +kernel
theorem dL_areRoofs_333 : decode cL_areRoofs 333 = .ok (.iload 12, 2) := by decide +kernel
theorem dL_areRoofs_335 : decode cL_areRoofs 335 = .ok (.iload 9, 2) := by decide +kernel
theorem dL_areRoofs_337 : decode cL_areRoofs 337 = .ok (.if_icmp .ne 7, 3) := by decide +kernel
theorem dL_areRoofs_340 : decode cL_areRoofs 340 = .ok (.iconst 1, 1) := by decide +kernel
theorem dL_areRoofs_341 : decode cL_areRoofs 341 = .ok (.goto 4, 3) := by decide +kernel
theorem dL_areRoofs_344 : decode cL_areRoofs 344 = .ok (.iconst 0, 1) := by decide +kernel
theorem dL_areRoofs_345 : decode cL_areRoofs 345 = .ok (.iload 10, 2) := by decide +kernel
theorem dL_areRoofs_347 : decode cL_areRoofs 347 = .ok (.aload_n 0, 1) := by decide +kernel
theorem dL_areRoofs_348 : decode cL_areRoofs 348 = .ok (.iload 7, 2) := by decide +kernel
theorem dL_areRoofs_350 : decode cL_areRoofs 350 = .ok (.iconst 0, 1) := by decide +kernel
theorem dL_areRoofs_351 : decode cL_areRoofs 351 = .ok (.invokevirtual 98, 3) := by decide +kernel
theorem dL_areRoofs_354 : decode cL_areRoofs 354 = .ok (.if_icmp .gt 7, 3) := by decide +kernel
theorem dL_areRoofs_357 : decode cL_areRoofs 357 = .ok (.iconst 1, 1) := by decide +kernel
theorem dL_areRoofs_358 : decode cL_areRoofs 358 = .ok (.goto 4, 3) := by decide +kernel
theorem dL_areRoofs_361 : decode cL_areRoofs 361 = .ok (.iconst 0, 1) := by decide +kernel
theorem dL_areRoofs_362 : decode cL_areRoofs 362 = .ok (.if_icmp .ne 17, 3) := by decide +kernel
theorem dL_areRoofs_365 : decode cL_areRoofs 365 = .ok (.aload_n 0, 1) := by decide +kernel
theorem dL_areRoofs_366 : decode cL_areRoofs 366 = .ok (.iload 7, 2) := by decide +kernel
theorem dL_areRoofs_368 : decode cL_areRoofs 368 = .ok (.invokevirtual 145, 3) := by decide +kernel
theorem dL_areRoofs_371 : decode cL_areRoofs 371 = .ok (.iconst 3, 1) := by decide +kernel
theorem dL_areRoofs_372 : decode cL_areRoofs 372 = .ok (.if_icmp .lt 7, 3) := by decide +kernel
theorem dL_areRoofs_375 : decode cL_areRoofs 375 = .ok (.iconst 1, 1) := by decide +kernel
theorem dL_areRoofs_376 : decode cL_areRoofs 376 = .ok (.goto 4, 3) := by decide +kernel
theorem dL_areRoofs_379 : decode cL_areRoofs 379 = .ok (.iconst 0, 1) := by decide +kernel
theorem dL_areRoofs_380 : decode cL_areRoofs 380 = .ok (.istore 6, 2) := by decide +kernel
theorem dL_areRoofs_382 : decode cL_areRoofs 382 = .ok (.iinc 7 1, 3) := by decide +kernel
theorem dL_areRoofs_385 : decode cL_areRoofs 385 = .ok (.goto (-367), 3) := by decide +kernel
theorem dL_areRoofs_388 : decode cL_areRoofs 388 = .ok (.iconst 0, 1) := by decide +kernel
theorem dL_areRoofs_389 : decode cL_areRoofs 389 = .ok (.istore 7, 2) := by decide +kernel
theorem dL_areRoofs_391 : decode cL_areRoofs 391 = .ok (.iload 6, 2) := by decide +kernel
theorem dL_areRoofs_393 : decode cL_areRoofs 393 = .ok (.ifCond .eq 98, 3) := by decide +kernel
theorem dL_areRoofs_396 : decode cL_areRoofs 396 = .ok (.iload 7, 2) := by decide +kernel
theorem dL_areRoofs_398 : decode cL_areRoofs 398 = .ok (.aload_n 0, 1) := by decide +kernel
theorem dL_areRoofs_399 : decode cL_areRoofs 399 = .ok (.iconst 2, 1) := by decide +kernel
theorem dL_areRoofs_400 : decode cL_areRoofs 400 = .ok (.invokevirtual 89, 3) := by decide +kernel
theorem dL_areRoofs_403 : decode cL_areRoofs 403 = .ok (.if_icmp .ge 88, 3) := by decide +kernel
theorem dL_areRoofs_406 : decode cL_areRoofs 406 = .ok (.aload_n 0, 1) := by decide +kernel
theorem dL_areRoofs_407 : decode cL_areRoofs 407 = .ok (.iload 7, 2) := by decide +kernel
theorem dL_areRoofs_409 : decode cL_areRoofs 409 = .ok (.iconst 4, 1) := by decide +kernel
theorem dL_areRoofs_410 : decode cL_areRoofs 410 = .ok (.invokevirtual 104, 3) := by decide +kernel
theorem dL_areRoofs_413 : decode cL_areRoofs 413 = .ok (.istore 8, 2) := by decide +kernel
theorem dL_areRoofs_415 : decode cL_areRoofs 415 = .ok (.iload 8, 2) := by decide +kernel
theorem dL_areRoofs_417 : decode cL_areRoofs 417 = .ok (.bipush (-4), 2) := by decide +kernel
theorem dL_areRoofs_419 : decode cL_areRoofs 419 = .ok (.if_icmp .ne 23, 3) := by decide +kernel
theorem dL_areRoofs_422 : decode cL_areRoofs 422 = .ok (.aload_n 0, 1) := by decide +kernel
theorem dL_areRoofs_423 : decode cL_areRoofs 423 = .ok (.iload 7, 2) := by decide +kernel
theorem dL_areRoofs_425 : decode cL_areRoofs 425 = .ok (.iconst 5, 1) := by decide +kernel
theorem dL_areRoofs_426 : decode cL_areRoofs 426 = .ok (.invokevirtual 104, 3) := by decide +kernel
theorem dL_areRoofs_429 : decode cL_areRoofs 429 = .ok (.bipush (-4), 2) := by decide +kernel
theorem dL_areRoofs_431 : decode cL_areRoofs 431 = .ok (.if_icmp .ne 7, 3) := by decide +kernel
theorem dL_areRoofs_434 : decode cL_areRoofs 434 = .ok (.iconst 1, 1) := by decide +kernel
theorem dL_areRoofs_435 : decode cL_areRoofs 435 = .ok (.goto 48, 3) := by decide +kernel
theorem dL_areRoofs_438 : decode cL_areRoofs 438 = .ok (.iconst 0, 1) := by decide +kernel
theorem dL_areRoofs_439 : decode cL_areRoofs 439 = .ok (.goto 44, 3) := by decide +kernel
theorem dL_areRoofs_442 : decode cL_areRoofs 442 = .ok (.iload 8, 2) := by decide +kernel
theorem dL_areRoofs_444 : decode cL_areRoofs 444 = .ok (.ifCond .lt 38, 3) := by decide +kernel
theorem dL_areRoofs_447 : decode cL_areRoofs 447 = .ok (.iload 8, 2) := by decide +kernel
theorem dL_areRoofs_449 : decode cL_areRoofs 449 = .ok (.iconst 3, 1) := by decide +kernel
theorem dL_areRoofs_450 : decode cL_areRoofs 450 = .ok (.if_icmp .ge 32, 3) := by decide +kernel
theorem dL_areRoofs_453 : decode cL_areRoofs 453 = .ok (.aload_n 0, 1) := by decide +kernel
theorem dL_areRoofs_454 : decode cL_areRoofs 454 = .ok (.iload 7, 2) := by decide +kernel
theorem dL_areRoofs_456 : decode cL_areRoofs 456 = .ok (.iconst 5, 1) := by decide +kernel
theorem dL_areRoofs_457 : decode cL_areRoofs 457 = .ok (.invokevirtual 104, 3) := by decide +kernel
theorem dL_areRoofs_460 : decode cL_areRoofs 460 = .ok (.iload 8, 2) := by decide +kernel
theorem dL_areRoofs_462 : decode cL_areRoofs 462 = .ok (.aload_n 0, 1) := by decide +kernel
theorem dL_areRoofs_463 : decode cL_areRoofs 463 = .ok (.aload_n 0, 1) := by decide +kernel
theorem dL_areRoofs_464 : decode cL_areRoofs 464 = .ok (.iload 7, 2) := by decide +kernel
theorem dL_areRoofs_466 : decode cL_areRoofs 466 = .ok (.iconst 1, 1) := by decide +kernel
theorem dL_areRoofs_467 : decode cL_areRoofs 467 = .ok (.invokevirtual 104, 3) := by decide +kernel
theorem dL_areRoofs_470 : decode cL_areRoofs 470 = .ok (.iconst 0, 1) := by decide +kernel
theorem dL_areRoofs_471 : decode cL_areRoofs 471 = .ok (.invokevirtual 95, 3) := by decide +kernel
theorem dL_areRoofs_474 : decode cL_areRoofs 474 = .ok (.iadd, 1) := by decide +kernel
theorem dL_areRoofs_475 : decode cL_areRoofs 475 = .ok (.if_icmp .ne 7, 3) := by decide +kernel
theorem dL_areRoofs_478 : decode cL_areRoofs 478 = .ok (.iconst 1, 1) := by decide +kernel
theorem dL_areRoofs_479 : decode cL_areRoofs 479 = .ok (.goto 4, 3) := by decide +kernel
theorem dL_areRoofs_482 : decode cL_areRoofs 482 = .ok (.iconst 0, 1) := by decide +kernel
theorem dL_areRoofs_483 : decode cL_areRoofs 483 = .ok (.istore 6, 2) := by decide +kernel
theorem dL_areRoofs_485 : decode cL_areRoofs 485 = .ok (.iinc 7 1, 3) := by decide +kernel
theorem dL_areRoofs_488 : decode cL_areRoofs 488 = .ok (.goto (-97), 3) := by decide +kernel
theorem dL_areRoofs_491 : decode cL_areRoofs 491 = .ok (.iload 6, 2) := by decide +kernel
theorem dL_areRoofs_493 : decode cL_areRoofs 493 = .ok (.ifCond .eq 77, 3) := by decide +kernel
theorem dL_areRoofs_496 : decode cL_areRoofs 496 = .ok (.iload_n 1, 1) := by decide +kernel
theorem dL_areRoofs_497 : decode cL_areRoofs 497 = .ok (.aload_n 0, 1) := by decide +kernel
theorem dL_areRoofs_498 : decode cL_areRoofs 498 = .ok (.iconst 2, 1) := by decide +kernel
theorem dL_areRoofs_499 : decode cL_areRoofs 499 = .ok (.invokevirtual 89, 3) := by decide +kernel
theorem dL_areRoofs_502 : decode cL_areRoofs 502 = .ok (.if_icmp .ne 68, 3) := by decide +kernel
theorem dL_areRoofs_505 : decode cL_areRoofs 505 = .ok (.iload_n 2, 1) := by decide +kernel
theorem dL_areRoofs_506 : decode cL_areRoofs 506 = .ok (.aload_n 0, 1) := by decide +kernel
theorem dL_areRoofs_507 : decode cL_areRoofs 507 = .ok (.iconst 3, 1) := by decide +kernel
theorem dL_areRoofs_508 : decode cL_areRoofs 508 = .ok (.invokevirtual 89, 3) := by decide +kernel
theorem dL_areRoofs_511 : decode cL_areRoofs 511 = .ok (.if_icmp .ne 59, 3) := by decide +kernel
theorem dL_areRoofs_514 : decode cL_areRoofs 514 = .ok (.iload_n 3, 1) := by decide +kernel
theorem dL_areRoofs_515 : decode cL_areRoofs 515 = .ok (.aload_n 0, 1) := by decide +kernel
theorem dL_areRoofs_516 : decode cL_areRoofs 516 = .ok (.bipush 10, 2) := by decide +kernel
theorem dL_areRoofs_518 : decode cL_areRoofs 518 = .ok (.invokevirtual 89, 3) := by decide +kernel
theorem dL_areRoofs_521 : decode cL_areRoofs 521 = .ok (.if_icmp .ne 49, 3) := by decide +kernel
theorem dL_areRoofs_524 : decode cL_areRoofs 524 = .ok (.iload 4, 2) := by decide +kernel
theorem dL_areRoofs_526 : decode cL_areRoofs 526 = .ok (.aload_n 0, 1) := by decide +kernel
theorem dL_areRoofs_527 : decode cL_areRoofs 527 = .ok (.bipush 11, 2) := by decide +kernel
theorem dL_areRoofs_529 : decode cL_areRoofs 529 = .ok (.invokevirtual 89, 3) := by decide +kernel
theorem dL_areRoofs_532 : decode cL_areRoofs 532 = .ok (.if_icmp .ne 38, 3) := by decide +kernel
theorem dL_areRoofs_535 : decode cL_areRoofs 535 = .ok (.iload 5, 2) := by decide +kernel
theorem dL_areRoofs_537 : decode cL_areRoofs 537 = .ok (.aload_n 0, 1) := by decide +kernel
theorem dL_areRoofs_538 : decode cL_areRoofs 538 = .ok (.iconst 4, 1) := by decide +kernel
theorem dL_areRoofs_539 : decode cL_areRoofs 539 = .ok (.invokevirtual 89, 3) := by decide +kernel
theorem dL_areRoofs_542 : decode cL_areRoofs 542 = .ok (.if_icmp .ne 28, 3) := by decide +kernel
theorem dL_areRoofs_545 : decode cL_areRoofs 545 = .ok (.aload_n 0, 1) := by decide +kernel
theorem dL_areRoofs_546 : decode cL_areRoofs 546 = .ok (.invokevirtual 147, 3) := by decide +kernel
theorem dL_areRoofs_549 : decode cL_areRoofs 549 = .ok (.iload_n 1, 1) := by decide +kernel
theorem dL_areRoofs_550 : decode cL_areRoofs 550 = .ok (.ifCond .ne 7, 3) := by decide +kernel
theorem dL_areRoofs_553 : decode cL_areRoofs 553 = .ok (.fconst 0, 1) := by decide +kernel
theorem dL_areRoofs_554 : decode cL_areRoofs 554 = .ok (.goto 8, 3) := by decide +kernel
theorem dL_areRoofs_557 : decode cL_areRoofs 557 = .ok (.iload_n 2, 1) := by decide +kernel
theorem dL_areRoofs_558 : decode cL_areRoofs 558 = .ok (.i2f, 1) := by decide +kernel
theorem dL_areRoofs_559 : decode cL_areRoofs 559 = .ok (.iload_n 1, 1) := by decide +kernel
theorem dL_areRoofs_560 : decode cL_areRoofs 560 = .ok (.i2f, 1) := by decide +kernel
theorem dL_areRoofs_561 : decode cL_areRoofs 561 = .ok (.fdiv, 1) := by decide +kernel
theorem dL_areRoofs_562 : decode cL_areRoofs 562 = .ok (.fcmp .l, 1) := by decide +kernel
theorem dL_areRoofs_563 : decode cL_areRoofs 563 = .ok (.ifCond .ne 7, 3) := by decide +kernel
theorem dL_areRoofs_566 : decode cL_areRoofs 566 = .ok (.iconst 1, 1) := by decide +kernel
theorem dL_areRoofs_567 : decode cL_areRoofs 567 = .ok (.goto 4, 3) := by decide +kernel
theorem dL_areRoofs_570 : decode cL_areRoofs 570 = .ok (.iconst 0, 1) := by decide +kernel
theorem dL_areRoofs_571 : decode cL_areRoofs 571 = .ok (.ireturn, 1) := by decide +kernel
theorem dL_isSighted_0 : decode cL_isSighted 0 = .ok (.aload_n 0, 1) := by decide +kernel
theorem dL_isSighted_1 : decode cL_isSighted 1 = .ok (.invokestatic 151, 3) := by decide +kernel
theorem dL_isSighted_4 : decode cL_isSighted 4 = .ok (.lstore_n 3, 1) := by decide +kernel
theorem dL_isSighted_5 : decode cL_isSighted 5 = .ok (.aload_n 0, 1) := by decide +kernel
theorem dL_isSighted_6 : decode cL_isSighted 6 = .ok (.iload_n 1, 1) := by decide +kernel
theorem dL_isSighted_7 : decode cL_isSighted 7 = .ok (.iload_n 2, 1) := by decide +kernel
theorem dL_isSighted_8 : decode cL_isSighted 8 = .ok (.invokevirtual 107, 3) := by decide +kernel
theorem dL_isSighted_11 : decode cL_isSighted 11 = .ok (.istore 5, 2) := by decide +kernel
theorem dL_isSighted_13 : decode cL_isSighted 13 = .ok (.aload_n 0, 1) := by decide +kernel
theorem dL_isSighted_14 : decode cL_isSighted 14 = .ok (.iload_n 1, 1) := by decide +kernel
theorem dL_isSighted_15 : decode cL_isSighted 15 = .ok (.iconst 0, 1) := by decide +kernel
theorem dL_isSighted_16 : decode cL_isSighted 16 = .ok (.invokevirtual 98, 3) := by decide +kernel
theorem dL_isSighted_19 : decode cL_isSighted 19 = .ok (.istore 6, 2) := by decide +kernel
theorem dL_isSighted_21 : decode cL_isSighted 21 = .ok (.aload_n 0, 1) := by decide +kernel
theorem dL_isSighted_22 : decode cL_isSighted 22 = .ok (.iload_n 1, 1) := by decide +kernel
theorem dL_isSighted_23 : decode cL_isSighted 23 = .ok (.invokevirtual 101, 3) := by decide +kernel
theorem dL_isSighted_26 : decode cL_isSighted 26 = .ok (.istore 7, 2) := by decide +kernel
theorem dL_isSighted_28 : decode cL_isSighted 28 = .ok (.aload_n 0, 1) := by decide +kernel
theorem dL_isSighted_29 : decode cL_isSighted 29 = .ok (.iload_n 2, 1) := by decide +kernel
theorem dL_isSighted_30 : decode cL_isSighted 30 = .ok (.iconst 3, 1) := by decide +kernel
theorem dL_isSighted_31 : decode cL_isSighted 31 = .ok (.invokevirtual 95, 3) := by decide +kernel
theorem dL_isSighted_34 : decode cL_isSighted 34 = .ok (.istore 8, 2) := by decide +kernel
theorem dL_isSighted_36 : decode cL_isSighted 36 = .ok (.iload 8, 2) := by decide +kernel
theorem dL_isSighted_38 : decode cL_isSighted 38 = .ok (.bipush (-4), 2) := by decide +kernel
theorem dL_isSighted_40 : decode cL_isSighted 40 = .ok (.if_icmp .ne 7, 3) := by decide +kernel
theorem dL_isSighted_43 : decode cL_isSighted 43 = .ok (.iconst 0, 1) := by decide +kernel
theorem dL_isSighted_44 : decode cL_isSighted 44 = .ok (.goto 10, 3) := by decide +kernel
theorem dL_isSighted_47 : decode cL_isSighted 47 = .ok (.aload_n 0, 1) := by decide +kernel
theorem dL_isSighted_48 : decode cL_isSighted 48 = .ok (.iload 8, 2) := by decide +kernel
theorem dL_isSighted_50 : decode cL_isSighted 50 = .ok (.iconst 0, 1) := by decide +kernel
theorem dL_isSighted_51 : decode cL_isSighted 51 = .ok (.invokevirtual 98, 3) := by decide +kernel
theorem dL_isSighted_54 : decode cL_isSighted 54 = .ok (.istore 9, 2) := by decide +kernel
theorem dL_isSighted_56 : decode cL_isSighted 56 = .ok (.aload_n 0, 1) := by decide +kernel
theorem dL_isSighted_57 : decode cL_isSighted 57 = .ok (.iload_n 1, 1) := by decide +kernel
theorem dL_isSighted_58 : decode cL_isSighted 58 = .ok (.bipush 7, 2) := by decide +kernel
theorem dL_isSighted_60 : decode cL_isSighted 60 = .ok (.invokevirtual 98, 3) := by decide +kernel
theorem dL_isSighted_63 : decode cL_isSighted 63 = .ok (.istore 10, 2) := by decide +kernel
theorem dL_isSighted_65 : decode cL_isSighted 65 = .ok (.aload_n 0, 1) := by decide +kernel
theorem dL_isSighted_66 : decode cL_isSighted 66 = .ok (.iload_n 1, 1) := by decide +kernel
theorem dL_isSighted_67 : decode cL_isSighted 67 = .ok (.iload_n 2, 1) := by decide +kernel
theorem dL_isSighted_68 : decode cL_isSighted 68 = .ok (.invokevirtual 35, 3) := by decide +kernel
theorem dL_isSighted_71 : decode cL_isSighted 71 = .ok (.istore 11, 2) := by decide +kernel
theorem dL_isSighted_73 : decode cL_isSighted 73 = .ok (.iload 11, 2) := by decide +kernel
theorem dL_isSighted_75 : decode cL_isSighted 75 = .ok (.bipush (-3), 2) := by decide +kernel
theorem dL_isSighted_77 : decode cL_isSighted 77 = .ok (.if_icmp .ne 52, 3) := by decide +kernel
theorem dL_isSighted_80 : decode cL_isSighted 80 = .ok (.iload 10, 2) := by decide +kernel
theorem dL_isSighted_82 : decode cL_isSighted 82 = .ok (.iload_n 2, 1) := by decide +kernel
theorem dL_isSighted_83 : decode cL_isSighted 83 = .ok (.ishr, 1) := by decide +kernel
theorem dL_isSighted_84 : decode cL_isSighted 84 = .ok (.iconst 1, 1) := by decide +kernel
theorem dL_isSighted_85 : decode cL_isSighted 85 = .ok (.iand, 1) := by decide +kernel
theorem dL_isSighted_86 : decode cL_isSighted 86 = .ok (.iconst 1, 1) := by decide +kernel
theorem dL_isSighted_87 : decode cL_isSighted 87 = .ok (.if_icmp .ne 40, 3) := by decide +kernel
theorem dL_isSighted_90 : decode cL_isSighted 90 = .ok (.aload_n 0, 1) := by decide +kernel
theorem dL_isSighted_91 : decode cL_isSighted 91 = .ok (.iconst 0, 1) := by decide +kernel
theorem dL_isSighted_92 : decode cL_isSighted 92 = .ok (.iconst 0, 1) := by decide +kernel
theorem dL_isSighted_93 : decode cL_isSighted 93 = .ok (.invokevirtual 155, 3) := by decide +kernel
theorem dL_isSighted_96 : decode cL_isSighted 96 = .ok (.iconst 3, 1) := by decide +kernel
theorem dL_isSighted_97 : decode cL_isSighted 97 = .ok (.if_icmp .ne 30, 3) := by decide +kernel
theorem dL_isSighted_100 : decode cL_isSighted 100 = .ok (.aload_n 0, 1) := by decide +kernel
theorem dL_isSighted_101 : decode cL_isSighted 101 = .ok (.iconst 0, 1) := by decide +kernel
theorem dL_isSighted_102 : decode cL_isSighted 102 = .ok (.iconst 1, 1) := by decide +kernel
theorem dL_isSighted_103 : decode cL_isSighted 103 = .ok (.invokevirtual 155, 3) := by decide +kernel
theorem dL_isSighted_106 : decode cL_isSighted 106 = .ok (.iload 10, 2) := by decide +kernel
theorem dL_isSighted_108 : decode cL_isSighted 108 = .ok (.invokestatic 159, 3) := by decide +kernel
theorem dL_isSighted_111 : decode cL_isSighted 111 = .ok (.if_icmp .ne 16, 3) := by decide +kernel
theorem dL_isSighted_114 : decode cL_isSighted 114 = .ok (.aload_n 0, 1) := by decide +kernel
theorem dL_isSighted_115 : decode cL_isSighted 115 = .ok (.invokestatic 151, 3) := by decide +kernel
theorem dL_isSighted_118 : decode cL_isSighted 118 = .ok (.lload_n 3, 1) := by decide +kernel
theorem dL_isSighted_119 : decode cL_isSighted 119 = .ok (.lcmp, 1) := by decide +kernel
theorem dL_isSighted_120 : decode cL_isSighted 120 = .ok (.ifCond .ne 7, 3) := by decide +kernel
theorem dL_isSighted_123 : decode cL_isSighted 123 = .ok (.iconst 1, 1) := by decide +kernel
theorem dL_isSighted_124 : decode cL_isSighted 124 = .ok (.goto 4, 3) := by decide +kernel
theorem dL_isSighted_127 : decode cL_isSighted 127 = .ok (.iconst 0, 1) := by decide +kernel
theorem dL_isSighted_128 : decode cL_isSighted 128 = .ok (.ireturn, 1) := by decide +kernel
theorem dL_isSighted_129 : decode cL_isSighted 129 = .ok (.iload 6, 2) := by decide +kernel
theorem dL_isSighted_131 : decode cL_isSighted 131 = .ok (.iload 5, 2) := by decide +kernel
theorem dL_isSighted_133 : decode cL_isSighted 133 = .ok (.invokestatic 164, 3) := by decide +kernel
theorem dL_isSighted_136 : decode cL_isSighted 136 = .ok (.istore 12, 2) := by decide +kernel
theorem dL_isSighted_138 : decode cL_isSighted 138 = .ok (.iload 10, 2) := by decide +kernel
theorem dL_isSighted_140 : decode cL_isSighted 140 = .ok (.iload_n 2, 1) := by decide +kernel
theorem dL_isSighted_141 : decode cL_isSighted 141 = .ok (.ishr, 1) := by decide +kernel
theorem dL_isSighted_142 : decode cL_isSighted 142 = .ok (.iconst 1, 1) := by decide +kernel
theorem dL_isSighted_143 : decode cL_isSighted 143 = .ok (.iand, 1) := by decide +kernel
theorem dL_isSighted_144 : decode cL_isSighted 144 = .ok (.ifCond .ne 60, 3) := by decide +kernel
theorem dL_isSighted_147 : decode cL_isSighted 147 = .ok (.iload 11, 2) := by decide +kernel
theorem dL_isSighted_149 : decode cL_isSighted 149 = .ok (.iload 5, 2) := by decide +kernel
theorem dL_isSighted_151 : decode cL_isSighted 151 = .ok (.if_icmp .ne 53, 3) := by decide +kernel
theorem dL_isSighted_154 : decode cL_isSighted 154 = .ok (.aload_n 0, 1) := by decide +kernel
theorem dL_isSighted_155 : decode cL_isSighted 155 = .ok (.iload_n 1, 1) := by decide +kernel
theorem dL_isSighted_156 : decode cL_isSighted 156 = .ok (.iconst 0, 1) := by decide +kernel
theorem dL_isSighted_157 : decode cL_isSighted 157 = .ok (.invokevirtual 98, 3) := by decide +kernel
theorem dL_isSighted_160 : decode cL_isSighted 160 = .ok (.iload 6, 2) := by decide +kernel
theorem dL_isSighted_162 : decode cL_isSighted 162 = .ok (.iload 12, 2) := by decide +kernel
theorem dL_isSighted_164 : decode cL_isSighted 164 = .ok (.isub, 1) := by decide +kernel
theorem dL_isSighted_165 : decode cL_isSighted 165 = .ok (.if_icmp .ne 39, 3) := by decide +kernel
theorem dL_isSighted_168 : decode cL_isSighted 168 = .ok (.aload_n 0, 1) := by decide +kernel
theorem dL_isSighted_169 : decode cL_isSighted 169 = .ok (.iload_n 1, 1) := by decide +kernel
theorem dL_isSighted_170 : decode cL_isSighted 170 = .ok (.invokevirtual 101, 3) := by decide +kernel
theorem dL_isSighted_173 : decode cL_isSighted 173 = .ok (.iload 7, 2) := by decide +kernel
theorem dL_isSighted_175 : decode cL_isSighted 175 = .ok (.iload 5, 2) := by decide +kernel
theorem dL_isSighted_177 : decode cL_isSighted 177 = .ok (.iadd, 1) := by decide +kernel
theorem dL_isSighted_178 : decode cL_isSighted 178 = .ok (.iload 12, 2) := by decide +kernel
theorem dL_isSighted_180 : decode cL_isSighted 180 = .ok (.isub, 1) := by decide +kernel
theorem dL_isSighted_181 : decode cL_isSighted 181 = .ok (.if_icmp .ne 23, 3) := by decide +kernel
theorem dL_isSighted_184 : decode cL_isSighted 184 = .ok (.aload_n 0, 1) := by decide +kernel
theorem dL_isSighted_185 : decode cL_isSighted 185 = .ok (.iload_n 1, 1) := by decide +kernel
theorem dL_isSighted_186 : decode cL_isSighted 186 = .ok (.bipush 7, 2) := by decide +kernel
theorem dL_isSighted_188 : decode cL_isSighted 188 = .ok (.invokevirtual 98, 3) := by decide +kernel
theorem dL_isSighted_191 : decode cL_isSighted 191 = .ok (.iload 10, 2) := by decide +kernel
theorem dL_isSighted_193 : decode cL_isSighted 193 = .ok (.iconst 1, 1) := by decide +kernel
theorem dL_isSighted_194 : decode cL_isSighted 194 = .ok (.iload_n 2, 1) := by decide +kernel
theorem dL_isSighted_195 : decode cL_isSighted 195 = .ok (.ishl, 1) := by decide +kernel
theorem dL_isSighted_196 : decode cL_isSighted 196 = .ok (.ior, 1) := by decide +kernel
theorem dL_isSighted_197 : decode cL_isSighted 197 = .ok (.if_icmp .ne 7, 3) := by decide +kernel
theorem dL_isSighted_200 : decode cL_isSighted 200 = .ok (.iconst 1, 1) := by decide +kernel
theorem dL_isSighted_201 : decode cL_isSighted 201 = .ok (.goto 4, 3) := by decide +kernel
theorem dL_isSighted_204 : decode cL_isSighted 204 = .ok (.iconst 0, 1) := by decide +kernel
theorem dL_isSighted_205 : decode cL_isSighted 205 = .ok (.istore 13, 2) := by decide +kernel
theorem dL_isSighted_207 : decode cL_isSighted 207 = .ok (.iload 13, 2) := by decide +kernel
theorem dL_isSighted_209 : decode cL_isSighted 209 = .ok (.ifCond .eq 57, 3) := by decide +kernel
theorem dL_isSighted_212 : decode cL_isSighted 212 = .ok (.iload 8, 2) := by decide +kernel
theorem dL_isSighted_214 : decode cL_isSighted 214 = .ok (.bipush (-4), 2) := by decide +kernel
theorem dL_isSighted_216 : decode cL_isSighted 216 = .ok (.if_icmp .eq 26, 3) := by decide +kernel
theorem dL_isSighted_219 : decode cL_isSighted 219 = .ok (.iload 8, 2) := by decide +kernel
theorem dL_isSighted_221 : decode cL_isSighted 221 = .ok (.iload_n 1, 1) := by decide +kernel
theorem dL_isSighted_222 : decode cL_isSighted 222 = .ok (.if_icmp .eq 20, 3) := by decide +kernel
theorem dL_isSighted_225 : decode cL_isSighted 225 = .ok (.aload_n 0, 1) := by decide +kernel
theorem dL_isSighted_226 : decode cL_isSighted 226 = .ok (.iload 8, 2) := by decide +kernel
theorem dL_isSighted_228 : decode cL_isSighted 228 = .ok (.iconst 0, 1) := by decide +kernel
theorem dL_isSighted_229 : decode cL_isSighted 229 = .ok (.invokevirtual 98, 3) := by decide +kernel
theorem dL_isSighted_232 : decode cL_isSighted 232 = .ok (.iload 9, 2) := by decide +kernel
theorem dL_isSighted_234 : decode cL_isSighted 234 = .ok (.iload 12, 2) := by decide +kernel
theorem dL_isSighted_236 : decode cL_isSighted 236 = .ok (.iconst 2, 1) := by decide +kernel
theorem dL_isSighted_237 : decode cL_isSighted 237 = .ok (.idiv, 1) := by decide +kernel
theorem dL_isSighted_238 : decode cL_isSighted 238 = .ok (.iadd, 1) := by decide +kernel
theorem dL_isSighted_239 : decode cL_isSighted 239 = .ok (.if_icmp .ne 27, 3) := by decide +kernel
theorem dL_isSighted_242 : decode cL_isSighted 242 = .ok (.aload_n 0, 1) := by decide +kernel
theorem dL_isSighted_243 : decode cL_isSighted 243 = .ok (.iload_n 1, 1) := by decide +kernel
theorem dL_isSighted_244 : decode cL_isSighted 244 = .ok (.bipush 8, 2) := by decide +kernel
theorem dL_isSighted_246 : decode cL_isSighted 246 = .ok (.invokevirtual 98, 3) := by decide +kernel
theorem dL_isSighted_249 : decode cL_isSighted 249 = .ok (.iload_n 2, 1) := by decide +kernel
theorem dL_isSighted_250 : decode cL_isSighted 250 = .ok (.ishr, 1) := by decide +kernel
theorem dL_isSighted_251 : decode cL_isSighted 251 = .ok (.iconst 1, 1) := by decide +kernel
theorem dL_isSighted_252 : decode cL_isSighted 252 = .ok (.iand, 1) := by decide +kernel
theorem dL_isSighted_253 : decode cL_isSighted 253 = .ok (.aload_n 0, 1) := by decide +kernel
theorem dL_isSighted_254 : decode cL_isSighted 254 = .ok (.iload_n 2, 1) := by decide +kernel
theorem dL_isSighted_255 : decode cL_isSighted 255 = .ok (.iconst 2, 1) := by decide +kernel
theorem dL_isSighted_256 : decode cL_isSighted 256 = .ok (.invokevirtual 95, 3) := by decide +kernel
theorem dL_isSighted_259 : decode cL_isSighted 259 = .ok (.if_icmp .ne 7, 3) := by decide +kernel
theorem dL_isSighted_262 : decode cL_isSighted 262 = .ok (.iconst 1, 1) := by decide +kernel
theorem dL_isSighted_263 : decode cL_isSighted 263 = .ok (.goto 4, 3) := by decide +kernel
theorem dL_isSighted_266 : decode cL_isSighted 266 = .ok (.iconst 0, 1) := by decide +kernel
theorem dL_isSighted_267 : decode cL_isSighted 267 = .ok (.istore 13, 2) := by decide +kernel
theorem dL_isSighted_269 : decode cL_isSighted 269 = .ok (.iload 13, 2) := by decide +kernel
theorem dL_isSighted_271 : decode cL_isSighted 271 = .ok (.ifCond .eq 23, 3) := by decide +kernel
theorem dL_isSighted_274 : decode cL_isSighted 274 = .ok (.aload_n 0, 1) := by decide +kernel
theorem dL_isSighted_275 : decode cL_isSighted 275 = .ok (.invokevirtual 82, 3) := by decide +kernel
theorem dL_isSighted_278 : decode cL_isSighted 278 = .ok (.ifCond .lt 16, 3) := by decide +kernel
theorem dL_isSighted_281 : decode cL_isSighted 281 = .ok (.aload_n 0, 1) := by decide +kernel
theorem dL_isSighted_282 : decode cL_isSighted 282 = .ok (.invokestatic 151, 3) := by decide +kernel
theorem dL_isSighted_285 : decode cL_isSighted 285 = .ok (.lload_n 3, 1) := by decide +kernel
theorem dL_isSighted_286 : decode cL_isSighted 286 = .ok (.lcmp, 1) := by decide +kernel
theorem dL_isSighted_287 : decode cL_isSighted 287 = .ok (.ifCond .ne 7, 3) := by decide +kernel
theorem dL_isSighted_290 : decode cL_isSighted 290 = .ok (.iconst 1, 1) := by decide +kernel
theorem dL_isSighted_291 : decode cL_isSighted 291 = .ok (.goto 4, 3) := by decide +kernel
theorem dL_isSighted_294 : decode cL_isSighted 294 = .ok (.iconst 0, 1) := by decide +kernel
theorem dL_isSighted_295 : decode cL_isSighted 295 = .ok (.ireturn, 1) := by decide +kernel
theorem dL_isDawn_0 : decode cL_isDawn 0 = .ok (.aload_n 0, 1) := by decide +kernel
theorem dL_isDawn_1 : decode cL_isDawn 1 = .ok (.invokestatic 151, 3) := by decide +kernel
theorem dL_isDawn_4 : decode cL_isDawn 4 = .ok (.lstore_n 1, 1) := by decide +kernel
theorem dL_isDawn_5 : decode cL_isDawn 5 = .ok (.aload_n 0, 1) := by decide +kernel
theorem dL_isDawn_6 : decode cL_isDawn 6 = .ok (.invokevirtual 167, 3) := by decide +kernel
theorem dL_isDawn_9 : decode cL_isDawn 9 = .ok (.istore_n 3, 1) := by decide +kernel
theorem dL_isDawn_10 : decode cL_isDawn 10 = .ok (.aload_n 0, 1) := by decide +kernel
theorem dL_isDawn_11 : decode cL_isDawn 11 = .ok (.iconst 3, 1) := by decide +kernel
theorem dL_isDawn_12 : decode cL_isDawn 12 = .ok (.invokevirtual 89, 3) := by decide +kernel
theorem dL_isDawn_15 : decode cL_isDawn 15 = .ok (.istore 4, 2) := by decide +kernel
theorem dL_isDawn_17 : decode cL_isDawn 17 = .ok (.aload_n 0, 1) := by decide +kernel
theorem dL_isDawn_18 : decode cL_isDawn 18 = .ok (.iconst 2, 1) := by decide +kernel
theorem dL_isDawn_19 : decode cL_isDawn 19 = .ok (.invokevirtual 89, 3) := by decide +kernel
theorem dL_isDawn_22 : decode cL_isDawn 22 = .ok (.istore 5, 2) := by decide +kernel
theorem dL_isDawn_24 : decode cL_isDawn 24 = .ok (.aload_n 0, 1) := by decide +kernel
theorem dL_isDawn_25 : decode cL_isDawn 25 = .ok (.bipush 11, 2) := by decide +kernel
theorem dL_isDawn_27 : decode cL_isDawn 27 = .ok (.invokevirtual 89, 3) := by decide +kernel
theorem dL_isDawn_30 : decode cL_isDawn 30 = .ok (.istore 6, 2) := by decide +kernel
theorem dL_isDawn_32 : decode cL_isDawn 32 = .ok (.iconst 0, 1) := by decide +kernel
theorem dL_isDawn_33 : decode cL_isDawn 33 = .ok (.istore 7, 2) := by decide +kernel
theorem dL_isDawn_35 : decode cL_isDawn 35 = .ok (.iconst 0, 1) := by decide +kernel
theorem dL_isDawn_36 : decode cL_isDawn 36 = .ok (.istore 8, 2) := by decide +kernel
theorem dL_isDawn_38 : decode cL_isDawn 38 = .ok (.iload 8, 2) := by decide +kernel
theorem dL_isDawn_40 : decode cL_isDawn 40 = .ok (.iload 5, 2) := by decide +kernel
theorem dL_isDawn_42 : decode cL_isDawn 42 = .ok (.if_icmp .ge 30, 3) := by decide +kernel
theorem dL_isDawn_45 : decode cL_isDawn 45 = .ok (.iload 7, 2) := by decide +kernel
theorem dL_isDawn_47 : decode cL_isDawn 47 = .ok (.aload_n 0, 1) := by decide +kernel
theorem dL_isDawn_48 : decode cL_isDawn 48 = .ok (.iload 8, 2) := by decide +kernel
theorem dL_isDawn_50 : decode cL_isDawn 50 = .ok (.iconst 4, 1) := by decide +kernel
theorem dL_isDawn_51 : decode cL_isDawn 51 = .ok (.invokevirtual 104, 3) := by decide +kernel
theorem dL_isDawn_54 : decode cL_isDawn 54 = .ok (.iconst 2, 1) := by decide +kernel
theorem dL_isDawn_55 : decode cL_isDawn 55 = .ok (.if_icmp .ne 7, 3) := by decide +kernel
theorem dL_isDawn_58 : decode cL_isDawn 58 = .ok (.iconst 1, 1) := by decide +kernel
theorem dL_isDawn_59 : decode cL_isDawn 59 = .ok (.goto 4, 3) := by decide +kernel
theorem dL_isDawn_62 : decode cL_isDawn 62 = .ok (.iconst 0, 1) := by decide +kernel
theorem dL_isDawn_63 : decode cL_isDawn 63 = .ok (.iadd, 1) := by decide +kernel
theorem dL_isDawn_64 : decode cL_isDawn 64 = .ok (.istore 7, 2) := by decide +kernel
theorem dL_isDawn_66 : decode cL_isDawn 66 = .ok (.iinc 8 1, 3) := by decide +kernel
theorem dL_isDawn_69 : decode cL_isDawn 69 = .ok (.goto (-31), 3) := by decide +kernel
theorem dL_isDawn_72 : decode cL_isDawn 72 = .ok (.aload_n 0, 1) := by decide +kernel
theorem dL_isDawn_73 : decode cL_isDawn 73 = .ok (.invokevirtual 60, 3) := by decide +kernel
theorem dL_isDawn_76 : decode cL_isDawn 76 = .ok (.iload_n 3, 1) := by decide +kernel
theorem dL_isDawn_77 : decode cL_isDawn 77 = .ok (.if_icmp .ne 49, 3) := by decide +kernel
theorem dL_isDawn_80 : decode cL_isDawn 80 = .ok (.aload_n 0, 1) := by decide +kernel
theorem dL_isDawn_81 : decode cL_isDawn 81 = .ok (.iconst 2, 1) := by decide +kernel
theorem dL_isDawn_82 : decode cL_isDawn 82 = .ok (.invokevirtual 89, 3) := by decide +kernel
theorem dL_isDawn_85 : decode cL_isDawn 85 = .ok (.iload 5, 2) := by decide +kernel
theorem dL_isDawn_87 : decode cL_isDawn 87 = .ok (.iload_n 3, 1) := by decide +kernel
theorem dL_isDawn_88 : decode cL_isDawn 88 = .ok (.isub, 1) := by decide +kernel
theorem dL_isDawn_89 : decode cL_isDawn 89 = .ok (.iload 7, 2) := by decide +kernel
theorem dL_isDawn_91 : decode cL_isDawn 91 = .ok (.isub, 1) := by decide +kernel
theorem dL_isDawn_92 : decode cL_isDawn 92 = .ok (.if_icmp .ne 34, 3) := by decide +kernel
theorem dL_isDawn_95 : decode cL_isDawn 95 = .ok (.aload_n 0, 1) := by decide +kernel
theorem dL_isDawn_96 : decode cL_isDawn 96 = .ok (.iconst 3, 1) := by decide +kernel
theorem dL_isDawn_97 : decode cL_isDawn 97 = .ok (.invokevirtual 89, 3) := by decide +kernel
theorem dL_isDawn_100 : decode cL_isDawn 100 = .ok (.iload 4, 2) := by decide +kernel
theorem dL_isDawn_102 : decode cL_isDawn 102 = .ok (.iload 7, 2) := by decide +kernel
theorem dL_isDawn_104 : decode cL_isDawn 104 = .ok (.isub, 1) := by decide +kernel
theorem dL_isDawn_105 : decode cL_isDawn 105 = .ok (.if_icmp .ne 21, 3) := by decide +kernel
theorem dL_isDawn_108 : decode cL_isDawn 108 = .ok (.aload_n 0, 1) := by decide +kernel
theorem dL_isDawn_109 : decode cL_isDawn 109 = .ok (.bipush 11, 2) := by decide +kernel
theorem dL_isDawn_111 : decode cL_isDawn 111 = .ok (.invokevirtual 89, 3) := by decide +kernel
theorem dL_isDawn_114 : decode cL_isDawn 114 = .ok (.iload 6, 2) := by decide +kernel
theorem dL_isDawn_116 : decode cL_isDawn 116 = .ok (.iload 7, 2) := by decide +kernel
theorem dL_isDawn_118 : decode cL_isDawn 118 = .ok (.iadd, 1) := by decide +kernel
theorem dL_isDawn_119 : decode cL_isDawn 119 = .ok (.if_icmp .ne 7, 3) := by decide +kernel
theorem dL_isDawn_122 : decode cL_isDawn 122 = .ok (.iconst 1, 1) := by decide +kernel
theorem dL_isDawn_123 : decode cL_isDawn 123 = .ok (.goto 4, 3) := by decide +kernel
theorem dL_isDawn_126 : decode cL_isDawn 126 = .ok (.iconst 0, 1) := by decide +kernel
theorem dL_isDawn_127 : decode cL_isDawn 127 = .ok (.istore 8, 2) := by decide +kernel
theorem dL_isDawn_129 : decode cL_isDawn 129 = .ok (.iconst 0, 1) := by decide +kernel
theorem dL_isDawn_130 : decode cL_isDawn 130 = .ok (.istore 9, 2) := by decide +kernel
theorem dL_isDawn_132 : decode cL_isDawn 132 = .ok (.iload 8, 2) := by decide +kernel
theorem dL_isDawn_134 : decode cL_isDawn 134 = .ok (.ifCond .eq 48, 3) := by decide +kernel
theorem dL_isDawn_137 : decode cL_isDawn 137 = .ok (.iload 9, 2) := by decide +kernel
theorem dL_isDawn_139 : decode cL_isDawn 139 = .ok (.aload_n 0, 1) := by decide +kernel
theorem dL_isDawn_140 : decode cL_isDawn 140 = .ok (.iconst 1, 1) := by decide +kernel
theorem dL_isDawn_141 : decode cL_isDawn 141 = .ok (.invokevirtual 89, 3) := by decide +kernel
theorem dL_isDawn_144 : decode cL_isDawn 144 = .ok (.if_icmp .ge 38, 3) := by decide +kernel
theorem dL_isDawn_147 : decode cL_isDawn 147 = .ok (.aload_n 0, 1) := by decide +kernel
theorem dL_isDawn_148 : decode cL_isDawn 148 = .ok (.iload 9, 2) := by decide +kernel
theorem dL_isDawn_150 : decode cL_isDawn 150 = .ok (.bipush 7, 2) := by decide +kernel
theorem dL_isDawn_152 : decode cL_isDawn 152 = .ok (.invokevirtual 98, 3) := by decide +kernel
theorem dL_isDawn_155 : decode cL_isDawn 155 = .ok (.ifCond .ne 18, 3) := by decide +kernel
theorem dL_isDawn_158 : decode cL_isDawn 158 = .ok (.aload_n 0, 1) := by decide +kernel
theorem dL_isDawn_159 : decode cL_isDawn 159 = .ok (.iload 9, 2) := by decide +kernel
theorem dL_isDawn_161 : decode cL_isDawn 161 = .ok (.bipush 8, 2) := by decide +kernel
theorem dL_isDawn_163 : decode cL_isDawn 163 = .ok (.invokevirtual 98, 3) := by decide +kernel
theorem dL_isDawn_166 : decode cL_isDawn 166 = .ok (.ifCond .ne 7, 3) := by decide +kernel
theorem dL_isDawn_169 : decode cL_isDawn 169 = .ok (.iconst 1, 1) := by decide +kernel
theorem dL_isDawn_170 : decode cL_isDawn 170 = .ok (.goto 4, 3) := by decide +kernel
theorem dL_isDawn_173 : decode cL_isDawn 173 = .ok (.iconst 0, 1) := by decide +kernel
theorem dL_isDawn_174 : decode cL_isDawn 174 = .ok (.istore 8, 2) := by decide +kernel
theorem dL_isDawn_176 : decode cL_isDawn 176 = .ok (.iinc 9 1, 3) := by decide +kernel
theorem dL_isDawn_179 : decode cL_isDawn 179 = .ok (.goto (-47), 3) := by decide +kernel
theorem dL_isDawn_182 : decode cL_isDawn 182 = .ok (.iload 8, 2) := by decide +kernel
theorem dL_isDawn_184 : decode cL_isDawn 184 = .ok (.ifCond .eq 37, 3) := by decide +kernel
theorem dL_isDawn_187 : decode cL_isDawn 187 = .ok (.aload_n 0, 1) := by decide +kernel
theorem dL_isDawn_188 : decode cL_isDawn 188 = .ok (.invokestatic 170, 3) := by decide +kernel
theorem dL_isDawn_191 : decode cL_isDawn 191 = .ok (.ifCond .eq 30, 3) := by decide +kernel
theorem dL_isDawn_194 : decode cL_isDawn 194 = .ok (.aload_n 0, 1) := by decide +kernel
theorem dL_isDawn_195 : decode cL_isDawn 195 = .ok (.invokestatic 174, 3) := by decide +kernel
theorem dL_isDawn_198 : decode cL_isDawn 198 = .ok (.ifCond .eq 23, 3) := by decide +kernel
theorem dL_isDawn_201 : decode cL_isDawn 201 = .ok (.aload_n 0, 1) := by decide +kernel
theorem dL_isDawn_202 : decode cL_isDawn 202 = .ok (.invokevirtual 82, 3) := by decide +kernel
theorem dL_isDawn_205 : decode cL_isDawn 205 = .ok (.ifCond .lt 16, 3) := by decide +kernel
theorem dL_isDawn_208 : decode cL_isDawn 208 = .ok (.aload_n 0, 1) := by decide +kernel
theorem dL_isDawn_209 : decode cL_isDawn 209 = .ok (.invokestatic 151, 3) := by decide +kernel
theorem dL_isDawn_212 : decode cL_isDawn 212 = .ok (.lload_n 1, 1) := by decide +kernel
theorem dL_isDawn_213 : decode cL_isDawn 213 = .ok (.lcmp, 1) := by decide +kernel
theorem dL_isDawn_214 : decode cL_isDawn 214 = .ok (.ifCond .ne 7, 3) := by decide +kernel
theorem dL_isDawn_217 : decode cL_isDawn 217 = .ok (.iconst 1, 1) := by decide +kernel
theorem dL_isDawn_218 : decode cL_isDawn 218 = .ok (.goto 4, 3) := by decide +kernel
theorem dL_isDawn_221 : decode cL_isDawn 221 = .ok (.iconst 0, 1) := by decide +kernel
theorem dL_isDawn_222 : decode cL_isDawn 222 = .ok (.ireturn, 1) := by decide +kernel
theorem dL_isPound_0 : decode cL_isPound 0 = .ok (.aload_n 0, 1) := by decide +kernel
theorem dL_isPound_1 : decode cL_isPound 1 = .ok (.invokestatic 151, 3) := by decide +kernel
theorem dL_isPound_4 : decode cL_isPound 4 = .ok (.lstore_n 2, 1) := by decide +kernel
theorem dL_isPound_5 : decode cL_isPound 5 = .ok (.aload_n 0, 1) := by decide +kernel
theorem dL_isPound_6 : decode cL_isPound 6 = .ok (.iload_n 1, 1) := by decide +kernel
theorem dL_isPound_7 : decode cL_isPound 7 = .ok (.iconst 2, 1) := by decide +kernel
theorem dL_isPound_8 : decode cL_isPound 8 = .ok (.invokevirtual 98, 3) := by decide +kernel
theorem dL_isPound_11 : decode cL_isPound 11 = .ok (.aload_n 0, 1) := by decide +kernel
theorem dL_isPound_12 : decode cL_isPound 12 = .ok (.iload_n 1, 1) := by decide +kernel
theorem dL_isPound_13 : decode cL_isPound 13 = .ok (.iconst 3, 1) := by decide +kernel
theorem dL_isPound_14 : decode cL_isPound 14 = .ok (.invokevirtual 98, 3) := by decide +kernel
theorem dL_isPound_17 : decode cL_isPound 17 = .ok (.isub, 1) := by decide +kernel
theorem dL_isPound_18 : decode cL_isPound 18 = .ok (.istore 4, 2) := by decide +kernel
theorem dL_isPound_20 : decode cL_isPound 20 = .ok (.aload_n 0, 1) := by decide +kernel
theorem dL_isPound_21 : decode cL_isPound 21 = .ok (.iload_n 1, 1) := by decide +kernel
theorem dL_isPound_22 : decode cL_isPound 22 = .ok (.iconst 1, 1) := by decide +kernel
theorem dL_isPound_23 : decode cL_isPound 23 = .ok (.invokevirtual 98, 3) := by decide +kernel
theorem dL_isPound_26 : decode cL_isPound 26 = .ok (.ifCond .ne 22, 3) := by decide +kernel
theorem dL_isPound_29 : decode cL_isPound 29 = .ok (.aload_n 0, 1) := by decide +kernel
theorem dL_isPound_30 : decode cL_isPound 30 = .ok (.iload_n 1, 1) := by decide +kernel
theorem dL_isPound_31 : decode cL_isPound 31 = .ok (.invokevirtual 101, 3) := by decide +kernel
theorem dL_isPound_34 : decode cL_isPound 34 = .ok (.bipush 10, 2) := by decide +kernel
theorem dL_isPound_36 : decode cL_isPound 36 = .ok (.if_icmp .lt 12, 3) := by decide +kernel
theorem dL_isPound_39 : decode cL_isPound 39 = .ok (.iload 4, 2) := by decide +kernel
theorem dL_isPound_41 : decode cL_isPound 41 = .ok (.ifCond .le 7, 3) := by decide +kernel
theorem dL_isPound_44 : decode cL_isPound 44 = .ok (.iconst 1, 1) := by decide +kernel
theorem dL_isPound_45 : decode cL_isPound 45 = .ok (.goto 4, 3) := by decide +kernel
theorem dL_isPound_48 : decode cL_isPound 48 = .ok (.iconst 0, 1) := by decide +kernel
theorem dL_isPound_49 : decode cL_isPound 49 = .ok (.istore 5, 2) := by decide +kernel
theorem dL_isPound_51 : decode cL_isPound 51 = .ok (.aload_n 0, 1) := by decide +kernel
theorem dL_isPound_52 : decode cL_isPound 52 = .ok (.iload_n 1, 1) := by decide +kernel
theorem dL_isPound_53 : decode cL_isPound 53 = .ok (.invokevirtual 54, 3) := by decide +kernel
theorem dL_isPound_56 : decode cL_isPound 56 = .ok (.istore 6, 2) := by decide +kernel
theorem dL_isPound_58 : decode cL_isPound 58 = .ok (.iload 6, 2) := by decide +kernel
theorem dL_isPound_60 : decode cL_isPound 60 = .ok (.bipush (-3), 2) := by decide +kernel
theorem dL_isPound_62 : decode cL_isPound 62 = .ok (.if_icmp .ne 23, 3) := by decide +kernel
theorem dL_isPound_65 : decode cL_isPound 65 = .ok (.iload 5, 2) := by decide +kernel
theorem dL_isPound_67 : decode cL_isPound 67 = .ok (.ifCond .ne 16, 3) := by decide +kernel
theorem dL_isPound_70 : decode cL_isPound 70 = .ok (.aload_n 0, 1) := by decide +kernel
theorem dL_isPound_71 : decode cL_isPound 71 = .ok (.invokestatic 151, 3) := by decide +kernel
theorem dL_isPound_74 : decode cL_isPound 74 = .ok (.lload_n 2, 1) := by decide +kernel
theorem dL_isPound_75 : decode cL_isPound 75 = .ok (.lcmp, 1) := by decide +kernel
theorem dL_isPound_76 : decode cL_isPound 76 = .ok (.ifCond .ne 7, 3) := by decide +kernel
theorem dL_isPound_79 : decode cL_isPound 79 = .ok (.iconst 1, 1) := by decide +kernel
theorem dL_isPound_80 : decode cL_isPound 80 = .ok (.goto 4, 3) := by decide +kernel
theorem dL_isPound_83 : decode cL_isPound 83 = .ok (.iconst 0, 1) := by decide +kernel
theorem dL_isPound_84 : decode cL_isPound 84 = .ok (.ireturn, 1) := by decide +kernel
theorem dL_isPound_85 : decode cL_isPound 85 = .ok (.iload 5, 2) := by decide +kernel
theorem dL_isPound_87 : decode cL_isPound 87 = .ok (.ifCond .eq 36, 3) := by decide +kernel
theorem dL_isPound_90 : decode cL_isPound 90 = .ok (.iload 6, 2) := by decide +kernel
theorem dL_isPound_92 : decode cL_isPound 92 = .ok (.iload 4, 2) := by decide +kernel
theorem dL_isPound_94 : decode cL_isPound 94 = .ok (.if_icmp .ne 29, 3) := by decide +kernel
theorem dL_isPound_97 : decode cL_isPound 97 = .ok (.aload_n 0, 1) := by decide +kernel
theorem dL_isPound_98 : decode cL_isPound 98 = .ok (.iload_n 1, 1) := by decide +kernel
theorem dL_isPound_99 : decode cL_isPound 99 = .ok (.iconst 3, 1) := by decide +kernel
theorem dL_isPound_100 : decode cL_isPound 100 = .ok (.invokevirtual 98, 3) := by decide +kernel
theorem dL_isPound_103 : decode cL_isPound 103 = .ok (.aload_n 0, 1) := by decide +kernel
theorem dL_isPound_104 : decode cL_isPound 104 = .ok (.iload_n 1, 1) := by decide +kernel
theorem dL_isPound_105 : decode cL_isPound 105 = .ok (.iconst 2, 1) := by decide +kernel
theorem dL_isPound_106 : decode cL_isPound 106 = .ok (.invokevirtual 98, 3) := by decide +kernel
theorem dL_isPound_109 : decode cL_isPound 109 = .ok (.if_icmp .ne 14, 3) := by decide +kernel
theorem dL_isPound_112 : decode cL_isPound 112 = .ok (.aload_n 0, 1) := by decide +kernel
theorem dL_isPound_113 : decode cL_isPound 113 = .ok (.invokestatic 174, 3) := by decide +kernel
theorem dL_isPound_116 : decode cL_isPound 116 = .ok (.ifCond .eq 7, 3) := by decide +kernel
theorem dL_isPound_119 : decode cL_isPound 119 = .ok (.iconst 1, 1) := by decide +kernel
theorem dL_isPound_120 : decode cL_isPound 120 = .ok (.goto 4, 3) := by decide +kernel
theorem dL_isPound_123 : decode cL_isPound 123 = .ok (.iconst 0, 1) := by decide +kernel
theorem dL_isPound_124 : decode cL_isPound 124 = .ok (.istore 7, 2) := by decide +kernel
theorem dL_isPound_126 : decode cL_isPound 126 = .ok (.iconst 0, 1) := by decide +kernel
theorem dL_isPound_127 : decode cL_isPound 127 = .ok (.istore 8, 2) := by decide +kernel
theorem dL_isPound_129 : decode cL_isPound 129 = .ok (.iconst 0, 1) := by decide +kernel
theorem dL_isPound_130 : decode cL_isPound 130 = .ok (.istore 9, 2) := by decide +kernel
theorem dL_isPound_132 : decode cL_isPound 132 = .ok (.iload 7, 2) := by decide +kernel
theorem dL_isPound_134 : decode cL_isPound 134 = .ok (.ifCond .eq 118, 3) := by decide +kernel
theorem dL_isPound_137 : decode cL_isPound 137 = .ok (.iload 9, 2) := by decide +kernel
theorem dL_isPound_139 : decode cL_isPound 139 = .ok (.aload_n 0, 1) := by decide +kernel
theorem dL_isPound_140 : decode cL_isPound 140 = .ok (.iconst 2, 1) := by decide +kernel
theorem dL_isPound_141 : decode cL_isPound 141 = .ok (.invokevirtual 89, 3) := by decide +kernel
theorem dL_isPound_144 : decode cL_isPound 144 = .ok (.if_icmp .ge 108, 3) := by decide +kernel
theorem dL_isPound_147 : decode cL_isPound 147 = .ok (.aload_n 0, 1) := by decide +kernel
theorem dL_isPound_148 : decode cL_isPound 148 = .ok (.iload 9, 2) := by decide +kernel
theorem dL_isPound_150 : decode cL_isPound 150 = .ok (.iconst 5, 1) := by decide +kernel
theorem dL_isPound_151 : decode cL_isPound 151 = .ok (.invokevirtual 104, 3) := by decide +kernel
theorem dL_isPound_154 : decode cL_isPound 154 = .ok (.istore 10, 2) := by decide +kernel
theorem dL_isPound_156 : decode cL_isPound 156 = .ok (.aload_n 0, 1) := by decide +kernel
theorem dL_isPound_157 : decode cL_isPound 157 = .ok (.aload_n 0, 1) := by decide +kernel
theorem dL_isPound_158 : decode cL_isPound 158 = .ok (.iload 9, 2) := by decide +kernel
theorem dL_isPound_160 : decode cL_isPound 160 = .ok (.iconst 0, 1) := by decide +kernel
theorem dL_isPound_161 : decode cL_isPound 161 = .ok (.invokevirtual 104, 3) := by decide +kernel
theorem dL_isPound_164 : decode cL_isPound 164 = .ok (.iconst 0, 1) := by decide +kernel
theorem dL_isPound_165 : decode cL_isPound 165 = .ok (.invokevirtual 98, 3) := by decide +kernel
theorem dL_isPound_168 : decode cL_isPound 168 = .ok (.istore 11, 2) := by decide +kernel
theorem dL_isPound_170 : decode cL_isPound 170 = .ok (.iload 8, 2) := by decide +kernel
theorem dL_isPound_172 : decode cL_isPound 172 = .ok (.ifCond .ne 74, 3) := by decide +kernel
theorem dL_isPound_175 : decode cL_isPound 175 = .ok (.iload 10, 2) := by decide +kernel
theorem dL_isPound_177 : decode cL_isPound 177 = .ok (.bipush (-4), 2) := by decide +kernel
theorem dL_isPound_179 : decode cL_isPound 179 = .ok (.if_icmp .eq 67, 3) := by decide +kernel
theorem dL_isPound_182 : decode cL_isPound 182 = .ok (.iload 10, 2) := by decide +kernel
theorem dL_isPound_184 : decode cL_isPound 184 = .ok (.iload 11, 2) := by decide +kernel
theorem dL_isPound_186 : decode cL_isPound 186 = .ok (.if_icmp .gt 60, 3) := by decide +kernel
theorem dL_isPound_189 : decode cL_isPound 189 = .ok (.aload_n 0, 1) := by decide +kernel
theorem dL_isPound_190 : decode cL_isPound 190 = .ok (.iload 9, 2) := by decide +kernel
theorem dL_isPound_192 : decode cL_isPound 192 = .ok (.iconst 0, 1) := by decide +kernel
theorem dL_isPound_193 : decode cL_isPound 193 = .ok (.invokevirtual 104, 3) := by decide +kernel
theorem dL_isPound_196 : decode cL_isPound 196 = .ok (.istore 12, 2) := by decide +kernel
theorem dL_isPound_198 : decode cL_isPound 198 = .ok (.aload_n 0, 1) := by decide +kernel
theorem dL_isPound_199 : decode cL_isPound 199 = .ok (.iload 9, 2) := by decide +kernel
theorem dL_isPound_201 : decode cL_isPound 201 = .ok (.invokevirtual 57, 3) := by decide +kernel
theorem dL_isPound_204 : decode cL_isPound 204 = .ok (.iload 10, 2) := by decide +kernel
theorem dL_isPound_206 : decode cL_isPound 206 = .ok (.if_icmp .ne 34, 3) := by decide +kernel
theorem dL_isPound_209 : decode cL_isPound 209 = .ok (.aload_n 0, 1) := by decide +kernel
theorem dL_isPound_210 : decode cL_isPound 210 = .ok (.iload 12, 2) := by decide +kernel
theorem dL_isPound_212 : decode cL_isPound 212 = .ok (.iconst 0, 1) := by decide +kernel
theorem dL_isPound_213 : decode cL_isPound 213 = .ok (.invokevirtual 98, 3) := by decide +kernel
theorem dL_isPound_216 : decode cL_isPound 216 = .ok (.iload 11, 2) := by decide +kernel
theorem dL_isPound_218 : decode cL_isPound 218 = .ok (.iload 10, 2) := by decide +kernel
theorem dL_isPound_220 : decode cL_isPound 220 = .ok (.isub, 1) := by decide +kernel
theorem dL_isPound_221 : decode cL_isPound 221 = .ok (.if_icmp .ne 19, 3) := by decide +kernel
theorem dL_isPound_224 : decode cL_isPound 224 = .ok (.aload_n 0, 1) := by decide +kernel
theorem dL_isPound_225 : decode cL_isPound 225 = .ok (.iload 9, 2) := by decide +kernel
theorem dL_isPound_227 : decode cL_isPound 227 = .ok (.iconst 4, 1) := by decide +kernel
theorem dL_isPound_228 : decode cL_isPound 228 = .ok (.invokevirtual 104, 3) := by decide +kernel
theorem dL_isPound_231 : decode cL_isPound 231 = .ok (.bipush (-4), 2) := by decide +kernel
theorem dL_isPound_233 : decode cL_isPound 233 = .ok (.if_icmp .ne 7, 3) := by decide +kernel
theorem dL_isPound_236 : decode cL_isPound 236 = .ok (.iconst 1, 1) := by decide +kernel
theorem dL_isPound_237 : decode cL_isPound 237 = .ok (.goto 4, 3) := by decide +kernel
theorem dL_isPound_240 : decode cL_isPound 240 = .ok (.iconst 0, 1) := by decide +kernel
theorem dL_isPound_241 : decode cL_isPound 241 = .ok (.istore 7, 2) := by decide +kernel
theorem dL_isPound_243 : decode cL_isPound 243 = .ok (.iinc 8 1, 3) := by decide +kernel
theorem dL_isPound_246 : decode cL_isPound 246 = .ok (.iinc 9 1, 3) := by decide +kernel
theorem dL_isPound_249 : decode cL_isPound 249 = .ok (.goto (-117), 3) := by decide +kernel
theorem dL_isPound_252 : decode cL_isPound 252 = .ok (.iload 7, 2) := by decide +kernel
theorem dL_isPound_254 : decode cL_isPound 254 = .ok (.ifCond .eq 35, 3) := by decide +kernel
theorem dL_isPound_257 : decode cL_isPound 257 = .ok (.iload 8, 2) := by decide +kernel
theorem dL_isPound_259 : decode cL_isPound 259 = .ok (.ifCond .eq 10, 3) := by decide +kernel
theorem dL_isPound_262 : decode cL_isPound 262 = .ok (.aload_n 0, 1) := by decide +kernel
theorem dL_isPound_263 : decode cL_isPound 263 = .ok (.invokevirtual 82, 3) := by decide +kernel
theorem dL_isPound_266 : decode cL_isPound 266 = .ok (.ifCond .lt 23, 3) := by decide +kernel
theorem dL_isPound_269 : decode cL_isPound 269 = .ok (.aload_n 0, 1) := by decide +kernel
theorem dL_isPound_270 : decode cL_isPound 270 = .ok (.invokevirtual 82, 3) := by decide +kernel
theorem dL_isPound_273 : decode cL_isPound 273 = .ok (.ifCond .lt 16, 3) := by decide +kernel
theorem dL_isPound_276 : decode cL_isPound 276 = .ok (.aload_n 0, 1) := by decide +kernel
theorem dL_isPound_277 : decode cL_isPound 277 = .ok (.invokestatic 151, 3) := by decide +kernel
theorem dL_isPound_280 : decode cL_isPound 280 = .ok (.lload_n 2, 1) := by decide +kernel
theorem dL_isPound_281 : decode cL_isPound 281 = .ok (.lcmp, 1) := by decide +kernel
theorem dL_isPound_282 : decode cL_isPound 282 = .ok (.ifCond .ne 7, 3) := by decide +kernel
theorem dL_isPound_285 : decode cL_isPound 285 = .ok (.iconst 1, 1) := by decide +kernel
theorem dL_isPound_286 : decode cL_isPound 286 = .ok (.goto 4, 3) := by decide +kernel
theorem dL_isPound_289 : decode cL_isPound 289 = .ok (.iconst 0, 1) := by decide +kernel
theorem dL_isPound_290 : decode cL_isPound 290 = .ok (.ireturn, 1) := by decide +kernel
theorem dL_areOrders_0 : decode cL_areOrders 0 = .ok (.aload_n 0, 1) := by decide +kernel
theorem dL_areOrders_1 : decode cL_areOrders 1 = .ok (.iconst 1, 1) := by decide +kernel
theorem dL_areOrders_2 : decode cL_areOrders 2 = .ok (.invokevirtual 89, 3) := by decide +kernel
theorem dL_areOrders_5 : decode cL_areOrders 5 = .ok (.istore_n 1, 1) := by decide +kernel
theorem dL_areOrders_6 : decode cL_areOrders 6 = .ok (.aload_n 0, 1) := by decide +kernel
theorem dL_areOrders_7 : decode cL_areOrders 7 = .ok (.iconst 0, 1) := by decide +kernel
theorem dL_areOrders_8 : decode cL_areOrders 8 = .ok (.invokevirtual 89, 3) := by decide +kernel
theorem dL_areOrders_11 : decode cL_areOrders 11 = .ok (.istore_n 2, 1) := by decide +kernel
theorem dL_areOrders_12 : decode cL_areOrders 12 = .ok (.aload_n 0, 1) := by decide +kernel
theorem dL_areOrders_13 : decode cL_areOrders 13 = .ok (.iload_n 1, 1) := by decide +kernel
theorem dL_areOrders_14 : decode cL_areOrders 14 = .ok (.invokevirtual 177, 3) := by decide +kernel
theorem dL_areOrders_17 : decode cL_areOrders 17 = .ok (.iconst (-1), 1) := by decide +kernel
theorem dL_areOrders_18 : decode cL_areOrders 18 = .ok (.if_icmp .ne 25, 3) := by decide +kernel
theorem dL_areOrders_21 : decode cL_areOrders 21 = .ok (.aload_n 0, 1) := by decide +kernel
theorem dL_areOrders_22 : decode cL_areOrders 22 = .ok (.iload_n 2, 1) := by decide +kernel
theorem dL_areOrders_23 : decode cL_areOrders 23 = .ok (.invokevirtual 180, 3) := by decide +kernel
theorem dL_areOrders_26 : decode cL_areOrders 26 = .ok (.iconst (-1), 1) := by decide +kernel
theorem dL_areOrders_27 : decode cL_areOrders 27 = .ok (.if_icmp .ne 16, 3) := by decide +kernel
theorem dL_areOrders_30 : decode cL_areOrders 30 = .ok (.aload_n 0, 1) := by decide +kernel
theorem dL_areOrders_31 : decode cL_areOrders 31 = .ok (.iconst (-1), 1) := by decide +kernel
theorem dL_areOrders_32 : decode cL_areOrders 32 = .ok (.invokevirtual 180, 3) := by decide +kernel
theorem dL_areOrders_35 : decode cL_areOrders 35 = .ok (.iconst (-1), 1) := by decide +kernel
theorem dL_areOrders_36 : decode cL_areOrders 36 = .ok (.if_icmp .ne 7, 3) := by decide +kernel
theorem dL_areOrders_39 : decode cL_areOrders 39 = .ok (.iconst 1, 1) := by decide +kernel
theorem dL_areOrders_40 : decode cL_areOrders 40 = .ok (.goto 4, 3) := by decide +kernel
theorem dL_areOrders_43 : decode cL_areOrders 43 = .ok (.iconst 0, 1) := by decide +kernel
theorem dL_areOrders_44 : decode cL_areOrders 44 = .ok (.istore_n 3, 1) := by decide +kernel
theorem dL_areOrders_45 : decode cL_areOrders 45 = .ok (.iconst 1, 1) := by decide +kernel
theorem dL_areOrders_46 : decode cL_areOrders 46 = .ok (.istore 4, 2) := by decide +kernel
theorem dL_areOrders_48 : decode cL_areOrders 48 = .ok (.iload_n 3, 1) := by decide +kernel
theorem dL_areOrders_49 : decode cL_areOrders 49 = .ok (.ifCond .eq 114, 3) := by decide +kernel
theorem dL_areOrders_52 : decode cL_areOrders 52 = .ok (.iload 4, 2) := by decide +kernel
theorem dL_areOrders_54 : decode cL_areOrders 54 = .ok (.iload_n 1, 1) := by decide +kernel
theorem dL_areOrders_55 : decode cL_areOrders 55 = .ok (.if_icmp .ge 108, 3) := by decide +kernel
theorem dL_areOrders_58 : decode cL_areOrders 58 = .ok (.aload_n 0, 1) := by decide +kernel
theorem dL_areOrders_59 : decode cL_areOrders 59 = .ok (.iload 4, 2) := by decide +kernel
theorem dL_areOrders_61 : decode cL_areOrders 61 = .ok (.iconst 1, 1) := by decide +kernel
theorem dL_areOrders_62 : decode cL_areOrders 62 = .ok (.isub, 1) := by decide +kernel
theorem dL_areOrders_63 : decode cL_areOrders 63 = .ok (.invokevirtual 177, 3) := by decide +kernel
theorem dL_areOrders_66 : decode cL_areOrders 66 = .ok (.istore 5, 2) := by decide +kernel
theorem dL_areOrders_68 : decode cL_areOrders 68 = .ok (.aload_n 0, 1) := by decide +kernel
theorem dL_areOrders_69 : decode cL_areOrders 69 = .ok (.iload 4, 2) := by decide +kernel
theorem dL_areOrders_71 : decode cL_areOrders 71 = .ok (.invokevirtual 177, 3) := by decide +kernel
theorem dL_areOrders_74 : decode cL_areOrders 74 = .ok (.istore 6, 2) := by decide +kernel
theorem dL_areOrders_76 : decode cL_areOrders 76 = .ok (.aload_n 0, 1) := by decide +kernel
theorem dL_areOrders_77 : decode cL_areOrders 77 = .ok (.iload 5, 2) := by decide +kernel
theorem dL_areOrders_79 : decode cL_areOrders 79 = .ok (.iconst 0, 1) := by decide +kernel
theorem dL_areOrders_80 : decode cL_areOrders 80 = .ok (.invokevirtual 98, 3) := by decide +kernel
theorem dL_areOrders_83 : decode cL_areOrders 83 = .ok (.aload_n 0, 1) := by decide +kernel
theorem dL_areOrders_84 : decode cL_areOrders 84 = .ok (.iload 5, 2) := by decide +kernel
theorem dL_areOrders_86 : decode cL_areOrders 86 = .ok (.invokevirtual 101, 3) := by decide +kernel
theorem dL_areOrders_89 : decode cL_areOrders 89 = .ok (.isub, 1) := by decide +kernel
theorem dL_areOrders_90 : decode cL_areOrders 90 = .ok (.aload_n 0, 1) := by decide +kernel
theorem dL_areOrders_91 : decode cL_areOrders 91 = .ok (.iload 6, 2) := by decide +kernel
theorem dL_areOrders_93 : decode cL_areOrders 93 = .ok (.iconst 0, 1) := by decide +kernel
theorem dL_areOrders_94 : decode cL_areOrders 94 = .ok (.invokevirtual 98, 3) := by decide +kernel
theorem dL_areOrders_97 : decode cL_areOrders 97 = .ok (.isub, 1) := by decide +kernel
theorem dL_areOrders_98 : decode cL_areOrders 98 = .ok (.aload_n 0, 1) := by decide +kernel
theorem dL_areOrders_99 : decode cL_areOrders 99 = .ok (.iload 6, 2) := by decide +kernel
theorem dL_areOrders_101 : decode cL_areOrders 101 = .ok (.invokevirtual 101, 3) := by decide +kernel
theorem dL_areOrders_104 : decode cL_areOrders 104 = .ok (.iadd, 1) := by decide +kernel
theorem dL_areOrders_105 : decode cL_areOrders 105 = .ok (.istore 7, 2) := by decide +kernel
theorem dL_areOrders_107 : decode cL_areOrders 107 = .ok (.aload_n 0, 1) := by decide +kernel
theorem dL_areOrders_108 : decode cL_areOrders 108 = .ok (.iload 6, 2) := by decide +kernel
theorem dL_areOrders_110 : decode cL_areOrders 110 = .ok (.iconst 2, 1) := by decide +kernel
theorem dL_areOrders_111 : decode cL_areOrders 111 = .ok (.invokevirtual 98, 3) := by decide +kernel
theorem dL_areOrders_114 : decode cL_areOrders 114 = .ok (.aload_n 0, 1) := by decide +kernel
theorem dL_areOrders_115 : decode cL_areOrders 115 = .ok (.iload 5, 2) := by decide +kernel
theorem dL_areOrders_117 : decode cL_areOrders 117 = .ok (.iconst 2, 1) := by decide +kernel
theorem dL_areOrders_118 : decode cL_areOrders 118 = .ok (.invokevirtual 98, 3) := by decide +kernel
theorem dL_areOrders_121 : decode cL_areOrders 121 = .ok (.isub, 1) := by decide +kernel
theorem dL_areOrders_122 : decode cL_areOrders 122 = .ok (.istore 8, 2) := by decide +kernel
theorem dL_areOrders_124 : decode cL_areOrders 124 = .ok (.iload 7, 2) := by decide +kernel
theorem dL_areOrders_126 : decode cL_areOrders 126 = .ok (.ifCond .gt 25, 3) := by decide +kernel
theorem dL_areOrders_129 : decode cL_areOrders 129 = .ok (.iload 7, 2) := by decide +kernel
theorem dL_areOrders_131 : decode cL_areOrders 131 = .ok (.ifCond .ne 24, 3) := by decide +kernel
theorem dL_areOrders_134 : decode cL_areOrders 134 = .ok (.iload 8, 2) := by decide +kernel
theorem dL_areOrders_136 : decode cL_areOrders 136 = .ok (.ifCond .gt 15, 3) := by decide +kernel
theorem dL_areOrders_139 : decode cL_areOrders 139 = .ok (.iload 8, 2) := by decide +kernel
theorem dL_areOrders_141 : decode cL_areOrders 141 = .ok (.ifCond .ne 14, 3) := by decide +kernel
theorem dL_areOrders_144 : decode cL_areOrders 144 = .ok (.iload 5, 2) := by decide +kernel
theorem dL_areOrders_146 : decode cL_areOrders 146 = .ok (.iload 6, 2) := by decide +kernel
theorem dL_areOrders_148 : decode cL_areOrders 148 = .ok (.if_icmp .ge 7, 3) := by decide +kernel
theorem dL_areOrders_151 : decode cL_areOrders 151 = .ok (.iconst 1, 1) := by decide +kernel
theorem dL_areOrders_152 : decode cL_areOrders 152 = .ok (.goto 4, 3) := by decide +kernel
theorem dL_areOrders_155 : decode cL_areOrders 155 = .ok (.iconst 0, 1) := by decide +kernel
theorem dL_areOrders_156 : decode cL_areOrders 156 = .ok (.istore_n 3, 1) := by decide +kernel
theorem dL_areOrders_157 : decode cL_areOrders 157 = .ok (.iinc 4 1, 3) := by decide +kernel
theorem dL_areOrders_160 : decode cL_areOrders 160 = .ok (.goto (-112), 3) := by decide +kernel
theorem dL_areOrders_163 : decode cL_areOrders 163 = .ok (.iconst 1, 1) := by decide +kernel
theorem dL_areOrders_164 : decode cL_areOrders 164 = .ok (.istore 4, 2) := by decide +kernel
theorem dL_areOrders_166 : decode cL_areOrders 166 = .ok (.iload_n 3, 1) := by decide +kernel
theorem dL_areOrders_167 : decode cL_areOrders 167 = .ok (.ifCond .eq 100, 3) := by decide +kernel
theorem dL_areOrders_170 : decode cL_areOrders 170 = .ok (.iload 4, 2) := by decide +kernel
theorem dL_areOrders_172 : decode cL_areOrders 172 = .ok (.iload_n 2, 1) := by decide +kernel
theorem dL_areOrders_173 : decode cL_areOrders 173 = .ok (.if_icmp .ge 94, 3) := by decide +kernel
theorem dL_areOrders_176 : decode cL_areOrders 176 = .ok (.aload_n 0, 1) := by decide +kernel
theorem dL_areOrders_177 : decode cL_areOrders 177 = .ok (.iload 4, 2) := by decide +kernel
theorem dL_areOrders_179 : decode cL_areOrders 179 = .ok (.iconst 1, 1) := by decide +kernel
theorem dL_areOrders_180 : decode cL_areOrders 180 = .ok (.isub, 1) := by decide +kernel
theorem dL_areOrders_181 : decode cL_areOrders 181 = .ok (.invokevirtual 180, 3) := by decide +kernel
theorem dL_areOrders_184 : decode cL_areOrders 184 = .ok (.istore 5, 2) := by decide +kernel
theorem dL_areOrders_186 : decode cL_areOrders 186 = .ok (.aload_n 0, 1) := by decide +kernel
theorem dL_areOrders_187 : decode cL_areOrders 187 = .ok (.iload 4, 2) := by decide +kernel
theorem dL_areOrders_189 : decode cL_areOrders 189 = .ok (.invokevirtual 180, 3) := by decide +kernel
theorem dL_areOrders_192 : decode cL_areOrders 192 = .ok (.istore 6, 2) := by decide +kernel
theorem dL_areOrders_194 : decode cL_areOrders 194 = .ok (.aload_n 0, 1) := by decide +kernel
theorem dL_areOrders_195 : decode cL_areOrders 195 = .ok (.iload 5, 2) := by decide +kernel
theorem dL_areOrders_197 : decode cL_areOrders 197 = .ok (.iconst 0, 1) := by decide +kernel
theorem dL_areOrders_198 : decode cL_areOrders 198 = .ok (.invokevirtual 95, 3) := by decide +kernel
theorem dL_areOrders_201 : decode cL_areOrders 201 = .ok (.aload_n 0, 1) := by decide +kernel
theorem dL_areOrders_202 : decode cL_areOrders 202 = .ok (.iload 6, 2) := by decide +kernel
theorem dL_areOrders_204 : decode cL_areOrders 204 = .ok (.iconst 0, 1) := by decide +kernel
theorem dL_areOrders_205 : decode cL_areOrders 205 = .ok (.invokevirtual 95, 3) := by decide +kernel
theorem dL_areOrders_208 : decode cL_areOrders 208 = .ok (.isub, 1) := by decide +kernel
theorem dL_areOrders_209 : decode cL_areOrders 209 = .ok (.istore 7, 2) := by decide +kernel
theorem dL_areOrders_211 : decode cL_areOrders 211 = .ok (.aload_n 0, 1) := by decide +kernel
theorem dL_areOrders_212 : decode cL_areOrders 212 = .ok (.iload 5, 2) := by decide +kernel
theorem dL_areOrders_214 : decode cL_areOrders 214 = .ok (.iconst 4, 1) := by decide +kernel
theorem dL_areOrders_215 : decode cL_areOrders 215 = .ok (.invokevirtual 95, 3) := by decide +kernel
theorem dL_areOrders_218 : decode cL_areOrders 218 = .ok (.aload_n 0, 1) := by decide +kernel
theorem dL_areOrders_219 : decode cL_areOrders 219 = .ok (.iload 6, 2) := by decide +kernel
theorem dL_areOrders_221 : decode cL_areOrders 221 = .ok (.iconst 4, 1) := by decide +kernel
theorem dL_areOrders_222 : decode cL_areOrders 222 = .ok (.invokevirtual 95, 3) := by decide +kernel
theorem dL_areOrders_225 : decode cL_areOrders 225 = .ok (.isub, 1) := by decide +kernel
theorem dL_areOrders_226 : decode cL_areOrders 226 = .ok (.istore 8, 2) := by decide +kernel
theorem dL_areOrders_228 : decode cL_areOrders 228 = .ok (.iload 7, 2) := by decide +kernel
theorem dL_areOrders_230 : decode cL_areOrders 230 = .ok (.ifCond .gt 25, 3) := by decide +kernel
theorem dL_areOrders_233 : decode cL_areOrders 233 = .ok (.iload 7, 2) := by decide +kernel
theorem dL_areOrders_235 : decode cL_areOrders 235 = .ok (.ifCond .ne 24, 3) := by decide +kernel
theorem dL_areOrders_238 : decode cL_areOrders 238 = .ok (.iload 8, 2) := by decide +kernel
theorem dL_areOrders_240 : decode cL_areOrders 240 = .ok (.ifCond .gt 15, 3) := by decide +kernel
theorem dL_areOrders_243 : decode cL_areOrders 243 = .ok (.iload 8, 2) := by decide +kernel
theorem dL_areOrders_245 : decode cL_areOrders 245 = .ok (.ifCond .ne 14, 3) := by decide +kernel
theorem dL_areOrders_248 : decode cL_areOrders 248 = .ok (.iload 5, 2) := by decide +kernel
theorem dL_areOrders_250 : decode cL_areOrders 250 = .ok (.iload 6, 2) := by decide +kernel
theorem dL_areOrders_252 : decode cL_areOrders 252 = .ok (.if_icmp .ge 7, 3) := by decide +kernel
theorem dL_areOrders_255 : decode cL_areOrders 255 = .ok (.iconst 1, 1) := by decide +kernel
theorem dL_areOrders_256 : decode cL_areOrders 256 = .ok (.goto 4, 3) := by decide +kernel
theorem dL_areOrders_259 : decode cL_areOrders 259 = .ok (.iconst 0, 1) := by decide +kernel
theorem dL_areOrders_260 : decode cL_areOrders 260 = .ok (.istore_n 3, 1) := by decide +kernel
theorem dL_areOrders_261 : decode cL_areOrders 261 = .ok (.iinc 4 1, 3) := by decide +kernel
theorem dL_areOrders_264 : decode cL_areOrders 264 = .ok (.goto (-98), 3) := by decide +kernel
theorem dL_areOrders_267 : decode cL_areOrders 267 = .ok (.iconst 0, 1) := by decide +kernel
theorem dL_areOrders_268 : decode cL_areOrders 268 = .ok (.istore 4, 2) := by decide +kernel
theorem dL_areOrders_270 : decode cL_areOrders 270 = .ok (.iload_n 3, 1) := by decide +kernel
theorem dL_areOrders_271 : decode cL_areOrders 271 = .ok (.ifCond .eq 113, 3) := by decide +kernel
theorem dL_areOrders_274 : decode cL_areOrders 274 = .ok (.iload 4, 2) := by decide +kernel
theorem dL_areOrders_276 : decode cL_areOrders 276 = .ok (.iload_n 1, 1) := by decide +kernel
theorem dL_areOrders_277 : decode cL_areOrders 277 = .ok (.if_icmp .ge 107, 3) := by decide +kernel
theorem dL_areOrders_280 : decode cL_areOrders 280 = .ok (.aload_n 0, 1) := by decide +kernel
theorem dL_areOrders_281 : decode cL_areOrders 281 = .ok (.iload 4, 2) := by decide +kernel
theorem dL_areOrders_283 : decode cL_areOrders 283 = .ok (.invokevirtual 183, 3) := by decide +kernel
theorem dL_areOrders_286 : decode cL_areOrders 286 = .ok (.istore 5, 2) := by decide +kernel
theorem dL_areOrders_288 : decode cL_areOrders 288 = .ok (.iconst 0, 1) := by decide +kernel
theorem dL_areOrders_289 : decode cL_areOrders 289 = .ok (.istore 6, 2) := by decide +kernel
theorem dL_areOrders_291 : decode cL_areOrders 291 = .ok (.iload_n 3, 1) := by decide +kernel
theorem dL_areOrders_292 : decode cL_areOrders 292 = .ok (.ifCond .eq 86, 3) := by decide +kernel
theorem dL_areOrders_295 : decode cL_areOrders 295 = .ok (.iload 6, 2) := by decide +kernel
theorem dL_areOrders_297 : decode cL_areOrders 297 = .ok (.iload_n 2, 1) := by decide +kernel
theorem dL_areOrders_298 : decode cL_areOrders 298 = .ok (.if_icmp .ge 80, 3) := by decide +kernel
theorem dL_areOrders_301 : decode cL_areOrders 301 = .ok (.aload_n 0, 1) := by decide +kernel
theorem dL_areOrders_302 : decode cL_areOrders 302 = .ok (.iload 6, 2) := by decide +kernel
theorem dL_areOrders_304 : decode cL_areOrders 304 = .ok (.iconst 2, 1) := by decide +kernel
theorem dL_areOrders_305 : decode cL_areOrders 305 = .ok (.invokevirtual 95, 3) := by decide +kernel
theorem dL_areOrders_308 : decode cL_areOrders 308 = .ok (.iconst 1, 1) := by decide +kernel
theorem dL_areOrders_309 : decode cL_areOrders 309 = .ok (.if_icmp .ne 23, 3) := by decide +kernel
theorem dL_areOrders_312 : decode cL_areOrders 312 = .ok (.aload_n 0, 1) := by decide +kernel
theorem dL_areOrders_313 : decode cL_areOrders 313 = .ok (.iload 4, 2) := by decide +kernel
theorem dL_areOrders_315 : decode cL_areOrders 315 = .ok (.bipush 7, 2) := by decide +kernel
theorem dL_areOrders_317 : decode cL_areOrders 317 = .ok (.invokevirtual 98, 3) := by decide +kernel
theorem dL_areOrders_320 : decode cL_areOrders 320 = .ok (.iload 6, 2) := by decide +kernel
theorem dL_areOrders_322 : decode cL_areOrders 322 = .ok (.ishr, 1) := by decide +kernel
theorem dL_areOrders_323 : decode cL_areOrders 323 = .ok (.iconst 1, 1) := by decide +kernel
theorem dL_areOrders_324 : decode cL_areOrders 324 = .ok (.iand, 1) := by decide +kernel
theorem dL_areOrders_325 : decode cL_areOrders 325 = .ok (.ifCond .ne 7, 3) := by decide +kernel
theorem dL_areOrders_328 : decode cL_areOrders 328 = .ok (.iconst 1, 1) := by decide +kernel
theorem dL_areOrders_329 : decode cL_areOrders 329 = .ok (.goto 4, 3) := by decide +kernel
theorem dL_areOrders_332 : decode cL_areOrders 332 = .ok (.iconst 0, 1) := by decide +kernel
theorem dL_areOrders_333 : decode cL_areOrders 333 = .ok (.istore 7, 2) := by decide +kernel
theorem dL_areOrders_335 : decode cL_areOrders 335 = .ok (.iload 7, 2) := by decide +kernel
theorem dL_areOrders_337 : decode cL_areOrders 337 = .ok (.ifCond .eq 29, 3) := by decide +kernel
theorem dL_areOrders_340 : decode cL_areOrders 340 = .ok (.iload 5, 2) := by decide +kernel
theorem dL_areOrders_342 : decode cL_areOrders 342 = .ok (.bipush (-4), 2) := by decide +kernel
theorem dL_areOrders_344 : decode cL_areOrders 344 = .ok (.if_icmp .eq 26, 3) := by decide +kernel
theorem dL_areOrders_347 : decode cL_areOrders 347 = .ok (.aload_n 0, 1) := by decide +kernel
theorem dL_areOrders_348 : decode cL_areOrders 348 = .ok (.iload 4, 2) := by decide +kernel
theorem dL_areOrders_350 : decode cL_areOrders 350 = .ok (.iload 5, 2) := by decide +kernel
theorem dL_areOrders_352 : decode cL_areOrders 352 = .ok (.invokevirtual 107, 3) := by decide +kernel
theorem dL_areOrders_355 : decode cL_areOrders 355 = .ok (.aload_n 0, 1) := by decide +kernel
theorem dL_areOrders_356 : decode cL_areOrders 356 = .ok (.iload 4, 2) := by decide +kernel
theorem dL_areOrders_358 : decode cL_areOrders 358 = .ok (.iload 6, 2) := by decide +kernel
theorem dL_areOrders_360 : decode cL_areOrders 360 = .ok (.invokevirtual 107, 3) := by decide +kernel
theorem dL_areOrders_363 : decode cL_areOrders 363 = .ok (.if_icmp .gt 7, 3) := by decide +kernel
theorem dL_areOrders_366 : decode cL_areOrders 366 = .ok (.iconst 1, 1) := by decide +kernel
theorem dL_areOrders_367 : decode cL_areOrders 367 = .ok (.goto 4, 3) := by decide +kernel
theorem dL_areOrders_370 : decode cL_areOrders 370 = .ok (.iconst 0, 1) := by decide +kernel
theorem dL_areOrders_371 : decode cL_areOrders 371 = .ok (.istore_n 3, 1) := by decide +kernel
theorem dL_areOrders_372 : decode cL_areOrders 372 = .ok (.iinc 6 1, 3) := by decide +kernel
theorem dL_areOrders_375 : decode cL_areOrders 375 = .ok (.goto (-84), 3) := by decide +kernel
theorem dL_areOrders_378 : decode cL_areOrders 378 = .ok (.iinc 4 1, 3) := by decide +kernel
theorem dL_areOrders_381 : decode cL_areOrders 381 = .ok (.goto (-111), 3) := by decide +kernel
theorem dL_areOrders_384 : decode cL_areOrders 384 = .ok (.iload_n 3, 1) := by decide +kernel
theorem dL_areOrders_385 : decode cL_areOrders 385 = .ok (.ireturn, 1) := by decide +kernel
theorem dL_isFit_0 : decode cL_isFit 0 = .ok (.aload_n 0, 1) := by decide +kernel
theorem dL_isFit_1 : decode cL_isFit 1 = .ok (.invokestatic 170, 3) := by decide +kernel
theorem dL_isFit_4 : decode cL_isFit 4 = .ok (.ifCond .eq 28, 3) := by decide +kernel
theorem dL_isFit_7 : decode cL_isFit 7 = .ok (.aload_n 0, 1) := by decide +kernel
theorem dL_isFit_8 : decode cL_isFit 8 = .ok (.invokestatic 174, 3) := by decide +kernel
theorem dL_isFit_11 : decode cL_isFit 11 = .ok (.ifCond .eq 21, 3) := by decide +kernel
theorem dL_isFit_14 : decode cL_isFit 14 = .ok (.aload_n 0, 1) := by decide +kernel
theorem dL_isFit_15 : decode cL_isFit 15 = .ok (.invokestatic 186, 3) := by decide +kernel
theorem dL_isFit_18 : decode cL_isFit 18 = .ok (.ifCond .eq 14, 3) := by decide +kernel
theorem dL_isFit_21 : decode cL_isFit 21 = .ok (.aload_n 0, 1) := by decide +kernel
theorem dL_isFit_22 : decode cL_isFit 22 = .ok (.invokestatic 189, 3) := by decide +kernel
theorem dL_isFit_25 : decode cL_isFit 25 = .ok (.ifCond .eq 7, 3) := by decide +kernel
theorem dL_isFit_28 : decode cL_isFit 28 = .ok (.iconst 1, 1) := by decide +kernel
theorem dL_isFit_29 : decode cL_isFit 29 = .ok (.goto 4, 3) := by decide +kernel
theorem dL_isFit_32 : decode cL_isFit 32 = .ok (.iconst 0, 1) := by decide +kernel
theorem dL_isFit_33 : decode cL_isFit 33 = .ok (.istore_n 1, 1) := by decide +kernel
theorem dL_isFit_34 : decode cL_isFit 34 = .ok (.iconst 0, 1) := by decide +kernel
theorem dL_isFit_35 : decode cL_isFit 35 = .ok (.istore_n 2, 1) := by decide +kernel
theorem dL_isFit_36 : decode cL_isFit 36 = .ok (.iload_n 1, 1) := by decide +kernel
theorem dL_isFit_37 : decode cL_isFit 37 = .ok (.ifCond .eq 70, 3) := by decide +kernel
theorem dL_isFit_40 : decode cL_isFit 40 = .ok (.iload_n 2, 1) := by decide +kernel
theorem dL_isFit_41 : decode cL_isFit 41 = .ok (.aload_n 0, 1) := by decide +kernel
theorem dL_isFit_42 : decode cL_isFit 42 = .ok (.iconst 1, 1) := by decide +kernel
theorem dL_isFit_43 : decode cL_isFit 43 = .ok (.invokevirtual 89, 3) := by decide +kernel
theorem dL_isFit_46 : decode cL_isFit 46 = .ok (.if_icmp .ge 61, 3) := by decide +kernel
theorem dL_isFit_49 : decode cL_isFit 49 = .ok (.aload_n 0, 1) := by decide +kernel
theorem dL_isFit_50 : decode cL_isFit 50 = .ok (.iload_n 2, 1) := by decide +kernel
theorem dL_isFit_51 : decode cL_isFit 51 = .ok (.invokestatic 192, 3) := by decide +kernel
theorem dL_isFit_54 : decode cL_isFit 54 = .ok (.ifCond .eq 45, 3) := by decide +kernel
theorem dL_isFit_57 : decode cL_isFit 57 = .ok (.aload_n 0, 1) := by decide +kernel
theorem dL_isFit_58 : decode cL_isFit 58 = .ok (.iconst 0, 1) := by decide +kernel
theorem dL_isFit_59 : decode cL_isFit 59 = .ok (.invokevirtual 89, 3) := by decide +kernel
theorem dL_isFit_62 : decode cL_isFit 62 = .ok (.ifCond .eq 33, 3) := by decide +kernel
theorem dL_isFit_65 : decode cL_isFit 65 = .ok (.aload_n 0, 1) := by decide +kernel
theorem dL_isFit_66 : decode cL_isFit 66 = .ok (.iload_n 2, 1) := by decide +kernel
theorem dL_isFit_67 : decode cL_isFit 67 = .ok (.iload_n 2, 1) := by decide +kernel
theorem dL_isFit_68 : decode cL_isFit 68 = .ok (.aload_n 0, 1) := by decide +kernel
theorem dL_isFit_69 : decode cL_isFit 69 = .ok (.iconst 0, 1) := by decide +kernel
theorem dL_isFit_70 : decode cL_isFit 70 = .ok (.invokevirtual 89, 3) := by decide +kernel
theorem dL_isFit_73 : decode cL_isFit 73 = .ok (.irem, 1) := by decide +kernel
theorem dL_isFit_74 : decode cL_isFit 74 = .ok (.invokestatic 196, 3) := by decide +kernel
theorem dL_isFit_77 : decode cL_isFit 77 = .ok (.ifCond .eq 22, 3) := by decide +kernel
theorem dL_isFit_80 : decode cL_isFit 80 = .ok (.aload_n 0, 1) := by decide +kernel
theorem dL_isFit_81 : decode cL_isFit 81 = .ok (.iload_n 2, 1) := by decide +kernel
theorem dL_isFit_82 : decode cL_isFit 82 = .ok (.aload_n 0, 1) := by decide +kernel
theorem dL_isFit_83 : decode cL_isFit 83 = .ok (.iconst 0, 1) := by decide +kernel
theorem dL_isFit_84 : decode cL_isFit 84 = .ok (.invokevirtual 89, 3) := by decide +kernel
theorem dL_isFit_87 : decode cL_isFit 87 = .ok (.iconst 1, 1) := by decide +kernel
theorem dL_isFit_88 : decode cL_isFit 88 = .ok (.isub, 1) := by decide +kernel
theorem dL_isFit_89 : decode cL_isFit 89 = .ok (.invokestatic 196, 3) := by decide +kernel
theorem dL_isFit_92 : decode cL_isFit 92 = .ok (.ifCond .eq 7, 3) := by decide +kernel
theorem dL_isFit_95 : decode cL_isFit 95 = .ok (.iconst 1, 1) := by decide +kernel
theorem dL_isFit_96 : decode cL_isFit 96 = .ok (.goto 4, 3) := by decide +kernel
theorem dL_isFit_99 : decode cL_isFit 99 = .ok (.iconst 0, 1) := by decide +kernel
theorem dL_isFit_100 : decode cL_isFit 100 = .ok (.istore_n 1, 1) := by decide +kernel
theorem dL_isFit_101 : decode cL_isFit 101 = .ok (.iinc 2 1, 3) := by decide +kernel
theorem dL_isFit_104 : decode cL_isFit 104 = .ok (.goto (-68), 3) := by decide +kernel
theorem dL_isFit_107 : decode cL_isFit 107 = .ok (.iload_n 1, 1) := by decide +kernel
theorem dL_isFit_108 : decode cL_isFit 108 = .ok (.ireturn, 1) := by decide +kernel
theorem dL_law_0 : decode cL_law 0 = .ok (.new 1, 3) := by decide +kernel
theorem dL_law_3 : decode cL_law 3 = .ok (.dup, 1) := by decide +kernel
theorem dL_law_4 : decode cL_law 4 = .ok (.invokespecial 200, 3) := by decide +kernel
theorem dL_law_7 : decode cL_law 7 = .ok (.astore_n 1, 1) := by decide +kernel
theorem dL_law_8 : decode cL_law 8 = .ok (.iconst 0, 1) := by decide +kernel
theorem dL_law_9 : decode cL_law 9 = .ok (.istore_n 2, 1) := by decide +kernel
theorem dL_law_10 : decode cL_law 10 = .ok (.iload_n 2, 1) := by decide +kernel
theorem dL_law_11 : decode cL_law 11 = .ok (.iconst 5, 1) := by decide +kernel
theorem dL_law_12 : decode cL_law 12 = .ok (.if_icmp .ge 20, 3) := by decide +kernel
theorem dL_law_15 : decode cL_law 15 = .ok (.aload_n 1, 1) := by decide +kernel
theorem dL_law_16 : decode cL_law 16 = .ok (.iconst 3, 1) := by decide +kernel
theorem dL_law_17 : decode cL_law 17 = .ok (.iload_n 2, 1) := by decide +kernel
theorem dL_law_18 : decode cL_law 18 = .ok (.iadd, 1) := by decide +kernel
theorem dL_law_19 : decode cL_law 19 = .ok (.iload_n 2, 1) := by decide +kernel
theorem dL_law_20 : decode cL_law 20 = .ok (.iconst 3, 1) := by decide +kernel
theorem dL_law_21 : decode cL_law 21 = .ok (.irem, 1) := by decide +kernel
theorem dL_law_22 : decode cL_law 22 = .ok (.invokevirtual 24, 3) := by decide +kernel
theorem dL_law_25 : decode cL_law 25 = .ok (.pop, 1) := by decide +kernel
theorem dL_law_26 : decode cL_law 26 = .ok (.iinc 2 1, 3) := by decide +kernel
theorem dL_law_29 : decode cL_law 29 = .ok (.goto (-19), 3) := by decide +kernel
theorem dL_law_32 : decode cL_law 32 = .ok (.iconst 0, 1) := by decide +kernel
theorem dL_law_33 : decode cL_law 33 = .ok (.istore_n 2, 1) := by decide +kernel
theorem dL_law_34 : decode cL_law 34 = .ok (.iload_n 2, 1) := by decide +kernel
theorem dL_law_35 : decode cL_law 35 = .ok (.iconst 3, 1) := by decide +kernel
theorem dL_law_36 : decode cL_law 36 = .ok (.if_icmp .ge 55, 3) := by decide +kernel
theorem dL_law_39 : decode cL_law 39 = .ok (.aload_n 1, 1) := by decide +kernel
theorem dL_law_40 : decode cL_law 40 = .ok (.bipush 6, 2) := by decide +kernel
theorem dL_law_42 : decode cL_law 42 = .ok (.iload_n 2, 1) := by decide +kernel
theorem dL_law_43 : decode cL_law 43 = .ok (.imul, 1) := by decide +kernel
theorem dL_law_44 : decode cL_law 44 = .ok (.invokevirtual 28, 3) := by decide +kernel
theorem dL_law_47 : decode cL_law 47 = .ok (.pop, 1) := by decide +kernel
theorem dL_law_48 : decode cL_law 48 = .ok (.aload_n 1, 1) := by decide +kernel
theorem dL_law_49 : decode cL_law 49 = .ok (.iload_n 2, 1) := by decide +kernel
theorem dL_law_50 : decode cL_law 50 = .ok (.iload_n 2, 1) := by decide +kernel
theorem dL_law_51 : decode cL_law 51 = .ok (.iconst 1, 1) := by decide +kernel
theorem dL_law_52 : decode cL_law 52 = .ok (.iadd, 1) := by decide +kernel
theorem dL_law_53 : decode cL_law 53 = .ok (.invokevirtual 35, 3) := by decide +kernel
theorem dL_law_56 : decode cL_law 56 = .ok (.pop, 1) := by decide +kernel
theorem dL_law_57 : decode cL_law 57 = .ok (.aload_n 1, 1) := by decide +kernel
theorem dL_law_58 : decode cL_law 58 = .ok (.iload_n 2, 1) := by decide +kernel
theorem dL_law_59 : decode cL_law 59 = .ok (.iload_n 2, 1) := by decide +kernel
theorem dL_law_60 : decode cL_law 60 = .ok (.iconst 1, 1) := by decide +kernel
theorem dL_law_61 : decode cL_law 61 = .ok (.iadd, 1) := by decide +kernel
theorem dL_law_62 : decode cL_law 62 = .ok (.iload_n 2, 1) := by decide +kernel
theorem dL_law_63 : decode cL_law 63 = .ok (.invokevirtual 47, 3) := by decide +kernel
theorem dL_law_66 : decode cL_law 66 = .ok (.pop, 1) := by decide +kernel
theorem dL_law_67 : decode cL_law 67 = .ok (.aload_n 1, 1) := by decide +kernel
theorem dL_law_68 : decode cL_law 68 = .ok (.iload_n 2, 1) := by decide +kernel
theorem dL_law_69 : decode cL_law 69 = .ok (.iconst 4, 1) := by decide +kernel
theorem dL_law_70 : decode cL_law 70 = .ok (.invokevirtual 35, 3) := by decide +kernel
theorem dL_law_73 : decode cL_law 73 = .ok (.pop, 1) := by decide +kernel
theorem dL_law_74 : decode cL_law 74 = .ok (.aload_n 1, 1) := by decide +kernel
theorem dL_law_75 : decode cL_law 75 = .ok (.iload_n 2, 1) := by decide +kernel
theorem dL_law_76 : decode cL_law 76 = .ok (.iconst 4, 1) := by decide +kernel
theorem dL_law_77 : decode cL_law 77 = .ok (.bipush 9, 2) := by decide +kernel
theorem dL_law_79 : decode cL_law 79 = .ok (.iload_n 2, 1) := by decide +kernel
theorem dL_law_80 : decode cL_law 80 = .ok (.isub, 1) := by decide +kernel
theorem dL_law_81 : decode cL_law 81 = .ok (.invokevirtual 47, 3) := by decide +kernel
theorem dL_law_84 : decode cL_law 84 = .ok (.pop, 1) := by decide +kernel
theorem dL_law_85 : decode cL_law 85 = .ok (.iinc 2 1, 3) := by decide +kernel
theorem dL_law_88 : decode cL_law 88 = .ok (.goto (-54), 3) := by decide +kernel
theorem dL_law_91 : decode cL_law 91 = .ok (.aload_n 1, 1) := by decide +kernel
theorem dL_law_92 : decode cL_law 92 = .ok (.iconst 2, 1) := by decide +kernel
theorem dL_law_93 : decode cL_law 93 = .ok (.iconst 0, 1) := by decide +kernel
theorem dL_law_94 : decode cL_law 94 = .ok (.invokevirtual 38, 3) := by decide +kernel
theorem dL_law_97 : decode cL_law 97 = .ok (.pop, 1) := by decide +kernel
theorem dL_law_98 : decode cL_law 98 = .ok (.aload_n 0, 1) := by decide +kernel
theorem dL_law_99 : decode cL_law 99 = .ok (.arraylength, 1) := by decide +kernel
theorem dL_law_100 : decode cL_law 100 = .ok (.bipush 36, 2) := by decide +kernel
theorem dL_law_102 : decode cL_law 102 = .ok (.if_icmp .ge 8, 3) := by decide +kernel
theorem dL_law_105 : decode cL_law 105 = .ok (.aload_n 0, 1) := by decide +kernel
theorem dL_law_106 : decode cL_law 106 = .ok (.arraylength, 1) := by decide +kernel
theorem dL_law_107 : decode cL_law 107 = .ok (.goto 5, 3) := by decide +kernel
theorem dL_law_110 : decode cL_law 110 = .ok (.bipush 36, 2) := by decide +kernel
theorem dL_law_112 : decode cL_law 112 = .ok (.istore_n 2, 1) := by decide +kernel
theorem dL_law_113 : decode cL_law 113 = .ok (.iconst 0, 1) := by decide +kernel
theorem dL_law_114 : decode cL_law 114 = .ok (.istore_n 3, 1) := by decide +kernel
theorem dL_law_115 : decode cL_law 115 = .ok (.iload_n 3, 1) := by decide +kernel
theorem dL_law_116 : decode cL_law 116 = .ok (.iload_n 2, 1) := by decide +kernel
theorem dL_law_117 : decode cL_law 117 = .ok (.if_icmp .ge 58, 3) := by decide +kernel
theorem dL_law_120 : decode cL_law 120 = .ok (.aload_n 1, 1) := by decide +kernel
theorem dL_law_121 : decode cL_law 121 = .ok (.invokestatic 151, 3) := by decide +kernel
theorem dL_law_124 : decode cL_law 124 = .ok (.lstore 4, 2) := by decide +kernel
theorem dL_law_126 : decode cL_law 126 = .ok (.aload_n 1, 1) := by decide +kernel
theorem dL_law_127 : decode cL_law 127 = .ok (.aload_n 0, 1) := by decide +kernel
theorem dL_law_128 : decode cL_law 128 = .ok (.iload_n 3, 1) := by decide +kernel
theorem dL_law_129 : decode cL_law 129 = .ok (.invokestatic 201, 3) := by decide +kernel
theorem dL_law_132 : decode cL_law 132 = .ok (.invokestatic 205, 3) := by decide +kernel
theorem dL_law_135 : decode cL_law 135 = .ok (.istore 6, 2) := by decide +kernel
theorem dL_law_137 : decode cL_law 137 = .ok (.iload 6, 2) := by decide +kernel
theorem dL_law_139 : decode cL_law 139 = .ok (.bipush (-3), 2) := by decide +kernel
theorem dL_law_141 : decode cL_law 141 = .ok (.if_icmp .eq 16, 3) := by decide +kernel
theorem dL_law_144 : decode cL_law 144 = .ok (.iload 6, 2) := by decide +kernel
theorem dL_law_146 : decode cL_law 146 = .ok (.bipush (-2), 2) := by decide +kernel
theorem dL_law_148 : decode cL_law 148 = .ok (.if_icmp .eq 9, 3) := by decide +kernel
theorem dL_law_151 : decode cL_law 151 = .ok (.iload 6, 2) := by decide +kernel
theorem dL_law_153 : decode cL_law 153 = .ok (.iconst (-1), 1) := by decide +kernel
theorem dL_law_154 : decode cL_law 154 = .ok (.if_icmp .ne 15, 3) := by decide +kernel
theorem dL_law_157 : decode cL_law 157 = .ok (.aload_n 1, 1) := by decide +kernel
theorem dL_law_158 : decode cL_law 158 = .ok (.invokestatic 151, 3) := by decide +kernel
theorem dL_law_161 : decode cL_law 161 = .ok (.lload 4, 2) := by decide +kernel
theorem dL_law_163 : decode cL_law 163 = .ok (.lcmp, 1) := by decide +kernel
theorem dL_law_164 : decode cL_law 164 = .ok (.ifCond .eq 5, 3) := by decide +kernel
theorem dL_law_167 : decode cL_law 167 = .ok (.iconst 0, 1) := by decide +kernel
theorem dL_law_168 : decode cL_law 168 = .ok (.ireturn, 1) := by decide +kernel
theorem dL_law_169 : decode cL_law 169 = .ok (.iinc 3 1, 3) := by decide +kernel
theorem dL_law_172 : decode cL_law 172 = .ok (.goto (-57), 3) := by decide +kernel
theorem dL_law_175 : decode cL_law 175 = .ok (.aload_n 1, 1) := by decide +kernel
theorem dL_law_176 : decode cL_law 176 = .ok (.invokestatic 209, 3) := by decide +kernel
theorem dL_law_179 : decode cL_law 179 = .ok (.istore_n 3, 1) := by decide +kernel
theorem dL_law_180 : decode cL_law 180 = .ok (.aload_n 1, 1) := by decide +kernel
theorem dL_law_181 : decode cL_law 181 = .ok (.invokevirtual 73, 3) := by decide +kernel
theorem dL_law_184 : decode cL_law 184 = .ok (.pop, 1) := by decide +kernel
