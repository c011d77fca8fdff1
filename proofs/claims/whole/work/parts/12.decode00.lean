theorem d_X_init_0 : decode b_X_init 0 = .ok (.aload_n 0, 1) := by decide +kernel
theorem d_X_init_1 : decode b_X_init 1 = .ok (.invokespecial 1, 3) := by decide +kernel
theorem d_X_init_4 : decode b_X_init 4 = .ok (.aload_n 0, 1) := by decide +kernel
theorem d_X_init_5 : decode b_X_init 5 = .ok (.sipush 8192, 3) := by decide +kernel
theorem d_X_init_8 : decode b_X_init 8 = .ok (.newarray .byte, 2) := by decide +kernel
theorem d_X_init_10 : decode b_X_init 10 = .ok (.putfield 9, 3) := by decide +kernel
theorem d_X_init_13 : decode b_X_init 13 = .ok (.aload_n 0, 1) := by decide +kernel
theorem d_X_init_14 : decode b_X_init 14 = .ok (.iconst 0, 1) := by decide +kernel
theorem d_X_init_15 : decode b_X_init 15 = .ok (.putfield 13, 3) := by decide +kernel
theorem d_X_init_18 : decode b_X_init 18 = .ok (.aload_n 0, 1) := by decide +kernel
theorem d_X_init_19 : decode b_X_init 19 = .ok (.new 17, 3) := by decide +kernel
theorem d_X_init_22 : decode b_X_init 22 = .ok (.dup, 1) := by decide +kernel
theorem d_X_init_23 : decode b_X_init 23 = .ok (.sipush 8192, 3) := by decide +kernel
theorem d_X_init_26 : decode b_X_init 26 = .ok (.invokespecial 19, 3) := by decide +kernel
theorem d_X_init_29 : decode b_X_init 29 = .ok (.putfield 22, 3) := by decide +kernel
theorem d_X_init_32 : decode b_X_init 32 = .ok (.aload_n 0, 1) := by decide +kernel
theorem d_X_init_33 : decode b_X_init 33 = .ok (.new 26, 3) := by decide +kernel
theorem d_X_init_36 : decode b_X_init 36 = .ok (.dup, 1) := by decide +kernel
theorem d_X_init_37 : decode b_X_init 37 = .ok (.invokespecial 28, 3) := by decide +kernel
theorem d_X_init_40 : decode b_X_init 40 = .ok (.putfield 29, 3) := by decide +kernel
theorem d_X_init_43 : decode b_X_init 43 = .ok (.aload_n 0, 1) := by decide +kernel
theorem d_X_init_44 : decode b_X_init 44 = .ok (.new 33, 3) := by decide +kernel
theorem d_X_init_47 : decode b_X_init 47 = .ok (.dup, 1) := by decide +kernel
theorem d_X_init_48 : decode b_X_init 48 = .ok (.sipush 255, 3) := by decide +kernel
theorem d_X_init_51 : decode b_X_init 51 = .ok (.invokespecial 35, 3) := by decide +kernel
theorem d_X_init_54 : decode b_X_init 54 = .ok (.putfield 36, 3) := by decide +kernel
theorem d_X_init_57 : decode b_X_init 57 = .ok (.aload_n 0, 1) := by decide +kernel
theorem d_X_init_58 : decode b_X_init 58 = .ok (.new 40, 3) := by decide +kernel
theorem d_X_init_61 : decode b_X_init 61 = .ok (.dup, 1) := by decide +kernel
theorem d_X_init_62 : decode b_X_init 62 = .ok (.sipush 8192, 3) := by decide +kernel
theorem d_X_init_65 : decode b_X_init 65 = .ok (.invokespecial 42, 3) := by decide +kernel
theorem d_X_init_68 : decode b_X_init 68 = .ok (.putfield 43, 3) := by decide +kernel
theorem d_X_init_71 : decode b_X_init 71 = .ok (.aload_n 0, 1) := by decide +kernel
theorem d_X_init_72 : decode b_X_init 72 = .ok (.iconst 0, 1) := by decide +kernel
theorem d_X_init_73 : decode b_X_init 73 = .ok (.putfield 47, 3) := by decide +kernel
theorem d_X_init_76 : decode b_X_init 76 = .ok (.return_, 1) := by decide +kernel
theorem d_Te_init_0 : decode b_Te_init 0 = .ok (.aload_n 0, 1) := by decide +kernel
theorem d_Te_init_1 : decode b_Te_init 1 = .ok (.invokespecial 1, 3) := by decide +kernel
theorem d_Te_init_4 : decode b_Te_init 4 = .ok (.aload_n 0, 1) := by decide +kernel
theorem d_Te_init_5 : decode b_Te_init 5 = .ok (.iconst 0, 1) := by decide +kernel
theorem d_Te_init_6 : decode b_Te_init 6 = .ok (.putfield 7, 3) := by decide +kernel
theorem d_Te_init_9 : decode b_Te_init 9 = .ok (.aload_n 0, 1) := by decide +kernel
theorem d_Te_init_10 : decode b_Te_init 10 = .ok (.iload_n 1, 1) := by decide +kernel
theorem d_Te_init_11 : decode b_Te_init 11 = .ok (.newarray .int, 2) := by decide +kernel
theorem d_Te_init_13 : decode b_Te_init 13 = .ok (.putfield 13, 3) := by decide +kernel
theorem d_Te_init_16 : decode b_Te_init 16 = .ok (.return_, 1) := by decide +kernel
theorem d_Si_init_0 : decode b_Si_init 0 = .ok (.aload_n 0, 1) := by decide +kernel
theorem d_Si_init_1 : decode b_Si_init 1 = .ok (.invokespecial 1, 3) := by decide +kernel
theorem d_Si_init_4 : decode b_Si_init 4 = .ok (.aload_n 0, 1) := by decide +kernel
theorem d_Si_init_5 : decode b_Si_init 5 = .ok (.bipush 33, 2) := by decide +kernel
theorem d_Si_init_7 : decode b_Si_init 7 = .ok (.newarray .int, 2) := by decide +kernel
theorem d_Si_init_9 : decode b_Si_init 9 = .ok (.putfield 9, 3) := by decide +kernel
theorem d_Si_init_12 : decode b_Si_init 12 = .ok (.iconst 0, 1) := by decide +kernel
theorem d_Si_init_13 : decode b_Si_init 13 = .ok (.istore_n 1, 1) := by decide +kernel
theorem d_Si_init_14 : decode b_Si_init 14 = .ok (.iconst 0, 1) := by decide +kernel
theorem d_Si_init_15 : decode b_Si_init 15 = .ok (.istore_n 2, 1) := by decide +kernel
theorem d_Si_init_16 : decode b_Si_init 16 = .ok (.iconst 0, 1) := by decide +kernel
theorem d_Si_init_17 : decode b_Si_init 17 = .ok (.istore_n 3, 1) := by decide +kernel
theorem d_Si_init_18 : decode b_Si_init 18 = .ok (.iload_n 3, 1) := by decide +kernel
theorem d_Si_init_19 : decode b_Si_init 19 = .ok (.ldc 13, 2) := by decide +kernel
theorem d_Si_init_21 : decode b_Si_init 21 = .ok (.invokevirtual 15, 3) := by decide +kernel
theorem d_Si_init_24 : decode b_Si_init 24 = .ok (.if_icmp .ge 52, 3) := by decide +kernel
theorem d_Si_init_27 : decode b_Si_init 27 = .ok (.iload_n 1, 1) := by decide +kernel
theorem d_Si_init_28 : decode b_Si_init 28 = .ok (.bipush 33, 2) := by decide +kernel
theorem d_Si_init_30 : decode b_Si_init 30 = .ok (.if_icmp .ge 46, 3) := by decide +kernel
theorem d_Si_init_33 : decode b_Si_init 33 = .ok (.ldc 13, 2) := by decide +kernel
theorem d_Si_init_35 : decode b_Si_init 35 = .ok (.iload_n 3, 1) := by decide +kernel
theorem d_Si_init_36 : decode b_Si_init 36 = .ok (.invokevirtual 21, 3) := by decide +kernel
theorem d_Si_init_39 : decode b_Si_init 39 = .ok (.bipush 32, 2) := by decide +kernel
theorem d_Si_init_41 : decode b_Si_init 41 = .ok (.if_icmp .ne 18, 3) := by decide +kernel
theorem d_Si_init_44 : decode b_Si_init 44 = .ok (.aload_n 0, 1) := by decide +kernel
theorem d_Si_init_45 : decode b_Si_init 45 = .ok (.getfield 9, 3) := by decide +kernel
theorem d_Si_init_48 : decode b_Si_init 48 = .ok (.iload_n 1, 1) := by decide +kernel
theorem d_Si_init_49 : decode b_Si_init 49 = .ok (.iload_n 2, 1) := by decide +kernel
theorem d_Si_init_50 : decode b_Si_init 50 = .ok (.iastore, 1) := by decide +kernel
theorem d_Si_init_51 : decode b_Si_init 51 = .ok (.iinc 1 1, 3) := by decide +kernel
theorem d_Si_init_54 : decode b_Si_init 54 = .ok (.iconst 0, 1) := by decide +kernel
theorem d_Si_init_55 : decode b_Si_init 55 = .ok (.istore_n 2, 1) := by decide +kernel
theorem d_Si_init_56 : decode b_Si_init 56 = .ok (.goto 14, 3) := by decide +kernel
theorem d_Si_init_59 : decode b_Si_init 59 = .ok (.iload_n 2, 1) := by decide +kernel
theorem d_Si_init_60 : decode b_Si_init 60 = .ok (.ldc 13, 2) := by decide +kernel
theorem d_Si_init_62 : decode b_Si_init 62 = .ok (.iload_n 3, 1) := by decide +kernel
theorem d_Si_init_63 : decode b_Si_init 63 = .ok (.invokevirtual 21, 3) := by decide +kernel
theorem d_Si_init_66 : decode b_Si_init 66 = .ok (.invokestatic 25, 3) := by decide +kernel
theorem d_Si_init_69 : decode b_Si_init 69 = .ok (.istore_n 2, 1) := by decide +kernel
theorem d_Si_init_70 : decode b_Si_init 70 = .ok (.iinc 3 1, 3) := by decide +kernel
theorem d_Si_init_73 : decode b_Si_init 73 = .ok (.goto (-55), 3) := by decide +kernel
theorem d_Si_init_76 : decode b_Si_init 76 = .ok (.return_, 1) := by decide +kernel
theorem d_Str_length_0 : decode b_Str_length 0 = .ok (.aload_n 0, 1) := by decide +kernel
theorem d_Str_length_1 : decode b_Str_length 1 = .ok (.getfield 9, 3) := by decide +kernel
theorem d_Str_length_4 : decode b_Str_length 4 = .ok (.arraylength, 1) := by decide +kernel
theorem d_Str_length_5 : decode b_Str_length 5 = .ok (.aload_n 0, 1) := by decide +kernel
theorem d_Str_length_6 : decode b_Str_length 6 = .ok (.invokevirtual 335, 3) := by decide +kernel
theorem d_Str_length_9 : decode b_Str_length 9 = .ok (.ishr, 1) := by decide +kernel
theorem d_Str_length_10 : decode b_Str_length 10 = .ok (.ireturn, 1) := by decide +kernel
theorem d_Str_coder_0 : decode b_Str_coder 0 = .ok (.getstatic 38, 3) := by decide +kernel
theorem d_Str_coder_3 : decode b_Str_coder 3 = .ok (.ifCond .eq 10, 3) := by decide +kernel
theorem d_Str_coder_6 : decode b_Str_coder 6 = .ok (.aload_n 0, 1) := by decide +kernel
theorem d_Str_coder_7 : decode b_Str_coder 7 = .ok (.getfield 15, 3) := by decide +kernel
theorem d_Str_coder_10 : decode b_Str_coder 10 = .ok (.goto 4, 3) := by decide +kernel
theorem d_Str_coder_13 : decode b_Str_coder 13 = .ok (.iconst 1, 1) := by decide +kernel
theorem d_Str_coder_14 : decode b_Str_coder 14 = .ok (.ireturn, 1) := by decide +kernel
theorem d_Str_charAt_0 : decode b_Str_charAt 0 = .ok (.aload_n 0, 1) := by decide +kernel
theorem d_Str_charAt_1 : decode b_Str_charAt 1 = .ok (.invokevirtual 492, 3) := by decide +kernel
theorem d_Str_charAt_4 : decode b_Str_charAt 4 = .ok (.ifCond .eq 12, 3) := by decide +kernel
theorem d_Str_charAt_7 : decode b_Str_charAt 7 = .ok (.aload_n 0, 1) := by decide +kernel
theorem d_Str_charAt_8 : decode b_Str_charAt 8 = .ok (.getfield 9, 3) := by decide +kernel
theorem d_Str_charAt_11 : decode b_Str_charAt 11 = .ok (.iload_n 1, 1) := by decide +kernel
theorem d_Str_charAt_12 : decode b_Str_charAt 12 = .ok (.invokestatic 495, 3) := by decide +kernel
theorem d_Str_charAt_15 : decode b_Str_charAt 15 = .ok (.ireturn, 1) := by decide +kernel
theorem d_Str_charAt_16 : decode b_Str_charAt 16 = .ok (.aload_n 0, 1) := by decide +kernel
theorem d_Str_charAt_17 : decode b_Str_charAt 17 = .ok (.getfield 9, 3) := by decide +kernel
theorem d_Str_charAt_20 : decode b_Str_charAt 20 = .ok (.iload_n 1, 1) := by decide +kernel
theorem d_Str_charAt_21 : decode b_Str_charAt 21 = .ok (.invokestatic 498, 3) := by decide +kernel
theorem d_Str_charAt_24 : decode b_Str_charAt 24 = .ok (.ireturn, 1) := by decide +kernel
theorem d_Str_isLatin1_0 : decode b_Str_isLatin1 0 = .ok (.getstatic 38, 3) := by decide +kernel
theorem d_Str_isLatin1_3 : decode b_Str_isLatin1 3 = .ok (.ifCond .eq 14, 3) := by decide +kernel
theorem d_Str_isLatin1_6 : decode b_Str_isLatin1 6 = .ok (.aload_n 0, 1) := by decide +kernel
theorem d_Str_isLatin1_7 : decode b_Str_isLatin1 7 = .ok (.getfield 15, 3) := by decide +kernel
theorem d_Str_isLatin1_10 : decode b_Str_isLatin1 10 = .ok (.ifCond .ne 7, 3) := by decide +kernel
theorem d_Str_isLatin1_13 : decode b_Str_isLatin1 13 = .ok (.iconst 1, 1) := by decide +kernel
theorem d_Str_isLatin1_14 : decode b_Str_isLatin1 14 = .ok (.goto 4, 3) := by decide +kernel
theorem d_Str_isLatin1_17 : decode b_Str_isLatin1 17 = .ok (.iconst 0, 1) := by decide +kernel
theorem d_Str_isLatin1_18 : decode b_Str_isLatin1 18 = .ok (.ireturn, 1) := by decide +kernel
theorem d_Lat_charAt_0 : decode b_Lat_charAt 0 = .ok (.iload_n 1, 1) := by decide +kernel
theorem d_Lat_charAt_1 : decode b_Lat_charAt 1 = .ok (.aload_n 0, 1) := by decide +kernel
theorem d_Lat_charAt_2 : decode b_Lat_charAt 2 = .ok (.arraylength, 1) := by decide +kernel
theorem d_Lat_charAt_3 : decode b_Lat_charAt 3 = .ok (.invokestatic 9, 3) := by decide +kernel
theorem d_Lat_charAt_6 : decode b_Lat_charAt 6 = .ok (.aload_n 0, 1) := by decide +kernel
theorem d_Lat_charAt_7 : decode b_Lat_charAt 7 = .ok (.iload_n 1, 1) := by decide +kernel
theorem d_Lat_charAt_8 : decode b_Lat_charAt 8 = .ok (.baload, 1) := by decide +kernel
theorem d_Lat_charAt_9 : decode b_Lat_charAt 9 = .ok (.sipush 255, 3) := by decide +kernel
theorem d_Lat_charAt_12 : decode b_Lat_charAt 12 = .ok (.iand, 1) := by decide +kernel
theorem d_Lat_charAt_13 : decode b_Lat_charAt 13 = .ok (.i2c, 1) := by decide +kernel
theorem d_Lat_charAt_14 : decode b_Lat_charAt 14 = .ok (.ireturn, 1) := by decide +kernel
theorem d_Str_checkIndex_0 : decode b_Str_checkIndex 0 = .ok (.iload_n 0, 1) := by decide +kernel
theorem d_Str_checkIndex_1 : decode b_Str_checkIndex 1 = .ok (.iload_n 1, 1) := by decide +kernel
theorem d_Str_checkIndex_2 : decode b_Str_checkIndex 2 = .ok (.getstatic 1053, 3) := by decide +kernel
theorem d_Str_checkIndex_5 : decode b_Str_checkIndex 5 = .ok (.invokestatic 1059, 3) := by decide +kernel
theorem d_Str_checkIndex_8 : decode b_Str_checkIndex 8 = .ok (.pop, 1) := by decide +kernel
theorem d_Str_checkIndex_9 : decode b_Str_checkIndex 9 = .ok (.return_, 1) := by decide +kernel
theorem d_Pre_checkIndex_0 : decode b_Pre_checkIndex 0 = .ok (.iload_n 0, 1) := by decide +kernel
theorem d_Pre_checkIndex_1 : decode b_Pre_checkIndex 1 = .ok (.ifCond .lt 8, 3) := by decide +kernel
theorem d_Pre_checkIndex_4 : decode b_Pre_checkIndex 4 = .ok (.iload_n 0, 1) := by decide +kernel
theorem d_Pre_checkIndex_5 : decode b_Pre_checkIndex 5 = .ok (.iload_n 1, 1) := by decide +kernel
theorem d_Pre_checkIndex_6 : decode b_Pre_checkIndex 6 = .ok (.if_icmp .lt 10, 3) := by decide +kernel
theorem d_Pre_checkIndex_9 : decode b_Pre_checkIndex 9 = .ok (.aload_n 2, 1) := by decide +kernel
theorem d_Pre_checkIndex_10 : decode b_Pre_checkIndex 10 = .ok (.iload_n 0, 1) := by decide +kernel
theorem d_Pre_checkIndex_11 : decode b_Pre_checkIndex 11 = .ok (.iload_n 1, 1) := by decide +kernel
theorem d_Pre_checkIndex_12 : decode b_Pre_checkIndex 12 = .ok (.invokestatic 95, 3) := by decide +kernel
theorem d_Pre_checkIndex_15 : decode b_Pre_checkIndex 15 = .ok (.athrow, 1) := by decide +kernel
theorem d_Pre_checkIndex_16 : decode b_Pre_checkIndex 16 = .ok (.iload_n 0, 1) := by decide +kernel
theorem d_Pre_checkIndex_17 : decode b_Pre_checkIndex 17 = .ok (.ireturn, 1) := by decide +kernel
theorem d_U16_charAt_0 : decode b_U16_charAt 0 = .ok (.iload_n 1, 1) := by decide +kernel
theorem d_U16_charAt_1 : decode b_U16_charAt 1 = .ok (.aload_n 0, 1) := by decide +kernel
theorem d_U16_charAt_2 : decode b_U16_charAt 2 = .ok (.invokestatic 67, 3) := by decide +kernel
theorem d_U16_charAt_5 : decode b_U16_charAt 5 = .ok (.aload_n 0, 1) := by decide +kernel
theorem d_U16_charAt_6 : decode b_U16_charAt 6 = .ok (.iload_n 1, 1) := by decide +kernel
theorem d_U16_charAt_7 : decode b_U16_charAt 7 = .ok (.invokestatic 71, 3) := by decide +kernel
theorem d_U16_charAt_10 : decode b_U16_charAt 10 = .ok (.ireturn, 1) := by decide +kernel
theorem d_U16_checkIndex_0 : decode b_U16_checkIndex 0 = .ok (.iload_n 0, 1) := by decide +kernel
theorem d_U16_checkIndex_1 : decode b_U16_checkIndex 1 = .ok (.aload_n 1, 1) := by decide +kernel
theorem d_U16_checkIndex_2 : decode b_U16_checkIndex 2 = .ok (.invokestatic 48, 3) := by decide +kernel
theorem d_U16_checkIndex_5 : decode b_U16_checkIndex 5 = .ok (.invokestatic 414, 3) := by decide +kernel
theorem d_U16_checkIndex_8 : decode b_U16_checkIndex 8 = .ok (.return_, 1) := by decide +kernel
theorem d_U16_length_0 : decode b_U16_length 0 = .ok (.aload_n 0, 1) := by decide +kernel
theorem d_U16_length_1 : decode b_U16_length 1 = .ok (.arraylength, 1) := by decide +kernel
theorem d_U16_length_2 : decode b_U16_length 2 = .ok (.iconst 1, 1) := by decide +kernel
theorem d_U16_length_3 : decode b_U16_length 3 = .ok (.ishr, 1) := by decide +kernel
theorem d_U16_length_4 : decode b_U16_length 4 = .ok (.ireturn, 1) := by decide +kernel
theorem d_U16_getChar_0 : decode b_U16_getChar 0 = .ok (.getstatic 44, 3) := by decide +kernel
theorem d_U16_getChar_3 : decode b_U16_getChar 3 = .ok (.ifCond .ne 25, 3) := by decide +kernel
theorem d_U16_getChar_6 : decode b_U16_getChar 6 = .ok (.iload_n 1, 1) := by decide +kernel
theorem d_U16_getChar_7 : decode b_U16_getChar 7 = .ok (.ifCond .lt 11, 3) := by decide +kernel
theorem d_U16_getChar_10 : decode b_U16_getChar 10 = .ok (.iload_n 1, 1) := by decide +kernel
theorem d_U16_getChar_11 : decode b_U16_getChar 11 = .ok (.aload_n 0, 1) := by decide +kernel
theorem d_U16_getChar_12 : decode b_U16_getChar 12 = .ok (.invokestatic 48, 3) := by decide +kernel
theorem d_U16_getChar_15 : decode b_U16_getChar 15 = .ok (.if_icmp .lt 13, 3) := by decide +kernel
theorem d_U16_getChar_18 : decode b_U16_getChar 18 = .ok (.new 52, 3) := by decide +kernel
theorem d_U16_getChar_21 : decode b_U16_getChar 21 = .ok (.dup, 1) := by decide +kernel
theorem d_U16_getChar_22 : decode b_U16_getChar 22 = .ok (.ldc 54, 2) := by decide +kernel
theorem d_U16_getChar_24 : decode b_U16_getChar 24 = .ok (.invokespecial 56, 3) := by decide +kernel
theorem d_U16_getChar_27 : decode b_U16_getChar 27 = .ok (.athrow, 1) := by decide +kernel
theorem d_U16_getChar_28 : decode b_U16_getChar 28 = .ok (.iload_n 1, 1) := by decide +kernel
theorem d_U16_getChar_29 : decode b_U16_getChar 29 = .ok (.iconst 1, 1) := by decide +kernel
theorem d_U16_getChar_30 : decode b_U16_getChar 30 = .ok (.ishl, 1) := by decide +kernel
theorem d_U16_getChar_31 : decode b_U16_getChar 31 = .ok (.istore_n 1, 1) := by decide +kernel
theorem d_U16_getChar_32 : decode b_U16_getChar 32 = .ok (.aload_n 0, 1) := by decide +kernel
theorem d_U16_getChar_33 : decode b_U16_getChar 33 = .ok (.iload_n 1, 1) := by decide +kernel
theorem d_U16_getChar_34 : decode b_U16_getChar 34 = .ok (.iinc 1 1, 3) := by decide +kernel
theorem d_U16_getChar_37 : decode b_U16_getChar 37 = .ok (.baload, 1) := by decide +kernel
theorem d_U16_getChar_38 : decode b_U16_getChar 38 = .ok (.sipush 255, 3) := by decide +kernel
theorem d_U16_getChar_41 : decode b_U16_getChar 41 = .ok (.iand, 1) := by decide +kernel
theorem d_U16_getChar_42 : decode b_U16_getChar 42 = .ok (.getstatic 59, 3) := by decide +kernel
theorem d_U16_getChar_45 : decode b_U16_getChar 45 = .ok (.ishl, 1) := by decide +kernel
theorem d_U16_getChar_46 : decode b_U16_getChar 46 = .ok (.aload_n 0, 1) := by decide +kernel
theorem d_U16_getChar_47 : decode b_U16_getChar 47 = .ok (.iload_n 1, 1) := by decide +kernel
theorem d_U16_getChar_48 : decode b_U16_getChar 48 = .ok (.baload, 1) := by decide +kernel
theorem d_U16_getChar_49 : decode b_U16_getChar 49 = .ok (.sipush 255, 3) := by decide +kernel
theorem d_U16_getChar_52 : decode b_U16_getChar 52 = .ok (.iand, 1) := by decide +kernel
theorem d_U16_getChar_53 : decode b_U16_getChar 53 = .ok (.getstatic 63, 3) := by decide +kernel
theorem d_U16_getChar_56 : decode b_U16_getChar 56 = .ok (.ishl, 1) := by decide +kernel
theorem d_U16_getChar_57 : decode b_U16_getChar 57 = .ok (.ior, 1) := by decide +kernel
theorem d_U16_getChar_58 : decode b_U16_getChar 58 = .ok (.i2c, 1) := by decide +kernel
theorem d_U16_getChar_59 : decode b_U16_getChar 59 = .ok (.ireturn, 1) := by decide +kernel
theorem d_Si_withLetter_0 : decode b_Si_withLetter 0 = .ok (.iload_n 0, 1) := by decide +kernel
theorem d_Si_withLetter_1 : decode b_Si_withLetter 1 = .ok (.bipush 32, 2) := by decide +kernel
theorem d_Si_withLetter_3 : decode b_Si_withLetter 3 = .ok (.imul, 1) := by decide +kernel
theorem d_Si_withLetter_4 : decode b_Si_withLetter 4 = .ok (.iload_n 1, 1) := by decide +kernel
theorem d_Si_withLetter_5 : decode b_Si_withLetter 5 = .ok (.iadd, 1) := by decide +kernel
theorem d_Si_withLetter_6 : decode b_Si_withLetter 6 = .ok (.bipush 97, 2) := by decide +kernel
theorem d_Si_withLetter_8 : decode b_Si_withLetter 8 = .ok (.isub, 1) := by decide +kernel
theorem d_Si_withLetter_9 : decode b_Si_withLetter 9 = .ok (.iconst 1, 1) := by decide +kernel
theorem d_Si_withLetter_10 : decode b_Si_withLetter 10 = .ok (.iadd, 1) := by decide +kernel
theorem d_Si_withLetter_11 : decode b_Si_withLetter 11 = .ok (.ireturn, 1) := by decide +kernel
theorem d_Sm_init_0 : decode b_Sm_init 0 = .ok (.aload_n 0, 1) := by decide +kernel
theorem d_Sm_init_1 : decode b_Sm_init 1 = .ok (.invokespecial 1, 3) := by decide +kernel
theorem d_Sm_init_4 : decode b_Sm_init 4 = .ok (.aload_n 0, 1) := by decide +kernel
theorem d_Sm_init_5 : decode b_Sm_init 5 = .ok (.iconst 4, 1) := by decide +kernel
theorem d_Sm_init_6 : decode b_Sm_init 6 = .ok (.anewarray 7, 3) := by decide +kernel
theorem d_Sm_init_9 : decode b_Sm_init 9 = .ok (.dup, 1) := by decide +kernel
theorem d_Sm_init_10 : decode b_Sm_init 10 = .ok (.iconst 0, 1) := by decide +kernel
theorem d_Sm_init_11 : decode b_Sm_init 11 = .ok (.new 7, 3) := by decide +kernel
theorem d_Sm_init_14 : decode b_Sm_init 14 = .ok (.dup, 1) := by decide +kernel
theorem d_Sm_init_15 : decode b_Sm_init 15 = .ok (.ldc 9, 2) := by decide +kernel
theorem d_Sm_init_17 : decode b_Sm_init 17 = .ok (.ldc 11, 2) := by decide +kernel
theorem d_Sm_init_19 : decode b_Sm_init 19 = .ok (.invokespecial 13, 3) := by decide +kernel
theorem d_Sm_init_22 : decode b_Sm_init 22 = .ok (.aastore, 1) := by decide +kernel
theorem d_Sm_init_23 : decode b_Sm_init 23 = .ok (.dup, 1) := by decide +kernel
theorem d_Sm_init_24 : decode b_Sm_init 24 = .ok (.iconst 1, 1) := by decide +kernel
theorem d_Sm_init_25 : decode b_Sm_init 25 = .ok (.new 7, 3) := by decide +kernel
theorem d_Sm_init_28 : decode b_Sm_init 28 = .ok (.dup, 1) := by decide +kernel
theorem d_Sm_init_29 : decode b_Sm_init 29 = .ok (.ldc 16, 2) := by decide +kernel
theorem d_Sm_init_31 : decode b_Sm_init 31 = .ok (.ldc 18, 2) := by decide +kernel
theorem d_Sm_init_33 : decode b_Sm_init 33 = .ok (.invokespecial 13, 3) := by decide +kernel
theorem d_Sm_init_36 : decode b_Sm_init 36 = .ok (.aastore, 1) := by decide +kernel
theorem d_Sm_init_37 : decode b_Sm_init 37 = .ok (.dup, 1) := by decide +kernel
theorem d_Sm_init_38 : decode b_Sm_init 38 = .ok (.iconst 2, 1) := by decide +kernel
theorem d_Sm_init_39 : decode b_Sm_init 39 = .ok (.new 7, 3) := by decide +kernel
theorem d_Sm_init_42 : decode b_Sm_init 42 = .ok (.dup, 1) := by decide +kernel
theorem d_Sm_init_43 : decode b_Sm_init 43 = .ok (.ldc 11, 2) := by decide +kernel
theorem d_Sm_init_45 : decode b_Sm_init 45 = .ok (.ldc 11, 2) := by decide +kernel
theorem d_Sm_init_47 : decode b_Sm_init 47 = .ok (.invokespecial 13, 3) := by decide +kernel
theorem d_Sm_init_50 : decode b_Sm_init 50 = .ok (.aastore, 1) := by decide +kernel
theorem d_Sm_init_51 : decode b_Sm_init 51 = .ok (.dup, 1) := by decide +kernel
theorem d_Sm_init_52 : decode b_Sm_init 52 = .ok (.iconst 3, 1) := by decide +kernel
theorem d_Sm_init_53 : decode b_Sm_init 53 = .ok (.new 7, 3) := by decide +kernel
theorem d_Sm_init_56 : decode b_Sm_init 56 = .ok (.dup, 1) := by decide +kernel
theorem d_Sm_init_57 : decode b_Sm_init 57 = .ok (.ldc 20, 2) := by decide +kernel
theorem d_Sm_init_59 : decode b_Sm_init 59 = .ok (.ldc 22, 2) := by decide +kernel
theorem d_Sm_init_61 : decode b_Sm_init 61 = .ok (.invokespecial 13, 3) := by decide +kernel
theorem d_Sm_init_64 : decode b_Sm_init 64 = .ok (.aastore, 1) := by decide +kernel
theorem d_Sm_init_65 : decode b_Sm_init 65 = .ok (.putfield 24, 3) := by decide +kernel
theorem d_Sm_init_68 : decode b_Sm_init 68 = .ok (.aload_n 0, 1) := by decide +kernel
theorem d_Sm_init_69 : decode b_Sm_init 69 = .ok (.iconst 3, 1) := by decide +kernel
theorem d_Sm_init_70 : decode b_Sm_init 70 = .ok (.anewarray 7, 3) := by decide +kernel
theorem d_Sm_init_73 : decode b_Sm_init 73 = .ok (.dup, 1) := by decide +kernel
theorem d_Sm_init_74 : decode b_Sm_init 74 = .ok (.iconst 0, 1) := by decide +kernel
theorem d_Sm_init_75 : decode b_Sm_init 75 = .ok (.new 7, 3) := by decide +kernel
theorem d_Sm_init_78 : decode b_Sm_init 78 = .ok (.dup, 1) := by decide +kernel
theorem d_Sm_init_79 : decode b_Sm_init 79 = .ok (.ldc 30, 2) := by decide +kernel
theorem d_Sm_init_81 : decode b_Sm_init 81 = .ok (.ldc 32, 2) := by decide +kernel
theorem d_Sm_init_83 : decode b_Sm_init 83 = .ok (.invokespecial 13, 3) := by decide +kernel
theorem d_Sm_init_86 : decode b_Sm_init 86 = .ok (.aastore, 1) := by decide +kernel
theorem d_Sm_init_87 : decode b_Sm_init 87 = .ok (.dup, 1) := by decide +kernel
theorem d_Sm_init_88 : decode b_Sm_init 88 = .ok (.iconst 1, 1) := by decide +kernel
theorem d_Sm_init_89 : decode b_Sm_init 89 = .ok (.new 7, 3) := by decide +kernel
theorem d_Sm_init_92 : decode b_Sm_init 92 = .ok (.dup, 1) := by decide +kernel
theorem d_Sm_init_93 : decode b_Sm_init 93 = .ok (.ldc 34, 2) := by decide +kernel
theorem d_Sm_init_95 : decode b_Sm_init 95 = .ok (.ldc 22, 2) := by decide +kernel
theorem d_Sm_init_97 : decode b_Sm_init 97 = .ok (.invokespecial 13, 3) := by decide +kernel
theorem d_Sm_init_100 : decode b_Sm_init 100 = .ok (.aastore, 1) := by decide +kernel
theorem d_Sm_init_101 : decode b_Sm_init 101 = .ok (.dup, 1) := by decide +kernel
theorem d_Sm_init_102 : decode b_Sm_init 102 = .ok (.iconst 2, 1) := by decide +kernel
theorem d_Sm_init_103 : decode b_Sm_init 103 = .ok (.new 7, 3) := by decide +kernel
theorem d_Sm_init_106 : decode b_Sm_init 106 = .ok (.dup, 1) := by decide +kernel
theorem d_Sm_init_107 : decode b_Sm_init 107 = .ok (.ldc 36, 2) := by decide +kernel
theorem d_Sm_init_109 : decode b_Sm_init 109 = .ok (.ldc 22, 2) := by decide +kernel
theorem d_Sm_init_111 : decode b_Sm_init 111 = .ok (.invokespecial 13, 3) := by decide +kernel
theorem d_Sm_init_114 : decode b_Sm_init 114 = .ok (.aastore, 1) := by decide +kernel
theorem d_Sm_init_115 : decode b_Sm_init 115 = .ok (.putfield 38, 3) := by decide +kernel
theorem d_Sm_init_118 : decode b_Sm_init 118 = .ok (.aload_n 0, 1) := by decide +kernel
theorem d_Sm_init_119 : decode b_Sm_init 119 = .ok (.bipush 20, 2) := by decide +kernel
theorem d_Sm_init_121 : decode b_Sm_init 121 = .ok (.anewarray 7, 3) := by decide +kernel
theorem d_Sm_init_124 : decode b_Sm_init 124 = .ok (.dup, 1) := by decide +kernel
theorem d_Sm_init_125 : decode b_Sm_init 125 = .ok (.iconst 0, 1) := by decide +kernel
theorem d_Sm_init_126 : decode b_Sm_init 126 = .ok (.new 7, 3) := by decide +kernel
theorem d_Sm_init_129 : decode b_Sm_init 129 = .ok (.dup, 1) := by decide +kernel
theorem d_Sm_init_130 : decode b_Sm_init 130 = .ok (.ldc 41, 2) := by decide +kernel
theorem d_Sm_init_132 : decode b_Sm_init 132 = .ok (.ldc 43, 2) := by decide +kernel
theorem d_Sm_init_134 : decode b_Sm_init 134 = .ok (.invokespecial 13, 3) := by decide +kernel
theorem d_Sm_init_137 : decode b_Sm_init 137 = .ok (.aastore, 1) := by decide +kernel
theorem d_Sm_init_138 : decode b_Sm_init 138 = .ok (.dup, 1) := by decide +kernel
theorem d_Sm_init_139 : decode b_Sm_init 139 = .ok (.iconst 1, 1) := by decide +kernel
theorem d_Sm_init_140 : decode b_Sm_init 140 = .ok (.new 7, 3) := by decide +kernel
theorem d_Sm_init_143 : decode b_Sm_init 143 = .ok (.dup, 1) := by decide +kernel
theorem d_Sm_init_144 : decode b_Sm_init 144 = .ok (.ldc 45, 2) := by decide +kernel
theorem d_Sm_init_146 : decode b_Sm_init 146 = .ok (.ldc 47, 2) := by decide +kernel
theorem d_Sm_init_148 : decode b_Sm_init 148 = .ok (.invokespecial 13, 3) := by decide +kernel
theorem d_Sm_init_151 : decode b_Sm_init 151 = .ok (.aastore, 1) := by decide +kernel
theorem d_Sm_init_152 : decode b_Sm_init 152 = .ok (.dup, 1) := by decide +kernel
theorem d_Sm_init_153 : decode b_Sm_init 153 = .ok (.iconst 2, 1) := by decide +kernel
theorem d_Sm_init_154 : decode b_Sm_init 154 = .ok (.new 7, 3) := by decide +kernel
theorem d_Sm_init_157 : decode b_Sm_init 157 = .ok (.dup, 1) := by decide +kernel
theorem d_Sm_init_158 : decode b_Sm_init 158 = .ok (.ldc 49, 2) := by decide +kernel
theorem d_Sm_init_160 : decode b_Sm_init 160 = .ok (.ldc 51, 2) := by decide +kernel
theorem d_Sm_init_162 : decode b_Sm_init 162 = .ok (.invokespecial 13, 3) := by decide +kernel
theorem d_Sm_init_165 : decode b_Sm_init 165 = .ok (.aastore, 1) := by decide +kernel
theorem d_Sm_init_166 : decode b_Sm_init 166 = .ok (.dup, 1) := by decide +kernel
theorem d_Sm_init_167 : decode b_Sm_init 167 = .ok (.iconst 3, 1) := by decide +kernel
theorem d_Sm_init_168 : decode b_Sm_init 168 = .ok (.new 7, 3) := by decide +kernel
theorem d_Sm_init_171 : decode b_Sm_init 171 = .ok (.dup, 1) := by decide +kernel
theorem d_Sm_init_172 : decode b_Sm_init 172 = .ok (.ldc 53, 2) := by decide +kernel
theorem d_Sm_init_174 : decode b_Sm_init 174 = .ok (.ldc 55, 2) := by decide +kernel
theorem d_Sm_init_176 : decode b_Sm_init 176 = .ok (.invokespecial 13, 3) := by decide +kernel
theorem d_Sm_init_179 : decode b_Sm_init 179 = .ok (.aastore, 1) := by decide +kernel
theorem d_Sm_init_180 : decode b_Sm_init 180 = .ok (.dup, 1) := by decide +kernel
theorem d_Sm_init_181 : decode b_Sm_init 181 = .ok (.iconst 4, 1) := by decide +kernel
theorem d_Sm_init_182 : decode b_Sm_init 182 = .ok (.new 7, 3) := by decide +kernel
theorem d_Sm_init_185 : decode b_Sm_init 185 = .ok (.dup, 1) := by decide +kernel
theorem d_Sm_init_186 : decode b_Sm_init 186 = .ok (.ldc 57, 2) := by decide +kernel
theorem d_Sm_init_188 : decode b_Sm_init 188 = .ok (.ldc 59, 2) := by decide +kernel
theorem d_Sm_init_190 : decode b_Sm_init 190 = .ok (.invokespecial 13, 3) := by decide +kernel
theorem d_Sm_init_193 : decode b_Sm_init 193 = .ok (.aastore, 1) := by decide +kernel
theorem d_Sm_init_194 : decode b_Sm_init 194 = .ok (.dup, 1) := by decide +kernel
theorem d_Sm_init_195 : decode b_Sm_init 195 = .ok (.iconst 5, 1) := by decide +kernel
theorem d_Sm_init_196 : decode b_Sm_init 196 = .ok (.new 7, 3) := by decide +kernel
theorem d_Sm_init_199 : decode b_Sm_init 199 = .ok (.dup, 1) := by decide +kernel
theorem d_Sm_init_200 : decode b_Sm_init 200 = .ok (.ldc 61, 2) := by decide +kernel
theorem d_Sm_init_202 : decode b_Sm_init 202 = .ok (.ldc 63, 2) := by decide +kernel
theorem d_Sm_init_204 : decode b_Sm_init 204 = .ok (.invokespecial 13, 3) := by decide +kernel
theorem d_Sm_init_207 : decode b_Sm_init 207 = .ok (.aastore, 1) := by decide +kernel
theorem d_Sm_init_208 : decode b_Sm_init 208 = .ok (.dup, 1) := by decide +kernel
theorem d_Sm_init_209 : decode b_Sm_init 209 = .ok (.bipush 6, 2) := by decide +kernel
theorem d_Sm_init_211 : decode b_Sm_init 211 = .ok (.new 7, 3) := by decide +kernel
theorem d_Sm_init_214 : decode b_Sm_init 214 = .ok (.dup, 1) := by decide +kernel
theorem d_Sm_init_215 : decode b_Sm_init 215 = .ok (.ldc 65, 2) := by decide +kernel
theorem d_Sm_init_217 : decode b_Sm_init 217 = .ok (.ldc 67, 2) := by decide +kernel
theorem d_Sm_init_219 : decode b_Sm_init 219 = .ok (.invokespecial 13, 3) := by decide +kernel
theorem d_Sm_init_222 : decode b_Sm_init 222 = .ok (.aastore, 1) := by decide +kernel
theorem d_Sm_init_223 : decode b_Sm_init 223 = .ok (.dup, 1) := by decide +kernel
theorem d_Sm_init_224 : decode b_Sm_init 224 = .ok (.bipush 7, 2) := by decide +kernel
theorem d_Sm_init_226 : decode b_Sm_init 226 = .ok (.new 7, 3) := by decide +kernel
theorem d_Sm_init_229 : decode b_Sm_init 229 = .ok (.dup, 1) := by decide +kernel
theorem d_Sm_init_230 : decode b_Sm_init 230 = .ok (.ldc 69, 2) := by decide +kernel
theorem d_Sm_init_232 : decode b_Sm_init 232 = .ok (.ldc 71, 2) := by decide +kernel
theorem d_Sm_init_234 : decode b_Sm_init 234 = .ok (.invokespecial 13, 3) := by decide +kernel
theorem d_Sm_init_237 : decode b_Sm_init 237 = .ok (.aastore, 1) := by decide +kernel
theorem d_Sm_init_238 : decode b_Sm_init 238 = .ok (.dup, 1) := by decide +kernel
theorem d_Sm_init_239 : decode b_Sm_init 239 = .ok (.bipush 8, 2) := by decide +kernel
theorem d_Sm_init_241 : decode b_Sm_init 241 = .ok (.new 7, 3) := by decide +kernel
theorem d_Sm_init_244 : decode b_Sm_init 244 = .ok (.dup, 1) := by decide +kernel
theorem d_Sm_init_245 : decode b_Sm_init 245 = .ok (.ldc 73, 2) := by decide +kernel
theorem d_Sm_init_247 : decode b_Sm_init 247 = .ok (.ldc 75, 2) := by decide +kernel
theorem d_Sm_init_249 : decode b_Sm_init 249 = .ok (.invokespecial 13, 3) := by decide +kernel
theorem d_Sm_init_252 : decode b_Sm_init 252 = .ok (.aastore, 1) := by decide +kernel
theorem d_Sm_init_253 : decode b_Sm_init 253 = .ok (.dup, 1) := by decide +kernel
theorem d_Sm_init_254 : decode b_Sm_init 254 = .ok (.bipush 9, 2) := by decide +kernel
theorem d_Sm_init_256 : decode b_Sm_init 256 = .ok (.new 7, 3) := by decide +kernel
theorem d_Sm_init_259 : decode b_Sm_init 259 = .ok (.dup, 1) := by decide +kernel
theorem d_Sm_init_260 : decode b_Sm_init 260 = .ok (.ldc 77, 2) := by decide +kernel
theorem d_Sm_init_262 : decode b_Sm_init 262 = .ok (.ldc 79, 2) := by decide +kernel
theorem d_Sm_init_264 : decode b_Sm_init 264 = .ok (.invokespecial 13, 3) := by decide +kernel
theorem d_Sm_init_267 : decode b_Sm_init 267 = .ok (.aastore, 1) := by decide +kernel
theorem d_Sm_init_268 : decode b_Sm_init 268 = .ok (.dup, 1) := by decide +kernel
theorem d_Sm_init_269 : decode b_Sm_init 269 = .ok (.bipush 10, 2) := by decide +kernel
theorem d_Sm_init_271 : decode b_Sm_init 271 = .ok (.new 7, 3) := by decide +kernel
theorem d_Sm_init_274 : decode b_Sm_init 274 = .ok (.dup, 1) := by decide +kernel
theorem d_Sm_init_275 : decode b_Sm_init 275 = .ok (.ldc 81, 2) := by decide +kernel
theorem d_Sm_init_277 : decode b_Sm_init 277 = .ok (.ldc 59, 2) := by decide +kernel
theorem d_Sm_init_279 : decode b_Sm_init 279 = .ok (.invokespecial 13, 3) := by decide +kernel
theorem d_Sm_init_282 : decode b_Sm_init 282 = .ok (.aastore, 1) := by decide +kernel
theorem d_Sm_init_283 : decode b_Sm_init 283 = .ok (.dup, 1) := by decide +kernel
theorem d_Sm_init_284 : decode b_Sm_init 284 = .ok (.bipush 11, 2) := by decide +kernel
theorem d_Sm_init_286 : decode b_Sm_init 286 = .ok (.new 7, 3) := by decide +kernel
theorem d_Sm_init_289 : decode b_Sm_init 289 = .ok (.dup, 1) := by decide +kernel
theorem d_Sm_init_290 : decode b_Sm_init 290 = .ok (.ldc 83, 2) := by decide +kernel
theorem d_Sm_init_292 : decode b_Sm_init 292 = .ok (.ldc 43, 2) := by decide +kernel
theorem d_Sm_init_294 : decode b_Sm_init 294 = .ok (.invokespecial 13, 3) := by decide +kernel
theorem d_Sm_init_297 : decode b_Sm_init 297 = .ok (.aastore, 1) := by decide +kernel
theorem d_Sm_init_298 : decode b_Sm_init 298 = .ok (.dup, 1) := by decide +kernel
theorem d_Sm_init_299 : decode b_Sm_init 299 = .ok (.bipush 12, 2) := by decide +kernel
theorem d_Sm_init_301 : decode b_Sm_init 301 = .ok (.new 7, 3) := by decide +kernel
theorem d_Sm_init_304 : decode b_Sm_init 304 = .ok (.dup, 1) := by decide +kernel
theorem d_Sm_init_305 : decode b_Sm_init 305 = .ok (.ldc 85, 2) := by decide +kernel
theorem d_Sm_init_307 : decode b_Sm_init 307 = .ok (.ldc 43, 2) := by decide +kernel
theorem d_Sm_init_309 : decode b_Sm_init 309 = .ok (.invokespecial 13, 3) := by decide +kernel
theorem d_Sm_init_312 : decode b_Sm_init 312 = .ok (.aastore, 1) := by decide +kernel
theorem d_Sm_init_313 : decode b_Sm_init 313 = .ok (.dup, 1) := by decide +kernel
theorem d_Sm_init_314 : decode b_Sm_init 314 = .ok (.bipush 13, 2) := by decide +kernel
theorem d_Sm_init_316 : decode b_Sm_init 316 = .ok (.new 7, 3) := by decide +kernel
theorem d_Sm_init_319 : decode b_Sm_init 319 = .ok (.dup, 1) := by decide +kernel
theorem d_Sm_init_320 : decode b_Sm_init 320 = .ok (.ldc 87, 2) := by decide +kernel
theorem d_Sm_init_322 : decode b_Sm_init 322 = .ok (.ldc 67, 2) := by decide +kernel
theorem d_Sm_init_324 : decode b_Sm_init 324 = .ok (.invokespecial 13, 3) := by decide +kernel
theorem d_Sm_init_327 : decode b_Sm_init 327 = .ok (.aastore, 1) := by decide +kernel
theorem d_Sm_init_328 : decode b_Sm_init 328 = .ok (.dup, 1) := by decide +kernel
theorem d_Sm_init_329 : decode b_Sm_init 329 = .ok (.bipush 14, 2) := by decide +kernel
theorem d_Sm_init_331 : decode b_Sm_init 331 = .ok (.new 7, 3) := by decide +kernel
theorem d_Sm_init_334 : decode b_Sm_init 334 = .ok (.dup, 1) := by decide +kernel
theorem d_Sm_init_335 : decode b_Sm_init 335 = .ok (.ldc 89, 2) := by decide +kernel
theorem d_Sm_init_337 : decode b_Sm_init 337 = .ok (.ldc 91, 2) := by decide +kernel
theorem d_Sm_init_339 : decode b_Sm_init 339 = .ok (.invokespecial 13, 3) := by decide +kernel
theorem d_Sm_init_342 : decode b_Sm_init 342 = .ok (.aastore, 1) := by decide +kernel
theorem d_Sm_init_343 : decode b_Sm_init 343 = .ok (.dup, 1) := by decide +kernel
theorem d_Sm_init_344 : decode b_Sm_init 344 = .ok (.bipush 15, 2) := by decide +kernel
theorem d_Sm_init_346 : decode b_Sm_init 346 = .ok (.new 7, 3) := by decide +kernel
theorem d_Sm_init_349 : decode b_Sm_init 349 = .ok (.dup, 1) := by decide +kernel
theorem d_Sm_init_350 : decode b_Sm_init 350 = .ok (.ldc 93, 2) := by decide +kernel
theorem d_Sm_init_352 : decode b_Sm_init 352 = .ok (.ldc 95, 2) := by decide +kernel
theorem d_Sm_init_354 : decode b_Sm_init 354 = .ok (.invokespecial 13, 3) := by decide +kernel
theorem d_Sm_init_357 : decode b_Sm_init 357 = .ok (.aastore, 1) := by decide +kernel
theorem d_Sm_init_358 : decode b_Sm_init 358 = .ok (.dup, 1) := by decide +kernel
theorem d_Sm_init_359 : decode b_Sm_init 359 = .ok (.bipush 16, 2) := by decide +kernel
theorem d_Sm_init_361 : decode b_Sm_init 361 = .ok (.new 7, 3) := by decide +kernel
theorem d_Sm_init_364 : decode b_Sm_init 364 = .ok (.dup, 1) := by decide +kernel
theorem d_Sm_init_365 : decode b_Sm_init 365 = .ok (.ldc 97, 2) := by decide +kernel
theorem d_Sm_init_367 : decode b_Sm_init 367 = .ok (.ldc 79, 2) := by decide +kernel
theorem d_Sm_init_369 : decode b_Sm_init 369 = .ok (.invokespecial 13, 3) := by decide +kernel
theorem d_Sm_init_372 : decode b_Sm_init 372 = .ok (.aastore, 1) := by decide +kernel
theorem d_Sm_init_373 : decode b_Sm_init 373 = .ok (.dup, 1) := by decide +kernel
theorem d_Sm_init_374 : decode b_Sm_init 374 = .ok (.bipush 17, 2) := by decide +kernel
theorem d_Sm_init_376 : decode b_Sm_init 376 = .ok (.new 7, 3) := by decide +kernel
theorem d_Sm_init_379 : decode b_Sm_init 379 = .ok (.dup, 1) := by decide +kernel
theorem d_Sm_init_380 : decode b_Sm_init 380 = .ok (.ldc 99, 2) := by decide +kernel
theorem d_Sm_init_382 : decode b_Sm_init 382 = .ok (.ldc 67, 2) := by decide +kernel
theorem d_Sm_init_384 : decode b_Sm_init 384 = .ok (.invokespecial 13, 3) := by decide +kernel
theorem d_Sm_init_387 : decode b_Sm_init 387 = .ok (.aastore, 1) := by decide +kernel
theorem d_Sm_init_388 : decode b_Sm_init 388 = .ok (.dup, 1) := by decide +kernel
theorem d_Sm_init_389 : decode b_Sm_init 389 = .ok (.bipush 18, 2) := by decide +kernel
theorem d_Sm_init_391 : decode b_Sm_init 391 = .ok (.new 7, 3) := by decide +kernel
theorem d_Sm_init_394 : decode b_Sm_init 394 = .ok (.dup, 1) := by decide +kernel
theorem d_Sm_init_395 : decode b_Sm_init 395 = .ok (.ldc 101, 2) := by decide +kernel
theorem d_Sm_init_397 : decode b_Sm_init 397 = .ok (.ldc 91, 2) := by decide +kernel
theorem d_Sm_init_399 : decode b_Sm_init 399 = .ok (.invokespecial 13, 3) := by decide +kernel
theorem d_Sm_init_402 : decode b_Sm_init 402 = .ok (.aastore, 1) := by decide +kernel
theorem d_Sm_init_403 : decode b_Sm_init 403 = .ok (.dup, 1) := by decide +kernel
theorem d_Sm_init_404 : decode b_Sm_init 404 = .ok (.bipush 19, 2) := by decide +kernel
theorem d_Sm_init_406 : decode b_Sm_init 406 = .ok (.new 7, 3) := by decide +kernel
theorem d_Sm_init_409 : decode b_Sm_init 409 = .ok (.dup, 1) := by decide +kernel
theorem d_Sm_init_410 : decode b_Sm_init 410 = .ok (.ldc 103, 2) := by decide +kernel
theorem d_Sm_init_412 : decode b_Sm_init 412 = .ok (.ldc 105, 2) := by decide +kernel
theorem d_Sm_init_414 : decode b_Sm_init 414 = .ok (.invokespecial 13, 3) := by decide +kernel
theorem d_Sm_init_417 : decode b_Sm_init 417 = .ok (.aastore, 1) := by decide +kernel
theorem d_Sm_init_418 : decode b_Sm_init 418 = .ok (.putfield 107, 3) := by decide +kernel
theorem d_Sm_init_421 : decode b_Sm_init 421 = .ok (.aload_n 0, 1) := by decide +kernel
theorem d_Sm_init_422 : decode b_Sm_init 422 = .ok (.bipush 7, 2) := by decide +kernel
theorem d_Sm_init_424 : decode b_Sm_init 424 = .ok (.anewarray 7, 3) := by decide +kernel
theorem d_Sm_init_427 : decode b_Sm_init 427 = .ok (.dup, 1) := by decide +kernel
theorem d_Sm_init_428 : decode b_Sm_init 428 = .ok (.iconst 0, 1) := by decide +kernel
theorem d_Sm_init_429 : decode b_Sm_init 429 = .ok (.new 7, 3) := by decide +kernel
theorem d_Sm_init_432 : decode b_Sm_init 432 = .ok (.dup, 1) := by decide +kernel
theorem d_Sm_init_433 : decode b_Sm_init 433 = .ok (.ldc 110, 2) := by decide +kernel
theorem d_Sm_init_435 : decode b_Sm_init 435 = .ok (.ldc 112, 2) := by decide +kernel
theorem d_Sm_init_437 : decode b_Sm_init 437 = .ok (.invokespecial 13, 3) := by decide +kernel
theorem d_Sm_init_440 : decode b_Sm_init 440 = .ok (.aastore, 1) := by decide +kernel
theorem d_Sm_init_441 : decode b_Sm_init 441 = .ok (.dup, 1) := by decide +kernel
theorem d_Sm_init_442 : decode b_Sm_init 442 = .ok (.iconst 1, 1) := by decide +kernel
theorem d_Sm_init_443 : decode b_Sm_init 443 = .ok (.new 7, 3) := by decide +kernel
theorem d_Sm_init_446 : decode b_Sm_init 446 = .ok (.dup, 1) := by decide +kernel
theorem d_Sm_init_447 : decode b_Sm_init 447 = .ok (.ldc 114, 2) := by decide +kernel
theorem d_Sm_init_449 : decode b_Sm_init 449 = .ok (.ldc 22, 2) := by decide +kernel
theorem d_Sm_init_451 : decode b_Sm_init 451 = .ok (.invokespecial 13, 3) := by decide +kernel
theorem d_Sm_init_454 : decode b_Sm_init 454 = .ok (.aastore, 1) := by decide +kernel
theorem d_Sm_init_455 : decode b_Sm_init 455 = .ok (.dup, 1) := by decide +kernel
theorem d_Sm_init_456 : decode b_Sm_init 456 = .ok (.iconst 2, 1) := by decide +kernel
theorem d_Sm_init_457 : decode b_Sm_init 457 = .ok (.new 7, 3) := by decide +kernel
theorem d_Sm_init_460 : decode b_Sm_init 460 = .ok (.dup, 1) := by decide +kernel
theorem d_Sm_init_461 : decode b_Sm_init 461 = .ok (.ldc 116, 2) := by decide +kernel
theorem d_Sm_init_463 : decode b_Sm_init 463 = .ok (.ldc 67, 2) := by decide +kernel
theorem d_Sm_init_465 : decode b_Sm_init 465 = .ok (.invokespecial 13, 3) := by decide +kernel
theorem d_Sm_init_468 : decode b_Sm_init 468 = .ok (.aastore, 1) := by decide +kernel
theorem d_Sm_init_469 : decode b_Sm_init 469 = .ok (.dup, 1) := by decide +kernel
theorem d_Sm_init_470 : decode b_Sm_init 470 = .ok (.iconst 3, 1) := by decide +kernel
theorem d_Sm_init_471 : decode b_Sm_init 471 = .ok (.new 7, 3) := by decide +kernel
theorem d_Sm_init_474 : decode b_Sm_init 474 = .ok (.dup, 1) := by decide +kernel
theorem d_Sm_init_475 : decode b_Sm_init 475 = .ok (.ldc 118, 2) := by decide +kernel
theorem d_Sm_init_477 : decode b_Sm_init 477 = .ok (.ldc 112, 2) := by decide +kernel
theorem d_Sm_init_479 : decode b_Sm_init 479 = .ok (.invokespecial 13, 3) := by decide +kernel
theorem d_Sm_init_482 : decode b_Sm_init 482 = .ok (.aastore, 1) := by decide +kernel
theorem d_Sm_init_483 : decode b_Sm_init 483 = .ok (.dup, 1) := by decide +kernel
theorem d_Sm_init_484 : decode b_Sm_init 484 = .ok (.iconst 4, 1) := by decide +kernel
theorem d_Sm_init_485 : decode b_Sm_init 485 = .ok (.new 7, 3) := by decide +kernel
theorem d_Sm_init_488 : decode b_Sm_init 488 = .ok (.dup, 1) := by decide +kernel
theorem d_Sm_init_489 : decode b_Sm_init 489 = .ok (.ldc 120, 2) := by decide +kernel
theorem d_Sm_init_491 : decode b_Sm_init 491 = .ok (.ldc 112, 2) := by decide +kernel
theorem d_Sm_init_493 : decode b_Sm_init 493 = .ok (.invokespecial 13, 3) := by decide +kernel
theorem d_Sm_init_496 : decode b_Sm_init 496 = .ok (.aastore, 1) := by decide +kernel
theorem d_Sm_init_497 : decode b_Sm_init 497 = .ok (.dup, 1) := by decide +kernel
theorem d_Sm_init_498 : decode b_Sm_init 498 = .ok (.iconst 5, 1) := by decide +kernel
theorem d_Sm_init_499 : decode b_Sm_init 499 = .ok (.new 7, 3) := by decide +kernel
theorem d_Sm_init_502 : decode b_Sm_init 502 = .ok (.dup, 1) := by decide +kernel
theorem d_Sm_init_503 : decode b_Sm_init 503 = .ok (.ldc 95, 2) := by decide +kernel
theorem d_Sm_init_505 : decode b_Sm_init 505 = .ok (.ldc 22, 2) := by decide +kernel
theorem d_Sm_init_507 : decode b_Sm_init 507 = .ok (.invokespecial 13, 3) := by decide +kernel
theorem d_Sm_init_510 : decode b_Sm_init 510 = .ok (.aastore, 1) := by decide +kernel
theorem d_Sm_init_511 : decode b_Sm_init 511 = .ok (.dup, 1) := by decide +kernel
theorem d_Sm_init_512 : decode b_Sm_init 512 = .ok (.bipush 6, 2) := by decide +kernel
theorem d_Sm_init_514 : decode b_Sm_init 514 = .ok (.new 7, 3) := by decide +kernel
theorem d_Sm_init_517 : decode b_Sm_init 517 = .ok (.dup, 1) := by decide +kernel
theorem d_Sm_init_518 : decode b_Sm_init 518 = .ok (.ldc 122, 2) := by decide +kernel
theorem d_Sm_init_520 : decode b_Sm_init 520 = .ok (.ldc 22, 2) := by decide +kernel
theorem d_Sm_init_522 : decode b_Sm_init 522 = .ok (.invokespecial 13, 3) := by decide +kernel
theorem d_Sm_init_525 : decode b_Sm_init 525 = .ok (.aastore, 1) := by decide +kernel
theorem d_Sm_init_526 : decode b_Sm_init 526 = .ok (.putfield 124, 3) := by decide +kernel
theorem d_Sm_init_529 : decode b_Sm_init 529 = .ok (.aload_n 0, 1) := by decide +kernel
theorem d_Sm_init_530 : decode b_Sm_init 530 = .ok (.bipush 19, 2) := by decide +kernel
theorem d_Sm_init_532 : decode b_Sm_init 532 = .ok (.anewarray 7, 3) := by decide +kernel
theorem d_Sm_init_535 : decode b_Sm_init 535 = .ok (.dup, 1) := by decide +kernel
theorem d_Sm_init_536 : decode b_Sm_init 536 = .ok (.iconst 0, 1) := by decide +kernel
theorem d_Sm_init_537 : decode b_Sm_init 537 = .ok (.new 7, 3) := by decide +kernel
theorem d_Sm_init_540 : decode b_Sm_init 540 = .ok (.dup, 1) := by decide +kernel
theorem d_Sm_init_541 : decode b_Sm_init 541 = .ok (.ldc 67, 2) := by decide +kernel
theorem d_Sm_init_543 : decode b_Sm_init 543 = .ok (.ldc 22, 2) := by decide +kernel
theorem d_Sm_init_545 : decode b_Sm_init 545 = .ok (.invokespecial 13, 3) := by decide +kernel
theorem d_Sm_init_548 : decode b_Sm_init 548 = .ok (.aastore, 1) := by decide +kernel
theorem d_Sm_init_549 : decode b_Sm_init 549 = .ok (.dup, 1) := by decide +kernel
theorem d_Sm_init_550 : decode b_Sm_init 550 = .ok (.iconst 1, 1) := by decide +kernel
theorem d_Sm_init_551 : decode b_Sm_init 551 = .ok (.new 7, 3) := by decide +kernel
theorem d_Sm_init_554 : decode b_Sm_init 554 = .ok (.dup, 1) := by decide +kernel
theorem d_Sm_init_555 : decode b_Sm_init 555 = .ok (.ldc 55, 2) := by decide +kernel
theorem d_Sm_init_557 : decode b_Sm_init 557 = .ok (.ldc 22, 2) := by decide +kernel
theorem d_Sm_init_559 : decode b_Sm_init 559 = .ok (.invokespecial 13, 3) := by decide +kernel
theorem d_Sm_init_562 : decode b_Sm_init 562 = .ok (.aastore, 1) := by decide +kernel
theorem d_Sm_init_563 : decode b_Sm_init 563 = .ok (.dup, 1) := by decide +kernel
theorem d_Sm_init_564 : decode b_Sm_init 564 = .ok (.iconst 2, 1) := by decide +kernel
theorem d_Sm_init_565 : decode b_Sm_init 565 = .ok (.new 7, 3) := by decide +kernel
theorem d_Sm_init_568 : decode b_Sm_init 568 = .ok (.dup, 1) := by decide +kernel
theorem d_Sm_init_569 : decode b_Sm_init 569 = .ok (.ldc 51, 2) := by decide +kernel
theorem d_Sm_init_571 : decode b_Sm_init 571 = .ok (.ldc 22, 2) := by decide +kernel
theorem d_Sm_init_573 : decode b_Sm_init 573 = .ok (.invokespecial 13, 3) := by decide +kernel
theorem d_Sm_init_576 : decode b_Sm_init 576 = .ok (.aastore, 1) := by decide +kernel
theorem d_Sm_init_577 : decode b_Sm_init 577 = .ok (.dup, 1) := by decide +kernel
theorem d_Sm_init_578 : decode b_Sm_init 578 = .ok (.iconst 3, 1) := by decide +kernel
theorem d_Sm_init_579 : decode b_Sm_init 579 = .ok (.new 7, 3) := by decide +kernel
theorem d_Sm_init_582 : decode b_Sm_init 582 = .ok (.dup, 1) := by decide +kernel
theorem d_Sm_init_583 : decode b_Sm_init 583 = .ok (.ldc 127, 2) := by decide +kernel
theorem d_Sm_init_585 : decode b_Sm_init 585 = .ok (.ldc 22, 2) := by decide +kernel
theorem d_Sm_init_587 : decode b_Sm_init 587 = .ok (.invokespecial 13, 3) := by decide +kernel
theorem d_Sm_init_590 : decode b_Sm_init 590 = .ok (.aastore, 1) := by decide +kernel
theorem d_Sm_init_591 : decode b_Sm_init 591 = .ok (.dup, 1) := by decide +kernel
theorem d_Sm_init_592 : decode b_Sm_init 592 = .ok (.iconst 4, 1) := by decide +kernel
theorem d_Sm_init_593 : decode b_Sm_init 593 = .ok (.new 7, 3) := by decide +kernel
theorem d_Sm_init_596 : decode b_Sm_init 596 = .ok (.dup, 1) := by decide +kernel
theorem d_Sm_init_597 : decode b_Sm_init 597 = .ok (.ldc 112, 2) := by decide +kernel
theorem d_Sm_init_599 : decode b_Sm_init 599 = .ok (.ldc 22, 2) := by decide +kernel
theorem d_Sm_init_601 : decode b_Sm_init 601 = .ok (.invokespecial 13, 3) := by decide +kernel
theorem d_Sm_init_604 : decode b_Sm_init 604 = .ok (.aastore, 1) := by decide +kernel
theorem d_Sm_init_605 : decode b_Sm_init 605 = .ok (.dup, 1) := by decide +kernel
theorem d_Sm_init_606 : decode b_Sm_init 606 = .ok (.iconst 5, 1) := by decide +kernel
theorem d_Sm_init_607 : decode b_Sm_init 607 = .ok (.new 7, 3) := by decide +kernel
theorem d_Sm_init_610 : decode b_Sm_init 610 = .ok (.dup, 1) := by decide +kernel
theorem d_Sm_init_611 : decode b_Sm_init 611 = .ok (.ldc 63, 2) := by decide +kernel
theorem d_Sm_init_613 : decode b_Sm_init 613 = .ok (.ldc 22, 2) := by decide +kernel
theorem d_Sm_init_615 : decode b_Sm_init 615 = .ok (.invokespecial 13, 3) := by decide +kernel
theorem d_Sm_init_618 : decode b_Sm_init 618 = .ok (.aastore, 1) := by decide +kernel
theorem d_Sm_init_619 : decode b_Sm_init 619 = .ok (.dup, 1) := by decide +kernel
theorem d_Sm_init_620 : decode b_Sm_init 620 = .ok (.bipush 6, 2) := by decide +kernel
theorem d_Sm_init_622 : decode b_Sm_init 622 = .ok (.new 7, 3) := by decide +kernel
theorem d_Sm_init_625 : decode b_Sm_init 625 = .ok (.dup, 1) := by decide +kernel
theorem d_Sm_init_626 : decode b_Sm_init 626 = .ok (.ldc 129, 2) := by decide +kernel
theorem d_Sm_init_628 : decode b_Sm_init 628 = .ok (.ldc 22, 2) := by decide +kernel
theorem d_Sm_init_630 : decode b_Sm_init 630 = .ok (.invokespecial 13, 3) := by decide +kernel
theorem d_Sm_init_633 : decode b_Sm_init 633 = .ok (.aastore, 1) := by decide +kernel
theorem d_Sm_init_634 : decode b_Sm_init 634 = .ok (.dup, 1) := by decide +kernel
theorem d_Sm_init_635 : decode b_Sm_init 635 = .ok (.bipush 7, 2) := by decide +kernel
theorem d_Sm_init_637 : decode b_Sm_init 637 = .ok (.new 7, 3) := by decide +kernel
theorem d_Sm_init_640 : decode b_Sm_init 640 = .ok (.dup, 1) := by decide +kernel
theorem d_Sm_init_641 : decode b_Sm_init 641 = .ok (.ldc 131, 2) := by decide +kernel
theorem d_Sm_init_643 : decode b_Sm_init 643 = .ok (.ldc 22, 2) := by decide +kernel
theorem d_Sm_init_645 : decode b_Sm_init 645 = .ok (.invokespecial 13, 3) := by decide +kernel
theorem d_Sm_init_648 : decode b_Sm_init 648 = .ok (.aastore, 1) := by decide +kernel
theorem d_Sm_init_649 : decode b_Sm_init 649 = .ok (.dup, 1) := by decide +kernel
theorem d_Sm_init_650 : decode b_Sm_init 650 = .ok (.bipush 8, 2) := by decide +kernel
theorem d_Sm_init_652 : decode b_Sm_init 652 = .ok (.new 7, 3) := by decide +kernel
theorem d_Sm_init_655 : decode b_Sm_init 655 = .ok (.dup, 1) := by decide +kernel
theorem d_Sm_init_656 : decode b_Sm_init 656 = .ok (.ldc 133, 2) := by decide +kernel
theorem d_Sm_init_658 : decode b_Sm_init 658 = .ok (.ldc 22, 2) := by decide +kernel
theorem d_Sm_init_660 : decode b_Sm_init 660 = .ok (.invokespecial 13, 3) := by decide +kernel
theorem d_Sm_init_663 : decode b_Sm_init 663 = .ok (.aastore, 1) := by decide +kernel
theorem d_Sm_init_664 : decode b_Sm_init 664 = .ok (.dup, 1) := by decide +kernel
theorem d_Sm_init_665 : decode b_Sm_init 665 = .ok (.bipush 9, 2) := by decide +kernel
theorem d_Sm_init_667 : decode b_Sm_init 667 = .ok (.new 7, 3) := by decide +kernel
theorem d_Sm_init_670 : decode b_Sm_init 670 = .ok (.dup, 1) := by decide +kernel
theorem d_Sm_init_671 : decode b_Sm_init 671 = .ok (.ldc 135, 2) := by decide +kernel
theorem d_Sm_init_673 : decode b_Sm_init 673 = .ok (.ldc 22, 2) := by decide +kernel
theorem d_Sm_init_675 : decode b_Sm_init 675 = .ok (.invokespecial 13, 3) := by decide +kernel
theorem d_Sm_init_678 : decode b_Sm_init 678 = .ok (.aastore, 1) := by decide +kernel
theorem d_Sm_init_679 : decode b_Sm_init 679 = .ok (.dup, 1) := by decide +kernel
theorem d_Sm_init_680 : decode b_Sm_init 680 = .ok (.bipush 10, 2) := by decide +kernel
theorem d_Sm_init_682 : decode b_Sm_init 682 = .ok (.new 7, 3) := by decide +kernel
theorem d_Sm_init_685 : decode b_Sm_init 685 = .ok (.dup, 1) := by decide +kernel
theorem d_Sm_init_686 : decode b_Sm_init 686 = .ok (.ldc 71, 2) := by decide +kernel
theorem d_Sm_init_688 : decode b_Sm_init 688 = .ok (.ldc 22, 2) := by decide +kernel
theorem d_Sm_init_690 : decode b_Sm_init 690 = .ok (.invokespecial 13, 3) := by decide +kernel
theorem d_Sm_init_693 : decode b_Sm_init 693 = .ok (.aastore, 1) := by decide +kernel
theorem d_Sm_init_694 : decode b_Sm_init 694 = .ok (.dup, 1) := by decide +kernel
theorem d_Sm_init_695 : decode b_Sm_init 695 = .ok (.bipush 11, 2) := by decide +kernel
theorem d_Sm_init_697 : decode b_Sm_init 697 = .ok (.new 7, 3) := by decide +kernel
theorem d_Sm_init_700 : decode b_Sm_init 700 = .ok (.dup, 1) := by decide +kernel
theorem d_Sm_init_701 : decode b_Sm_init 701 = .ok (.ldc 137, 2) := by decide +kernel
theorem d_Sm_init_703 : decode b_Sm_init 703 = .ok (.ldc 22, 2) := by decide +kernel
theorem d_Sm_init_705 : decode b_Sm_init 705 = .ok (.invokespecial 13, 3) := by decide +kernel
theorem d_Sm_init_708 : decode b_Sm_init 708 = .ok (.aastore, 1) := by decide +kernel
theorem d_Sm_init_709 : decode b_Sm_init 709 = .ok (.dup, 1) := by decide +kernel
theorem d_Sm_init_710 : decode b_Sm_init 710 = .ok (.bipush 12, 2) := by decide +kernel
theorem d_Sm_init_712 : decode b_Sm_init 712 = .ok (.new 7, 3) := by decide +kernel
theorem d_Sm_init_715 : decode b_Sm_init 715 = .ok (.dup, 1) := by decide +kernel
theorem d_Sm_init_716 : decode b_Sm_init 716 = .ok (.ldc 139, 2) := by decide +kernel
theorem d_Sm_init_718 : decode b_Sm_init 718 = .ok (.ldc 22, 2) := by decide +kernel
theorem d_Sm_init_720 : decode b_Sm_init 720 = .ok (.invokespecial 13, 3) := by decide +kernel
theorem d_Sm_init_723 : decode b_Sm_init 723 = .ok (.aastore, 1) := by decide +kernel
theorem d_Sm_init_724 : decode b_Sm_init 724 = .ok (.dup, 1) := by decide +kernel
theorem d_Sm_init_725 : decode b_Sm_init 725 = .ok (.bipush 13, 2) := by decide +kernel
theorem d_Sm_init_727 : decode b_Sm_init 727 = .ok (.new 7, 3) := by decide +kernel
theorem d_Sm_init_730 : decode b_Sm_init 730 = .ok (.dup, 1) := by decide +kernel
theorem d_Sm_init_731 : decode b_Sm_init 731 = .ok (.ldc 141, 2) := by decide +kernel
theorem d_Sm_init_733 : decode b_Sm_init 733 = .ok (.ldc 22, 2) := by decide +kernel
theorem d_Sm_init_735 : decode b_Sm_init 735 = .ok (.invokespecial 13, 3) := by decide +kernel
theorem d_Sm_init_738 : decode b_Sm_init 738 = .ok (.aastore, 1) := by decide +kernel
theorem d_Sm_init_739 : decode b_Sm_init 739 = .ok (.dup, 1) := by decide +kernel
theorem d_Sm_init_740 : decode b_Sm_init 740 = .ok (.bipush 14, 2) := by decide +kernel
theorem d_Sm_init_742 : decode b_Sm_init 742 = .ok (.new 7, 3) := by decide +kernel
theorem d_Sm_init_745 : decode b_Sm_init 745 = .ok (.dup, 1) := by decide +kernel
theorem d_Sm_init_746 : decode b_Sm_init 746 = .ok (.ldc 43, 2) := by decide +kernel
theorem d_Sm_init_748 : decode b_Sm_init 748 = .ok (.ldc 22, 2) := by decide +kernel
theorem d_Sm_init_750 : decode b_Sm_init 750 = .ok (.invokespecial 13, 3) := by decide +kernel
theorem d_Sm_init_753 : decode b_Sm_init 753 = .ok (.aastore, 1) := by decide +kernel
theorem d_Sm_init_754 : decode b_Sm_init 754 = .ok (.dup, 1) := by decide +kernel
theorem d_Sm_init_755 : decode b_Sm_init 755 = .ok (.bipush 15, 2) := by decide +kernel
theorem d_Sm_init_757 : decode b_Sm_init 757 = .ok (.new 7, 3) := by decide +kernel
theorem d_Sm_init_760 : decode b_Sm_init 760 = .ok (.dup, 1) := by decide +kernel
theorem d_Sm_init_761 : decode b_Sm_init 761 = .ok (.ldc 143, 2) := by decide +kernel
theorem d_Sm_init_763 : decode b_Sm_init 763 = .ok (.ldc 22, 2) := by decide +kernel
theorem d_Sm_init_765 : decode b_Sm_init 765 = .ok (.invokespecial 13, 3) := by decide +kernel
theorem d_Sm_init_768 : decode b_Sm_init 768 = .ok (.aastore, 1) := by decide +kernel
theorem d_Sm_init_769 : decode b_Sm_init 769 = .ok (.dup, 1) := by decide +kernel
theorem d_Sm_init_770 : decode b_Sm_init 770 = .ok (.bipush 16, 2) := by decide +kernel
theorem d_Sm_init_772 : decode b_Sm_init 772 = .ok (.new 7, 3) := by decide +kernel
theorem d_Sm_init_775 : decode b_Sm_init 775 = .ok (.dup, 1) := by decide +kernel
theorem d_Sm_init_776 : decode b_Sm_init 776 = .ok (.ldc 79, 2) := by decide +kernel
theorem d_Sm_init_778 : decode b_Sm_init 778 = .ok (.ldc 22, 2) := by decide +kernel
theorem d_Sm_init_780 : decode b_Sm_init 780 = .ok (.invokespecial 13, 3) := by decide +kernel
theorem d_Sm_init_783 : decode b_Sm_init 783 = .ok (.aastore, 1) := by decide +kernel
theorem d_Sm_init_784 : decode b_Sm_init 784 = .ok (.dup, 1) := by decide +kernel
theorem d_Sm_init_785 : decode b_Sm_init 785 = .ok (.bipush 17, 2) := by decide +kernel
theorem d_Sm_init_787 : decode b_Sm_init 787 = .ok (.new 7, 3) := by decide +kernel
theorem d_Sm_init_790 : decode b_Sm_init 790 = .ok (.dup, 1) := by decide +kernel
theorem d_Sm_init_791 : decode b_Sm_init 791 = .ok (.ldc 91, 2) := by decide +kernel
theorem d_Sm_init_793 : decode b_Sm_init 793 = .ok (.ldc 22, 2) := by decide +kernel
theorem d_Sm_init_795 : decode b_Sm_init 795 = .ok (.invokespecial 13, 3) := by decide +kernel
theorem d_Sm_init_798 : decode b_Sm_init 798 = .ok (.aastore, 1) := by decide +kernel
theorem d_Sm_init_799 : decode b_Sm_init 799 = .ok (.dup, 1) := by decide +kernel
theorem d_Sm_init_800 : decode b_Sm_init 800 = .ok (.bipush 18, 2) := by decide +kernel
theorem d_Sm_init_802 : decode b_Sm_init 802 = .ok (.new 7, 3) := by decide +kernel
theorem d_Sm_init_805 : decode b_Sm_init 805 = .ok (.dup, 1) := by decide +kernel
theorem d_Sm_init_806 : decode b_Sm_init 806 = .ok (.ldc 59, 2) := by decide +kernel
theorem d_Sm_init_808 : decode b_Sm_init 808 = .ok (.ldc 22, 2) := by decide +kernel
theorem d_Sm_init_810 : decode b_Sm_init 810 = .ok (.invokespecial 13, 3) := by decide +kernel
theorem d_Sm_init_813 : decode b_Sm_init 813 = .ok (.aastore, 1) := by decide +kernel
theorem d_Sm_init_814 : decode b_Sm_init 814 = .ok (.putfield 145, 3) := by decide +kernel
theorem d_Sm_init_817 : decode b_Sm_init 817 = .ok (.aload_n 0, 1) := by decide +kernel
theorem d_Sm_init_818 : decode b_Sm_init 818 = .ok (.new 148, 3) := by decide +kernel
theorem d_Sm_init_821 : decode b_Sm_init 821 = .ok (.dup, 1) := by decide +kernel
theorem d_Sm_init_822 : decode b_Sm_init 822 = .ok (.iload_n 1, 1) := by decide +kernel
theorem d_Sm_init_823 : decode b_Sm_init 823 = .ok (.invokespecial 150, 3) := by decide +kernel
theorem d_Sm_init_826 : decode b_Sm_init 826 = .ok (.putfield 153, 3) := by decide +kernel
theorem d_Sm_init_829 : decode b_Sm_init 829 = .ok (.aload_n 0, 1) := by decide +kernel
theorem d_Sm_init_830 : decode b_Sm_init 830 = .ok (.iload_n 1, 1) := by decide +kernel
theorem d_Sm_init_831 : decode b_Sm_init 831 = .ok (.newarray .boolean, 2) := by decide +kernel
theorem d_Sm_init_833 : decode b_Sm_init 833 = .ok (.putfield 157, 3) := by decide +kernel
theorem d_Sm_init_836 : decode b_Sm_init 836 = .ok (.return_, 1) := by decide +kernel
theorem d_En_init_0 : decode b_En_init 0 = .ok (.aload_n 0, 1) := by decide +kernel
theorem d_En_init_1 : decode b_En_init 1 = .ok (.invokespecial 1, 3) := by decide +kernel
theorem d_En_init_4 : decode b_En_init 4 = .ok (.aload_n 0, 1) := by decide +kernel
theorem d_En_init_5 : decode b_En_init 5 = .ok (.aload_n 1, 1) := by decide +kernel
theorem d_En_init_6 : decode b_En_init 6 = .ok (.putfield 7, 3) := by decide +kernel
theorem d_En_init_9 : decode b_En_init 9 = .ok (.aload_n 0, 1) := by decide +kernel
theorem d_En_init_10 : decode b_En_init 10 = .ok (.aload_n 2, 1) := by decide +kernel
theorem d_En_init_11 : decode b_En_init 11 = .ok (.putfield 13, 3) := by decide +kernel
theorem d_En_init_14 : decode b_En_init 14 = .ok (.return_, 1) := by decide +kernel
theorem d_Wo_init_0 : decode b_Wo_init 0 = .ok (.aload_n 0, 1) := by decide +kernel
theorem d_Wo_init_1 : decode b_Wo_init 1 = .ok (.invokespecial 1, 3) := by decide +kernel
theorem d_Wo_init_4 : decode b_Wo_init 4 = .ok (.aload_n 0, 1) := by decide +kernel
theorem d_Wo_init_5 : decode b_Wo_init 5 = .ok (.iconst 0, 1) := by decide +kernel
theorem d_Wo_init_6 : decode b_Wo_init 6 = .ok (.putfield 7, 3) := by decide +kernel
theorem d_Wo_init_9 : decode b_Wo_init 9 = .ok (.aload_n 0, 1) := by decide +kernel
theorem d_Wo_init_10 : decode b_Wo_init 10 = .ok (.iload_n 1, 1) := by decide +kernel
theorem d_Wo_init_11 : decode b_Wo_init 11 = .ok (.newarray .int, 2) := by decide +kernel
theorem d_Wo_init_13 : decode b_Wo_init 13 = .ok (.putfield 13, 3) := by decide +kernel
theorem d_Wo_init_16 : decode b_Wo_init 16 = .ok (.return_, 1) := by decide +kernel
theorem d_To_init_0 : decode b_To_init 0 = .ok (.aload_n 0, 1) := by decide +kernel
theorem d_To_init_1 : decode b_To_init 1 = .ok (.invokespecial 1, 3) := by decide +kernel
theorem d_To_init_4 : decode b_To_init 4 = .ok (.aload_n 0, 1) := by decide +kernel
theorem d_To_init_5 : decode b_To_init 5 = .ok (.iconst 0, 1) := by decide +kernel
theorem d_To_init_6 : decode b_To_init 6 = .ok (.putfield 7, 3) := by decide +kernel
theorem d_To_init_9 : decode b_To_init 9 = .ok (.aload_n 0, 1) := by decide +kernel
theorem d_To_init_10 : decode b_To_init 10 = .ok (.iload_n 1, 1) := by decide +kernel
theorem d_To_init_11 : decode b_To_init 11 = .ok (.newarray .int, 2) := by decide +kernel
theorem d_To_init_13 : decode b_To_init 13 = .ok (.putfield 13, 3) := by decide +kernel
