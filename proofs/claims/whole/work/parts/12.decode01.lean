theorem d_To_init_16 : decode b_To_init 16 = .ok (.aload_n 0, 1) := by decide +kernel
theorem d_To_init_17 : decode b_To_init 17 = .ok (.iload_n 1, 1) := by decide +kernel
theorem d_To_init_18 : decode b_To_init 18 = .ok (.newarray .int, 2) := by decide +kernel
theorem d_To_init_20 : decode b_To_init 20 = .ok (.putfield 17, 3) := by decide +kernel
theorem d_To_init_23 : decode b_To_init 23 = .ok (.aload_n 0, 1) := by decide +kernel
theorem d_To_init_24 : decode b_To_init 24 = .ok (.iload_n 1, 1) := by decide +kernel
theorem d_To_init_25 : decode b_To_init 25 = .ok (.iconst 1, 1) := by decide +kernel
theorem d_To_init_26 : decode b_To_init 26 = .ok (.iadd, 1) := by decide +kernel
theorem d_To_init_27 : decode b_To_init 27 = .ok (.newarray .int, 2) := by decide +kernel
theorem d_To_init_29 : decode b_To_init 29 = .ok (.putfield 20, 3) := by decide +kernel
theorem d_To_init_32 : decode b_To_init 32 = .ok (.return_, 1) := by decide +kernel
theorem d_X_cut_0 : decode b_X_cut 0 = .ok (.aload_n 0, 1) := by decide +kernel
theorem d_X_cut_1 : decode b_X_cut 1 = .ok (.getfield 22, 3) := by decide +kernel
theorem d_X_cut_4 : decode b_X_cut 4 = .ok (.aload_n 0, 1) := by decide +kernel
theorem d_X_cut_5 : decode b_X_cut 5 = .ok (.getfield 9, 3) := by decide +kernel
theorem d_X_cut_8 : decode b_X_cut 8 = .ok (.aload_n 0, 1) := by decide +kernel
theorem d_X_cut_9 : decode b_X_cut 9 = .ok (.getfield 13, 3) := by decide +kernel
theorem d_X_cut_12 : decode b_X_cut 12 = .ok (.invokevirtual 65, 3) := by decide +kernel
theorem d_X_cut_15 : decode b_X_cut 15 = .ok (.aload_n 0, 1) := by decide +kernel
theorem d_X_cut_16 : decode b_X_cut 16 = .ok (.iconst 0, 1) := by decide +kernel
theorem d_X_cut_17 : decode b_X_cut 17 = .ok (.putfield 13, 3) := by decide +kernel
theorem d_X_cut_20 : decode b_X_cut 20 = .ok (.aload_n 0, 1) := by decide +kernel
theorem d_X_cut_21 : decode b_X_cut 21 = .ok (.getfield 43, 3) := by decide +kernel
theorem d_X_cut_24 : decode b_X_cut 24 = .ok (.invokevirtual 69, 3) := by decide +kernel
theorem d_X_cut_27 : decode b_X_cut 27 = .ok (.aload_n 0, 1) := by decide +kernel
theorem d_X_cut_28 : decode b_X_cut 28 = .ok (.iconst 0, 1) := by decide +kernel
theorem d_X_cut_29 : decode b_X_cut 29 = .ok (.putfield 47, 3) := by decide +kernel
theorem d_X_cut_32 : decode b_X_cut 32 = .ok (.iconst 0, 1) := by decide +kernel
theorem d_X_cut_33 : decode b_X_cut 33 = .ok (.istore_n 1, 1) := by decide +kernel
theorem d_X_cut_34 : decode b_X_cut 34 = .ok (.iload_n 1, 1) := by decide +kernel
theorem d_X_cut_35 : decode b_X_cut 35 = .ok (.aload_n 0, 1) := by decide +kernel
theorem d_X_cut_36 : decode b_X_cut 36 = .ok (.getfield 22, 3) := by decide +kernel
theorem d_X_cut_39 : decode b_X_cut 39 = .ok (.getfield 72, 3) := by decide +kernel
theorem d_X_cut_42 : decode b_X_cut 42 = .ok (.if_icmp .ge 41, 3) := by decide +kernel
theorem d_X_cut_45 : decode b_X_cut 45 = .ok (.aload_n 0, 1) := by decide +kernel
theorem d_X_cut_46 : decode b_X_cut 46 = .ok (.getfield 22, 3) := by decide +kernel
theorem d_X_cut_49 : decode b_X_cut 49 = .ok (.iload_n 1, 1) := by decide +kernel
theorem d_X_cut_50 : decode b_X_cut 50 = .ok (.invokevirtual 75, 3) := by decide +kernel
theorem d_X_cut_53 : decode b_X_cut 53 = .ok (.istore_n 2, 1) := by decide +kernel
theorem d_X_cut_54 : decode b_X_cut 54 = .ok (.aload_n 0, 1) := by decide +kernel
theorem d_X_cut_55 : decode b_X_cut 55 = .ok (.getfield 22, 3) := by decide +kernel
theorem d_X_cut_58 : decode b_X_cut 58 = .ok (.iload_n 1, 1) := by decide +kernel
theorem d_X_cut_59 : decode b_X_cut 59 = .ok (.iload_n 2, 1) := by decide +kernel
theorem d_X_cut_60 : decode b_X_cut 60 = .ok (.invokevirtual 79, 3) := by decide +kernel
theorem d_X_cut_63 : decode b_X_cut 63 = .ok (.ifCond .eq 9, 3) := by decide +kernel
theorem d_X_cut_66 : decode b_X_cut 66 = .ok (.aload_n 0, 1) := by decide +kernel
theorem d_X_cut_67 : decode b_X_cut 67 = .ok (.iload_n 1, 1) := by decide +kernel
theorem d_X_cut_68 : decode b_X_cut 68 = .ok (.iload_n 2, 1) := by decide +kernel
theorem d_X_cut_69 : decode b_X_cut 69 = .ok (.invokevirtual 83, 3) := by decide +kernel
theorem d_X_cut_72 : decode b_X_cut 72 = .ok (.iload_n 1, 1) := by decide +kernel
theorem d_X_cut_73 : decode b_X_cut 73 = .ok (.iconst 1, 1) := by decide +kernel
theorem d_X_cut_74 : decode b_X_cut 74 = .ok (.iadd, 1) := by decide +kernel
theorem d_X_cut_75 : decode b_X_cut 75 = .ok (.iload_n 2, 1) := by decide +kernel
theorem d_X_cut_76 : decode b_X_cut 76 = .ok (.invokestatic 87, 3) := by decide +kernel
theorem d_X_cut_79 : decode b_X_cut 79 = .ok (.istore_n 1, 1) := by decide +kernel
theorem d_X_cut_80 : decode b_X_cut 80 = .ok (.goto (-46), 3) := by decide +kernel
theorem d_X_cut_83 : decode b_X_cut 83 = .ok (.aload_n 0, 1) := by decide +kernel
theorem d_X_cut_84 : decode b_X_cut 84 = .ok (.getfield 43, 3) := by decide +kernel
theorem d_X_cut_87 : decode b_X_cut 87 = .ok (.getfield 93, 3) := by decide +kernel
theorem d_X_cut_90 : decode b_X_cut 90 = .ok (.ireturn, 1) := by decide +kernel
theorem d_Te_read_0 : decode b_Te_read 0 = .ok (.aload_n 0, 1) := by decide +kernel
theorem d_Te_read_1 : decode b_Te_read 1 = .ok (.iconst 0, 1) := by decide +kernel
theorem d_Te_read_2 : decode b_Te_read 2 = .ok (.putfield 7, 3) := by decide +kernel
theorem d_Te_read_5 : decode b_Te_read 5 = .ok (.iconst 0, 1) := by decide +kernel
theorem d_Te_read_6 : decode b_Te_read 6 = .ok (.istore_n 3, 1) := by decide +kernel
theorem d_Te_read_7 : decode b_Te_read 7 = .ok (.iload_n 3, 1) := by decide +kernel
theorem d_Te_read_8 : decode b_Te_read 8 = .ok (.iload_n 2, 1) := by decide +kernel
theorem d_Te_read_9 : decode b_Te_read 9 = .ok (.if_icmp .ge 59, 3) := by decide +kernel
theorem d_Te_read_12 : decode b_Te_read 12 = .ok (.aload_n 1, 1) := by decide +kernel
theorem d_Te_read_13 : decode b_Te_read 13 = .ok (.iload_n 3, 1) := by decide +kernel
theorem d_Te_read_14 : decode b_Te_read 14 = .ok (.iload_n 2, 1) := by decide +kernel
theorem d_Te_read_15 : decode b_Te_read 15 = .ok (.invokestatic 17, 3) := by decide +kernel
theorem d_Te_read_18 : decode b_Te_read 18 = .ok (.istore 4, 2) := by decide +kernel
theorem d_Te_read_20 : decode b_Te_read 20 = .ok (.aload_n 0, 1) := by decide +kernel
theorem d_Te_read_21 : decode b_Te_read 21 = .ok (.getfield 13, 3) := by decide +kernel
theorem d_Te_read_24 : decode b_Te_read 24 = .ok (.aload_n 0, 1) := by decide +kernel
theorem d_Te_read_25 : decode b_Te_read 25 = .ok (.getfield 7, 3) := by decide +kernel
theorem d_Te_read_28 : decode b_Te_read 28 = .ok (.iload 4, 2) := by decide +kernel
theorem d_Te_read_30 : decode b_Te_read 30 = .ok (.ifCond .ne 8, 3) := by decide +kernel
theorem d_Te_read_33 : decode b_Te_read 33 = .ok (.ldc 23, 2) := by decide +kernel
theorem d_Te_read_35 : decode b_Te_read 35 = .ok (.goto 10, 3) := by decide +kernel
theorem d_Te_read_38 : decode b_Te_read 38 = .ok (.aload_n 1, 1) := by decide +kernel
theorem d_Te_read_39 : decode b_Te_read 39 = .ok (.iload_n 3, 1) := by decide +kernel
theorem d_Te_read_40 : decode b_Te_read 40 = .ok (.iload 4, 2) := by decide +kernel
theorem d_Te_read_42 : decode b_Te_read 42 = .ok (.invokestatic 24, 3) := by decide +kernel
theorem d_Te_read_45 : decode b_Te_read 45 = .ok (.iastore, 1) := by decide +kernel
theorem d_Te_read_46 : decode b_Te_read 46 = .ok (.aload_n 0, 1) := by decide +kernel
theorem d_Te_read_47 : decode b_Te_read 47 = .ok (.dup, 1) := by decide +kernel
theorem d_Te_read_48 : decode b_Te_read 48 = .ok (.getfield 7, 3) := by decide +kernel
theorem d_Te_read_51 : decode b_Te_read 51 = .ok (.iconst 1, 1) := by decide +kernel
theorem d_Te_read_52 : decode b_Te_read 52 = .ok (.iadd, 1) := by decide +kernel
theorem d_Te_read_53 : decode b_Te_read 53 = .ok (.putfield 7, 3) := by decide +kernel
theorem d_Te_read_56 : decode b_Te_read 56 = .ok (.iload_n 3, 1) := by decide +kernel
theorem d_Te_read_57 : decode b_Te_read 57 = .ok (.iconst 1, 1) := by decide +kernel
theorem d_Te_read_58 : decode b_Te_read 58 = .ok (.iload 4, 2) := by decide +kernel
theorem d_Te_read_60 : decode b_Te_read 60 = .ok (.invokestatic 27, 3) := by decide +kernel
theorem d_Te_read_63 : decode b_Te_read 63 = .ok (.iadd, 1) := by decide +kernel
theorem d_Te_read_64 : decode b_Te_read 64 = .ok (.istore_n 3, 1) := by decide +kernel
theorem d_Te_read_65 : decode b_Te_read 65 = .ok (.goto (-58), 3) := by decide +kernel
theorem d_Te_read_68 : decode b_Te_read 68 = .ok (.return_, 1) := by decide +kernel
theorem d_Ut_sizeAt_0 : decode b_Ut_sizeAt 0 = .ok (.aload_n 0, 1) := by decide +kernel
theorem d_Ut_sizeAt_1 : decode b_Ut_sizeAt 1 = .ok (.iload_n 1, 1) := by decide +kernel
theorem d_Ut_sizeAt_2 : decode b_Ut_sizeAt 2 = .ok (.baload, 1) := by decide +kernel
theorem d_Ut_sizeAt_3 : decode b_Ut_sizeAt 3 = .ok (.sipush 255, 3) := by decide +kernel
theorem d_Ut_sizeAt_6 : decode b_Ut_sizeAt 6 = .ok (.iand, 1) := by decide +kernel
theorem d_Ut_sizeAt_7 : decode b_Ut_sizeAt 7 = .ok (.istore_n 3, 1) := by decide +kernel
theorem d_Ut_sizeAt_8 : decode b_Ut_sizeAt 8 = .ok (.iload_n 3, 1) := by decide +kernel
theorem d_Ut_sizeAt_9 : decode b_Ut_sizeAt 9 = .ok (.invokestatic 7, 3) := by decide +kernel
theorem d_Ut_sizeAt_12 : decode b_Ut_sizeAt 12 = .ok (.istore 4, 2) := by decide +kernel
theorem d_Ut_sizeAt_14 : decode b_Ut_sizeAt 14 = .ok (.iload 4, 2) := by decide +kernel
theorem d_Ut_sizeAt_16 : decode b_Ut_sizeAt 16 = .ok (.iload_n 2, 1) := by decide +kernel
theorem d_Ut_sizeAt_17 : decode b_Ut_sizeAt 17 = .ok (.iload_n 1, 1) := by decide +kernel
theorem d_Ut_sizeAt_18 : decode b_Ut_sizeAt 18 = .ok (.isub, 1) := by decide +kernel
theorem d_Ut_sizeAt_19 : decode b_Ut_sizeAt 19 = .ok (.if_icmp .le 5, 3) := by decide +kernel
theorem d_Ut_sizeAt_22 : decode b_Ut_sizeAt 22 = .ok (.iconst 0, 1) := by decide +kernel
theorem d_Ut_sizeAt_23 : decode b_Ut_sizeAt 23 = .ok (.ireturn, 1) := by decide +kernel
theorem d_Ut_sizeAt_24 : decode b_Ut_sizeAt 24 = .ok (.iload 4, 2) := by decide +kernel
theorem d_Ut_sizeAt_26 : decode b_Ut_sizeAt 26 = .ok (.iconst 1, 1) := by decide +kernel
theorem d_Ut_sizeAt_27 : decode b_Ut_sizeAt 27 = .ok (.if_icmp .le 21, 3) := by decide +kernel
theorem d_Ut_sizeAt_30 : decode b_Ut_sizeAt 30 = .ok (.iload_n 3, 1) := by decide +kernel
theorem d_Ut_sizeAt_31 : decode b_Ut_sizeAt 31 = .ok (.aload_n 0, 1) := by decide +kernel
theorem d_Ut_sizeAt_32 : decode b_Ut_sizeAt 32 = .ok (.iload_n 1, 1) := by decide +kernel
theorem d_Ut_sizeAt_33 : decode b_Ut_sizeAt 33 = .ok (.iconst 1, 1) := by decide +kernel
theorem d_Ut_sizeAt_34 : decode b_Ut_sizeAt 34 = .ok (.iadd, 1) := by decide +kernel
theorem d_Ut_sizeAt_35 : decode b_Ut_sizeAt 35 = .ok (.baload, 1) := by decide +kernel
theorem d_Ut_sizeAt_36 : decode b_Ut_sizeAt 36 = .ok (.sipush 255, 3) := by decide +kernel
theorem d_Ut_sizeAt_39 : decode b_Ut_sizeAt 39 = .ok (.iand, 1) := by decide +kernel
theorem d_Ut_sizeAt_40 : decode b_Ut_sizeAt 40 = .ok (.invokestatic 13, 3) := by decide +kernel
theorem d_Ut_sizeAt_43 : decode b_Ut_sizeAt 43 = .ok (.ifCond .ne 5, 3) := by decide +kernel
theorem d_Ut_sizeAt_46 : decode b_Ut_sizeAt 46 = .ok (.iconst 0, 1) := by decide +kernel
theorem d_Ut_sizeAt_47 : decode b_Ut_sizeAt 47 = .ok (.ireturn, 1) := by decide +kernel
theorem d_Ut_sizeAt_48 : decode b_Ut_sizeAt 48 = .ok (.iconst 2, 1) := by decide +kernel
theorem d_Ut_sizeAt_49 : decode b_Ut_sizeAt 49 = .ok (.istore 5, 2) := by decide +kernel
theorem d_Ut_sizeAt_51 : decode b_Ut_sizeAt 51 = .ok (.iload 5, 2) := by decide +kernel
theorem d_Ut_sizeAt_53 : decode b_Ut_sizeAt 53 = .ok (.iload 4, 2) := by decide +kernel
theorem d_Ut_sizeAt_55 : decode b_Ut_sizeAt 55 = .ok (.if_icmp .ge 27, 3) := by decide +kernel
theorem d_Ut_sizeAt_58 : decode b_Ut_sizeAt 58 = .ok (.aload_n 0, 1) := by decide +kernel
theorem d_Ut_sizeAt_59 : decode b_Ut_sizeAt 59 = .ok (.iload_n 1, 1) := by decide +kernel
theorem d_Ut_sizeAt_60 : decode b_Ut_sizeAt 60 = .ok (.iload 5, 2) := by decide +kernel
theorem d_Ut_sizeAt_62 : decode b_Ut_sizeAt 62 = .ok (.iadd, 1) := by decide +kernel
theorem d_Ut_sizeAt_63 : decode b_Ut_sizeAt 63 = .ok (.baload, 1) := by decide +kernel
theorem d_Ut_sizeAt_64 : decode b_Ut_sizeAt 64 = .ok (.sipush 192, 3) := by decide +kernel
theorem d_Ut_sizeAt_67 : decode b_Ut_sizeAt 67 = .ok (.iand, 1) := by decide +kernel
theorem d_Ut_sizeAt_68 : decode b_Ut_sizeAt 68 = .ok (.sipush 128, 3) := by decide +kernel
theorem d_Ut_sizeAt_71 : decode b_Ut_sizeAt 71 = .ok (.if_icmp .eq 5, 3) := by decide +kernel
theorem d_Ut_sizeAt_74 : decode b_Ut_sizeAt 74 = .ok (.iconst 0, 1) := by decide +kernel
theorem d_Ut_sizeAt_75 : decode b_Ut_sizeAt 75 = .ok (.ireturn, 1) := by decide +kernel
theorem d_Ut_sizeAt_76 : decode b_Ut_sizeAt 76 = .ok (.iinc 5 1, 3) := by decide +kernel
theorem d_Ut_sizeAt_79 : decode b_Ut_sizeAt 79 = .ok (.goto (-28), 3) := by decide +kernel
theorem d_Ut_sizeAt_82 : decode b_Ut_sizeAt 82 = .ok (.iload 4, 2) := by decide +kernel
theorem d_Ut_sizeAt_84 : decode b_Ut_sizeAt 84 = .ok (.ireturn, 1) := by decide +kernel
theorem d_Ut_sizeByLead_0 : decode b_Ut_sizeByLead 0 = .ok (.iload_n 0, 1) := by decide +kernel
theorem d_Ut_sizeByLead_1 : decode b_Ut_sizeByLead 1 = .ok (.sipush 128, 3) := by decide +kernel
theorem d_Ut_sizeByLead_4 : decode b_Ut_sizeByLead 4 = .ok (.if_icmp .ge 5, 3) := by decide +kernel
theorem d_Ut_sizeByLead_7 : decode b_Ut_sizeByLead 7 = .ok (.iconst 1, 1) := by decide +kernel
theorem d_Ut_sizeByLead_8 : decode b_Ut_sizeByLead 8 = .ok (.ireturn, 1) := by decide +kernel
theorem d_Ut_sizeByLead_9 : decode b_Ut_sizeByLead 9 = .ok (.iload_n 0, 1) := by decide +kernel
theorem d_Ut_sizeByLead_10 : decode b_Ut_sizeByLead 10 = .ok (.sipush 194, 3) := by decide +kernel
theorem d_Ut_sizeByLead_13 : decode b_Ut_sizeByLead 13 = .ok (.if_icmp .lt 10, 3) := by decide +kernel
theorem d_Ut_sizeByLead_16 : decode b_Ut_sizeByLead 16 = .ok (.iload_n 0, 1) := by decide +kernel
theorem d_Ut_sizeByLead_17 : decode b_Ut_sizeByLead 17 = .ok (.sipush 244, 3) := by decide +kernel
theorem d_Ut_sizeByLead_20 : decode b_Ut_sizeByLead 20 = .ok (.if_icmp .le 5, 3) := by decide +kernel
theorem d_Ut_sizeByLead_23 : decode b_Ut_sizeByLead 23 = .ok (.iconst 0, 1) := by decide +kernel
theorem d_Ut_sizeByLead_24 : decode b_Ut_sizeByLead 24 = .ok (.ireturn, 1) := by decide +kernel
theorem d_Ut_sizeByLead_25 : decode b_Ut_sizeByLead 25 = .ok (.iload_n 0, 1) := by decide +kernel
theorem d_Ut_sizeByLead_26 : decode b_Ut_sizeByLead 26 = .ok (.sipush 224, 3) := by decide +kernel
theorem d_Ut_sizeByLead_29 : decode b_Ut_sizeByLead 29 = .ok (.if_icmp .ge 7, 3) := by decide +kernel
theorem d_Ut_sizeByLead_32 : decode b_Ut_sizeByLead 32 = .ok (.iconst 2, 1) := by decide +kernel
theorem d_Ut_sizeByLead_33 : decode b_Ut_sizeByLead 33 = .ok (.goto 15, 3) := by decide +kernel
theorem d_Ut_sizeByLead_36 : decode b_Ut_sizeByLead 36 = .ok (.iload_n 0, 1) := by decide +kernel
theorem d_Ut_sizeByLead_37 : decode b_Ut_sizeByLead 37 = .ok (.sipush 240, 3) := by decide +kernel
theorem d_Ut_sizeByLead_40 : decode b_Ut_sizeByLead 40 = .ok (.if_icmp .ge 7, 3) := by decide +kernel
theorem d_Ut_sizeByLead_43 : decode b_Ut_sizeByLead 43 = .ok (.iconst 3, 1) := by decide +kernel
theorem d_Ut_sizeByLead_44 : decode b_Ut_sizeByLead 44 = .ok (.goto 4, 3) := by decide +kernel
theorem d_Ut_sizeByLead_47 : decode b_Ut_sizeByLead 47 = .ok (.iconst 4, 1) := by decide +kernel
theorem d_Ut_sizeByLead_48 : decode b_Ut_sizeByLead 48 = .ok (.ireturn, 1) := by decide +kernel
theorem d_Ut_isSecond_0 : decode b_Ut_isSecond 0 = .ok (.iload_n 0, 1) := by decide +kernel
theorem d_Ut_isSecond_1 : decode b_Ut_isSecond 1 = .ok (.sipush 224, 3) := by decide +kernel
theorem d_Ut_isSecond_4 : decode b_Ut_isSecond 4 = .ok (.if_icmp .ne 9, 3) := by decide +kernel
theorem d_Ut_isSecond_7 : decode b_Ut_isSecond 7 = .ok (.sipush 160, 3) := by decide +kernel
theorem d_Ut_isSecond_10 : decode b_Ut_isSecond 10 = .ok (.goto 19, 3) := by decide +kernel
theorem d_Ut_isSecond_13 : decode b_Ut_isSecond 13 = .ok (.iload_n 0, 1) := by decide +kernel
theorem d_Ut_isSecond_14 : decode b_Ut_isSecond 14 = .ok (.sipush 240, 3) := by decide +kernel
theorem d_Ut_isSecond_17 : decode b_Ut_isSecond 17 = .ok (.if_icmp .ne 9, 3) := by decide +kernel
theorem d_Ut_isSecond_20 : decode b_Ut_isSecond 20 = .ok (.sipush 144, 3) := by decide +kernel
theorem d_Ut_isSecond_23 : decode b_Ut_isSecond 23 = .ok (.goto 6, 3) := by decide +kernel
theorem d_Ut_isSecond_26 : decode b_Ut_isSecond 26 = .ok (.sipush 128, 3) := by decide +kernel
theorem d_Ut_isSecond_29 : decode b_Ut_isSecond 29 = .ok (.istore_n 2, 1) := by decide +kernel
theorem d_Ut_isSecond_30 : decode b_Ut_isSecond 30 = .ok (.iload_n 0, 1) := by decide +kernel
theorem d_Ut_isSecond_31 : decode b_Ut_isSecond 31 = .ok (.sipush 237, 3) := by decide +kernel
theorem d_Ut_isSecond_34 : decode b_Ut_isSecond 34 = .ok (.if_icmp .ne 9, 3) := by decide +kernel
theorem d_Ut_isSecond_37 : decode b_Ut_isSecond 37 = .ok (.sipush 159, 3) := by decide +kernel
theorem d_Ut_isSecond_40 : decode b_Ut_isSecond 40 = .ok (.goto 19, 3) := by decide +kernel
theorem d_Ut_isSecond_43 : decode b_Ut_isSecond 43 = .ok (.iload_n 0, 1) := by decide +kernel
theorem d_Ut_isSecond_44 : decode b_Ut_isSecond 44 = .ok (.sipush 244, 3) := by decide +kernel
theorem d_Ut_isSecond_47 : decode b_Ut_isSecond 47 = .ok (.if_icmp .ne 9, 3) := by decide +kernel
theorem d_Ut_isSecond_50 : decode b_Ut_isSecond 50 = .ok (.sipush 143, 3) := by decide +kernel
theorem d_Ut_isSecond_53 : decode b_Ut_isSecond 53 = .ok (.goto 6, 3) := by decide +kernel
theorem d_Ut_isSecond_56 : decode b_Ut_isSecond 56 = .ok (.sipush 191, 3) := by decide +kernel
theorem d_Ut_isSecond_59 : decode b_Ut_isSecond 59 = .ok (.istore_n 3, 1) := by decide +kernel
theorem d_Ut_isSecond_60 : decode b_Ut_isSecond 60 = .ok (.iload_n 1, 1) := by decide +kernel
theorem d_Ut_isSecond_61 : decode b_Ut_isSecond 61 = .ok (.iload_n 2, 1) := by decide +kernel
theorem d_Ut_isSecond_62 : decode b_Ut_isSecond 62 = .ok (.if_icmp .lt 12, 3) := by decide +kernel
theorem d_Ut_isSecond_65 : decode b_Ut_isSecond 65 = .ok (.iload_n 1, 1) := by decide +kernel
theorem d_Ut_isSecond_66 : decode b_Ut_isSecond 66 = .ok (.iload_n 3, 1) := by decide +kernel
theorem d_Ut_isSecond_67 : decode b_Ut_isSecond 67 = .ok (.if_icmp .gt 7, 3) := by decide +kernel
theorem d_Ut_isSecond_70 : decode b_Ut_isSecond 70 = .ok (.iconst 1, 1) := by decide +kernel
theorem d_Ut_isSecond_71 : decode b_Ut_isSecond 71 = .ok (.goto 4, 3) := by decide +kernel
theorem d_Ut_isSecond_74 : decode b_Ut_isSecond 74 = .ok (.iconst 0, 1) := by decide +kernel
theorem d_Ut_isSecond_75 : decode b_Ut_isSecond 75 = .ok (.ireturn, 1) := by decide +kernel
theorem d_Ut_valueAt_0 : decode b_Ut_valueAt 0 = .ok (.iload_n 2, 1) := by decide +kernel
theorem d_Ut_valueAt_1 : decode b_Ut_valueAt 1 = .ok (.iconst 1, 1) := by decide +kernel
theorem d_Ut_valueAt_2 : decode b_Ut_valueAt 2 = .ok (.if_icmp .ne 7, 3) := by decide +kernel
theorem d_Ut_valueAt_5 : decode b_Ut_valueAt 5 = .ok (.aload_n 0, 1) := by decide +kernel
theorem d_Ut_valueAt_6 : decode b_Ut_valueAt 6 = .ok (.iload_n 1, 1) := by decide +kernel
theorem d_Ut_valueAt_7 : decode b_Ut_valueAt 7 = .ok (.baload, 1) := by decide +kernel
theorem d_Ut_valueAt_8 : decode b_Ut_valueAt 8 = .ok (.ireturn, 1) := by decide +kernel
theorem d_Ut_valueAt_9 : decode b_Ut_valueAt 9 = .ok (.aload_n 0, 1) := by decide +kernel
theorem d_Ut_valueAt_10 : decode b_Ut_valueAt 10 = .ok (.iload_n 1, 1) := by decide +kernel
theorem d_Ut_valueAt_11 : decode b_Ut_valueAt 11 = .ok (.baload, 1) := by decide +kernel
theorem d_Ut_valueAt_12 : decode b_Ut_valueAt 12 = .ok (.sipush 255, 3) := by decide +kernel
theorem d_Ut_valueAt_15 : decode b_Ut_valueAt 15 = .ok (.iload_n 2, 1) := by decide +kernel
theorem d_Ut_valueAt_16 : decode b_Ut_valueAt 16 = .ok (.iconst 1, 1) := by decide +kernel
theorem d_Ut_valueAt_17 : decode b_Ut_valueAt 17 = .ok (.iadd, 1) := by decide +kernel
theorem d_Ut_valueAt_18 : decode b_Ut_valueAt 18 = .ok (.ishr, 1) := by decide +kernel
theorem d_Ut_valueAt_19 : decode b_Ut_valueAt 19 = .ok (.iand, 1) := by decide +kernel
theorem d_Ut_valueAt_20 : decode b_Ut_valueAt 20 = .ok (.istore_n 3, 1) := by decide +kernel
theorem d_Ut_valueAt_21 : decode b_Ut_valueAt 21 = .ok (.iconst 1, 1) := by decide +kernel
theorem d_Ut_valueAt_22 : decode b_Ut_valueAt 22 = .ok (.istore 4, 2) := by decide +kernel
theorem d_Ut_valueAt_24 : decode b_Ut_valueAt 24 = .ok (.iload 4, 2) := by decide +kernel
theorem d_Ut_valueAt_26 : decode b_Ut_valueAt 26 = .ok (.iload_n 2, 1) := by decide +kernel
theorem d_Ut_valueAt_27 : decode b_Ut_valueAt 27 = .ok (.if_icmp .ge 24, 3) := by decide +kernel
theorem d_Ut_valueAt_30 : decode b_Ut_valueAt 30 = .ok (.iload_n 3, 1) := by decide +kernel
theorem d_Ut_valueAt_31 : decode b_Ut_valueAt 31 = .ok (.bipush 6, 2) := by decide +kernel
theorem d_Ut_valueAt_33 : decode b_Ut_valueAt 33 = .ok (.ishl, 1) := by decide +kernel
theorem d_Ut_valueAt_34 : decode b_Ut_valueAt 34 = .ok (.aload_n 0, 1) := by decide +kernel
theorem d_Ut_valueAt_35 : decode b_Ut_valueAt 35 = .ok (.iload_n 1, 1) := by decide +kernel
theorem d_Ut_valueAt_36 : decode b_Ut_valueAt 36 = .ok (.iload 4, 2) := by decide +kernel
theorem d_Ut_valueAt_38 : decode b_Ut_valueAt 38 = .ok (.iadd, 1) := by decide +kernel
theorem d_Ut_valueAt_39 : decode b_Ut_valueAt 39 = .ok (.baload, 1) := by decide +kernel
theorem d_Ut_valueAt_40 : decode b_Ut_valueAt 40 = .ok (.bipush 63, 2) := by decide +kernel
theorem d_Ut_valueAt_42 : decode b_Ut_valueAt 42 = .ok (.iand, 1) := by decide +kernel
theorem d_Ut_valueAt_43 : decode b_Ut_valueAt 43 = .ok (.ior, 1) := by decide +kernel
theorem d_Ut_valueAt_44 : decode b_Ut_valueAt 44 = .ok (.istore_n 3, 1) := by decide +kernel
theorem d_Ut_valueAt_45 : decode b_Ut_valueAt 45 = .ok (.iinc 4 1, 3) := by decide +kernel
theorem d_Ut_valueAt_48 : decode b_Ut_valueAt 48 = .ok (.goto (-24), 3) := by decide +kernel
theorem d_Ut_valueAt_51 : decode b_Ut_valueAt 51 = .ok (.iload_n 3, 1) := by decide +kernel
theorem d_Ut_valueAt_52 : decode b_Ut_valueAt 52 = .ok (.ireturn, 1) := by decide +kernel
theorem d_To_clear_0 : decode b_To_clear 0 = .ok (.aload_n 0, 1) := by decide +kernel
theorem d_To_clear_1 : decode b_To_clear 1 = .ok (.iconst 0, 1) := by decide +kernel
theorem d_To_clear_2 : decode b_To_clear 2 = .ok (.putfield 7, 3) := by decide +kernel
theorem d_To_clear_5 : decode b_To_clear 5 = .ok (.return_, 1) := by decide +kernel
theorem d_Te_spanEnd_0 : decode b_Te_spanEnd 0 = .ok (.iload_n 1, 1) := by decide +kernel
theorem d_Te_spanEnd_1 : decode b_Te_spanEnd 1 = .ok (.iconst 1, 1) := by decide +kernel
theorem d_Te_spanEnd_2 : decode b_Te_spanEnd 2 = .ok (.iadd, 1) := by decide +kernel
theorem d_Te_spanEnd_3 : decode b_Te_spanEnd 3 = .ok (.istore_n 2, 1) := by decide +kernel
theorem d_Te_spanEnd_4 : decode b_Te_spanEnd 4 = .ok (.aload_n 0, 1) := by decide +kernel
theorem d_Te_spanEnd_5 : decode b_Te_spanEnd 5 = .ok (.iload_n 1, 1) := by decide +kernel
theorem d_Te_spanEnd_6 : decode b_Te_spanEnd 6 = .ok (.invokevirtual 33, 3) := by decide +kernel
theorem d_Te_spanEnd_9 : decode b_Te_spanEnd 9 = .ok (.invokestatic 37, 3) := by decide +kernel
theorem d_Te_spanEnd_12 : decode b_Te_spanEnd 12 = .ok (.ifCond .ne 5, 3) := by decide +kernel
theorem d_Te_spanEnd_15 : decode b_Te_spanEnd 15 = .ok (.iload_n 2, 1) := by decide +kernel
theorem d_Te_spanEnd_16 : decode b_Te_spanEnd 16 = .ok (.ireturn, 1) := by decide +kernel
theorem d_Te_spanEnd_17 : decode b_Te_spanEnd 17 = .ok (.iload_n 2, 1) := by decide +kernel
theorem d_Te_spanEnd_18 : decode b_Te_spanEnd 18 = .ok (.aload_n 0, 1) := by decide +kernel
theorem d_Te_spanEnd_19 : decode b_Te_spanEnd 19 = .ok (.getfield 7, 3) := by decide +kernel
theorem d_Te_spanEnd_22 : decode b_Te_spanEnd 22 = .ok (.if_icmp .ge 36, 3) := by decide +kernel
theorem d_Te_spanEnd_25 : decode b_Te_spanEnd 25 = .ok (.aload_n 0, 1) := by decide +kernel
theorem d_Te_spanEnd_26 : decode b_Te_spanEnd 26 = .ok (.iload_n 2, 1) := by decide +kernel
theorem d_Te_spanEnd_27 : decode b_Te_spanEnd 27 = .ok (.invokevirtual 33, 3) := by decide +kernel
theorem d_Te_spanEnd_30 : decode b_Te_spanEnd 30 = .ok (.invokestatic 37, 3) := by decide +kernel
theorem d_Te_spanEnd_33 : decode b_Te_spanEnd 33 = .ok (.ifCond .eq 9, 3) := by decide +kernel
theorem d_Te_spanEnd_36 : decode b_Te_spanEnd 36 = .ok (.iinc 2 1, 3) := by decide +kernel
theorem d_Te_spanEnd_39 : decode b_Te_spanEnd 39 = .ok (.goto (-22), 3) := by decide +kernel
theorem d_Te_spanEnd_42 : decode b_Te_spanEnd 42 = .ok (.aload_n 0, 1) := by decide +kernel
theorem d_Te_spanEnd_43 : decode b_Te_spanEnd 43 = .ok (.iload_n 2, 1) := by decide +kernel
theorem d_Te_spanEnd_44 : decode b_Te_spanEnd 44 = .ok (.invokevirtual 43, 3) := by decide +kernel
theorem d_Te_spanEnd_47 : decode b_Te_spanEnd 47 = .ok (.ifCond .eq 9, 3) := by decide +kernel
theorem d_Te_spanEnd_50 : decode b_Te_spanEnd 50 = .ok (.iinc 2 2, 3) := by decide +kernel
theorem d_Te_spanEnd_53 : decode b_Te_spanEnd 53 = .ok (.goto (-36), 3) := by decide +kernel
theorem d_Te_spanEnd_56 : decode b_Te_spanEnd 56 = .ok (.iload_n 2, 1) := by decide +kernel
theorem d_Te_spanEnd_57 : decode b_Te_spanEnd 57 = .ok (.ireturn, 1) := by decide +kernel
theorem d_Te_spanEnd_58 : decode b_Te_spanEnd 58 = .ok (.iload_n 2, 1) := by decide +kernel
theorem d_Te_spanEnd_59 : decode b_Te_spanEnd 59 = .ok (.ireturn, 1) := by decide +kernel
theorem d_Te_sortAt_0 : decode b_Te_sortAt 0 = .ok (.aload_n 0, 1) := by decide +kernel
theorem d_Te_sortAt_1 : decode b_Te_sortAt 1 = .ok (.getfield 13, 3) := by decide +kernel
theorem d_Te_sortAt_4 : decode b_Te_sortAt 4 = .ok (.iload_n 1, 1) := by decide +kernel
theorem d_Te_sortAt_5 : decode b_Te_sortAt 5 = .ok (.iaload, 1) := by decide +kernel
theorem d_Te_sortAt_6 : decode b_Te_sortAt 6 = .ok (.invokestatic 50, 3) := by decide +kernel
theorem d_Te_sortAt_9 : decode b_Te_sortAt 9 = .ok (.ireturn, 1) := by decide +kernel
theorem d_So_of_0 : decode b_So_of 0 = .ok (.iload_n 0, 1) := by decide +kernel
theorem d_So_of_1 : decode b_So_of 1 = .ok (.invokestatic 7, 3) := by decide +kernel
theorem d_So_of_4 : decode b_So_of 4 = .ok (.ifCond .eq 5, 3) := by decide +kernel
theorem d_So_of_7 : decode b_So_of 7 = .ok (.iconst 1, 1) := by decide +kernel
theorem d_So_of_8 : decode b_So_of 8 = .ok (.ireturn, 1) := by decide +kernel
theorem d_So_of_9 : decode b_So_of 9 = .ok (.iload_n 0, 1) := by decide +kernel
theorem d_So_of_10 : decode b_So_of 10 = .ok (.bipush 48, 2) := by decide +kernel
theorem d_So_of_12 : decode b_So_of 12 = .ok (.if_icmp .lt 11, 3) := by decide +kernel
theorem d_So_of_15 : decode b_So_of 15 = .ok (.iload_n 0, 1) := by decide +kernel
theorem d_So_of_16 : decode b_So_of 16 = .ok (.bipush 57, 2) := by decide +kernel
theorem d_So_of_18 : decode b_So_of 18 = .ok (.if_icmp .gt 5, 3) := by decide +kernel
theorem d_So_of_21 : decode b_So_of 21 = .ok (.iconst 2, 1) := by decide +kernel
theorem d_So_of_22 : decode b_So_of 22 = .ok (.ireturn, 1) := by decide +kernel
theorem d_So_of_23 : decode b_So_of 23 = .ok (.iload_n 0, 1) := by decide +kernel
theorem d_So_of_24 : decode b_So_of 24 = .ok (.sipush 19968, 3) := by decide +kernel
theorem d_So_of_27 : decode b_So_of 27 = .ok (.if_icmp .lt 12, 3) := by decide +kernel
theorem d_So_of_30 : decode b_So_of 30 = .ok (.iload_n 0, 1) := by decide +kernel
theorem d_So_of_31 : decode b_So_of 31 = .ok (.ldc 13, 2) := by decide +kernel
theorem d_So_of_33 : decode b_So_of 33 = .ok (.if_icmp .gt 6, 3) := by decide +kernel
theorem d_So_of_36 : decode b_So_of 36 = .ok (.bipush 7, 2) := by decide +kernel
theorem d_So_of_38 : decode b_So_of 38 = .ok (.ireturn, 1) := by decide +kernel
theorem d_So_of_39 : decode b_So_of 39 = .ok (.iload_n 0, 1) := by decide +kernel
theorem d_So_of_40 : decode b_So_of 40 = .ok (.lookupswitch 77 #[(39, 74), (44, 72), (46, 74), (59, 72), (95, 68), (183, 70), (8217, 74)], 68) := by decide +kernel
theorem d_So_of_108 : decode b_So_of 108 = .ok (.iconst 3, 1) := by decide +kernel
theorem d_So_of_109 : decode b_So_of 109 = .ok (.ireturn, 1) := by decide +kernel
theorem d_So_of_110 : decode b_So_of 110 = .ok (.iconst 4, 1) := by decide +kernel
theorem d_So_of_111 : decode b_So_of 111 = .ok (.ireturn, 1) := by decide +kernel
theorem d_So_of_112 : decode b_So_of 112 = .ok (.iconst 5, 1) := by decide +kernel
theorem d_So_of_113 : decode b_So_of 113 = .ok (.ireturn, 1) := by decide +kernel
theorem d_So_of_114 : decode b_So_of 114 = .ok (.bipush 6, 2) := by decide +kernel
theorem d_So_of_116 : decode b_So_of 116 = .ok (.ireturn, 1) := by decide +kernel
theorem d_So_of_117 : decode b_So_of 117 = .ok (.iconst 0, 1) := by decide +kernel
theorem d_So_of_118 : decode b_So_of 118 = .ok (.ireturn, 1) := by decide +kernel
theorem d_So_isLetter_0 : decode b_So_isLetter 0 = .ok (.iload_n 0, 1) := by decide +kernel
theorem d_So_isLetter_1 : decode b_So_isLetter 1 = .ok (.bipush 97, 2) := by decide +kernel
theorem d_So_isLetter_3 : decode b_So_isLetter 3 = .ok (.if_icmp .lt 9, 3) := by decide +kernel
theorem d_So_isLetter_6 : decode b_So_isLetter 6 = .ok (.iload_n 0, 1) := by decide +kernel
theorem d_So_isLetter_7 : decode b_So_isLetter 7 = .ok (.bipush 122, 2) := by decide +kernel
theorem d_So_isLetter_9 : decode b_So_isLetter 9 = .ok (.if_icmp .le 71, 3) := by decide +kernel
theorem d_So_isLetter_12 : decode b_So_isLetter 12 = .ok (.iload_n 0, 1) := by decide +kernel
theorem d_So_isLetter_13 : decode b_So_isLetter 13 = .ok (.bipush 65, 2) := by decide +kernel
theorem d_So_isLetter_15 : decode b_So_isLetter 15 = .ok (.if_icmp .lt 9, 3) := by decide +kernel
theorem d_So_isLetter_18 : decode b_So_isLetter 18 = .ok (.iload_n 0, 1) := by decide +kernel
theorem d_So_isLetter_19 : decode b_So_isLetter 19 = .ok (.bipush 90, 2) := by decide +kernel
theorem d_So_isLetter_21 : decode b_So_isLetter 21 = .ok (.if_icmp .le 59, 3) := by decide +kernel
theorem d_So_isLetter_24 : decode b_So_isLetter 24 = .ok (.iload_n 0, 1) := by decide +kernel
theorem d_So_isLetter_25 : decode b_So_isLetter 25 = .ok (.sipush 192, 3) := by decide +kernel
theorem d_So_isLetter_28 : decode b_So_isLetter 28 = .ok (.if_icmp .lt 24, 3) := by decide +kernel
theorem d_So_isLetter_31 : decode b_So_isLetter 31 = .ok (.iload_n 0, 1) := by decide +kernel
theorem d_So_isLetter_32 : decode b_So_isLetter 32 = .ok (.sipush 591, 3) := by decide +kernel
theorem d_So_isLetter_35 : decode b_So_isLetter 35 = .ok (.if_icmp .gt 17, 3) := by decide +kernel
theorem d_So_isLetter_38 : decode b_So_isLetter 38 = .ok (.iload_n 0, 1) := by decide +kernel
theorem d_So_isLetter_39 : decode b_So_isLetter 39 = .ok (.sipush 215, 3) := by decide +kernel
theorem d_So_isLetter_42 : decode b_So_isLetter 42 = .ok (.if_icmp .eq 10, 3) := by decide +kernel
theorem d_So_isLetter_45 : decode b_So_isLetter 45 = .ok (.iload_n 0, 1) := by decide +kernel
theorem d_So_isLetter_46 : decode b_So_isLetter 46 = .ok (.sipush 247, 3) := by decide +kernel
theorem d_So_isLetter_49 : decode b_So_isLetter 49 = .ok (.if_icmp .ne 31, 3) := by decide +kernel
theorem d_So_isLetter_52 : decode b_So_isLetter 52 = .ok (.iload_n 0, 1) := by decide +kernel
theorem d_So_isLetter_53 : decode b_So_isLetter 53 = .ok (.sipush 913, 3) := by decide +kernel
theorem d_So_isLetter_56 : decode b_So_isLetter 56 = .ok (.if_icmp .lt 10, 3) := by decide +kernel
theorem d_So_isLetter_59 : decode b_So_isLetter 59 = .ok (.iload_n 0, 1) := by decide +kernel
theorem d_So_isLetter_60 : decode b_So_isLetter 60 = .ok (.sipush 1023, 3) := by decide +kernel
theorem d_So_isLetter_63 : decode b_So_isLetter 63 = .ok (.if_icmp .le 17, 3) := by decide +kernel
theorem d_So_isLetter_66 : decode b_So_isLetter 66 = .ok (.iload_n 0, 1) := by decide +kernel
theorem d_So_isLetter_67 : decode b_So_isLetter 67 = .ok (.sipush 1024, 3) := by decide +kernel
theorem d_So_isLetter_70 : decode b_So_isLetter 70 = .ok (.if_icmp .lt 14, 3) := by decide +kernel
theorem d_So_isLetter_73 : decode b_So_isLetter 73 = .ok (.iload_n 0, 1) := by decide +kernel
theorem d_So_isLetter_74 : decode b_So_isLetter 74 = .ok (.sipush 1279, 3) := by decide +kernel
theorem d_So_isLetter_77 : decode b_So_isLetter 77 = .ok (.if_icmp .gt 7, 3) := by decide +kernel
theorem d_So_isLetter_80 : decode b_So_isLetter 80 = .ok (.iconst 1, 1) := by decide +kernel
theorem d_So_isLetter_81 : decode b_So_isLetter 81 = .ok (.goto 4, 3) := by decide +kernel
theorem d_So_isLetter_84 : decode b_So_isLetter 84 = .ok (.iconst 0, 1) := by decide +kernel
theorem d_So_isLetter_85 : decode b_So_isLetter 85 = .ok (.ireturn, 1) := by decide +kernel
theorem d_So_isInner_0 : decode b_So_isInner 0 = .ok (.iload_n 0, 1) := by decide +kernel
theorem d_So_isInner_1 : decode b_So_isInner 1 = .ok (.iconst 1, 1) := by decide +kernel
theorem d_So_isInner_2 : decode b_So_isInner 2 = .ok (.if_icmp .eq 13, 3) := by decide +kernel
theorem d_So_isInner_5 : decode b_So_isInner 5 = .ok (.iload_n 0, 1) := by decide +kernel
theorem d_So_isInner_6 : decode b_So_isInner 6 = .ok (.iconst 2, 1) := by decide +kernel
theorem d_So_isInner_7 : decode b_So_isInner 7 = .ok (.if_icmp .eq 8, 3) := by decide +kernel
theorem d_So_isInner_10 : decode b_So_isInner 10 = .ok (.iload_n 0, 1) := by decide +kernel
theorem d_So_isInner_11 : decode b_So_isInner 11 = .ok (.iconst 3, 1) := by decide +kernel
theorem d_So_isInner_12 : decode b_So_isInner 12 = .ok (.if_icmp .ne 7, 3) := by decide +kernel
theorem d_So_isInner_15 : decode b_So_isInner 15 = .ok (.iconst 1, 1) := by decide +kernel
theorem d_So_isInner_16 : decode b_So_isInner 16 = .ok (.goto 4, 3) := by decide +kernel
theorem d_So_isInner_19 : decode b_So_isInner 19 = .ok (.iconst 0, 1) := by decide +kernel
theorem d_So_isInner_20 : decode b_So_isInner 20 = .ok (.ireturn, 1) := by decide +kernel
theorem d_Te_isTie_0 : decode b_Te_isTie 0 = .ok (.iload_n 1, 1) := by decide +kernel
theorem d_Te_isTie_1 : decode b_Te_isTie 1 = .ok (.iconst 1, 1) := by decide +kernel
theorem d_Te_isTie_2 : decode b_Te_isTie 2 = .ok (.if_icmp .lt 13, 3) := by decide +kernel
theorem d_Te_isTie_5 : decode b_Te_isTie 5 = .ok (.iload_n 1, 1) := by decide +kernel
theorem d_Te_isTie_6 : decode b_Te_isTie 6 = .ok (.iconst 1, 1) := by decide +kernel
theorem d_Te_isTie_7 : decode b_Te_isTie 7 = .ok (.iadd, 1) := by decide +kernel
theorem d_Te_isTie_8 : decode b_Te_isTie 8 = .ok (.aload_n 0, 1) := by decide +kernel
theorem d_Te_isTie_9 : decode b_Te_isTie 9 = .ok (.getfield 7, 3) := by decide +kernel
theorem d_Te_isTie_12 : decode b_Te_isTie 12 = .ok (.if_icmp .lt 5, 3) := by decide +kernel
theorem d_Te_isTie_15 : decode b_Te_isTie 15 = .ok (.iconst 0, 1) := by decide +kernel
theorem d_Te_isTie_16 : decode b_Te_isTie 16 = .ok (.ireturn, 1) := by decide +kernel
theorem d_Te_isTie_17 : decode b_Te_isTie 17 = .ok (.aload_n 0, 1) := by decide +kernel
theorem d_Te_isTie_18 : decode b_Te_isTie 18 = .ok (.iload_n 1, 1) := by decide +kernel
theorem d_Te_isTie_19 : decode b_Te_isTie 19 = .ok (.iconst 1, 1) := by decide +kernel
theorem d_Te_isTie_20 : decode b_Te_isTie 20 = .ok (.isub, 1) := by decide +kernel
theorem d_Te_isTie_21 : decode b_Te_isTie 21 = .ok (.invokevirtual 33, 3) := by decide +kernel
theorem d_Te_isTie_24 : decode b_Te_isTie 24 = .ok (.istore_n 2, 1) := by decide +kernel
theorem d_Te_isTie_25 : decode b_Te_isTie 25 = .ok (.aload_n 0, 1) := by decide +kernel
theorem d_Te_isTie_26 : decode b_Te_isTie 26 = .ok (.iload_n 1, 1) := by decide +kernel
theorem d_Te_isTie_27 : decode b_Te_isTie 27 = .ok (.iconst 1, 1) := by decide +kernel
theorem d_Te_isTie_28 : decode b_Te_isTie 28 = .ok (.iadd, 1) := by decide +kernel
theorem d_Te_isTie_29 : decode b_Te_isTie 29 = .ok (.invokevirtual 33, 3) := by decide +kernel
theorem d_Te_isTie_32 : decode b_Te_isTie 32 = .ok (.iload_n 2, 1) := by decide +kernel
theorem d_Te_isTie_33 : decode b_Te_isTie 33 = .ok (.if_icmp .ne 19, 3) := by decide +kernel
theorem d_Te_isTie_36 : decode b_Te_isTie 36 = .ok (.aload_n 0, 1) := by decide +kernel
theorem d_Te_isTie_37 : decode b_Te_isTie 37 = .ok (.iload_n 1, 1) := by decide +kernel
theorem d_Te_isTie_38 : decode b_Te_isTie 38 = .ok (.invokevirtual 33, 3) := by decide +kernel
theorem d_Te_isTie_41 : decode b_Te_isTie 41 = .ok (.iload_n 2, 1) := by decide +kernel
theorem d_Te_isTie_42 : decode b_Te_isTie 42 = .ok (.invokestatic 46, 3) := by decide +kernel
theorem d_Te_isTie_45 : decode b_Te_isTie 45 = .ok (.ifCond .eq 7, 3) := by decide +kernel
theorem d_Te_isTie_48 : decode b_Te_isTie 48 = .ok (.iconst 1, 1) := by decide +kernel
theorem d_Te_isTie_49 : decode b_Te_isTie 49 = .ok (.goto 4, 3) := by decide +kernel
theorem d_Te_isTie_52 : decode b_Te_isTie 52 = .ok (.iconst 0, 1) := by decide +kernel
theorem d_Te_isTie_53 : decode b_Te_isTie 53 = .ok (.ireturn, 1) := by decide +kernel
theorem d_So_ties_0 : decode b_So_ties 0 = .ok (.iload_n 1, 1) := by decide +kernel
theorem d_So_ties_1 : decode b_So_ties 1 = .ok (.iconst 1, 1) := by decide +kernel
theorem d_So_ties_2 : decode b_So_ties 2 = .ok (.if_icmp .ne 20, 3) := by decide +kernel
theorem d_So_ties_5 : decode b_So_ties 5 = .ok (.iload_n 0, 1) := by decide +kernel
theorem d_So_ties_6 : decode b_So_ties 6 = .ok (.iconst 4, 1) := by decide +kernel
theorem d_So_ties_7 : decode b_So_ties 7 = .ok (.if_icmp .eq 9, 3) := by decide +kernel
theorem d_So_ties_10 : decode b_So_ties 10 = .ok (.iload_n 0, 1) := by decide +kernel
theorem d_So_ties_11 : decode b_So_ties 11 = .ok (.bipush 6, 2) := by decide +kernel
theorem d_So_ties_13 : decode b_So_ties 13 = .ok (.if_icmp .ne 7, 3) := by decide +kernel
theorem d_So_ties_16 : decode b_So_ties 16 = .ok (.iconst 1, 1) := by decide +kernel
theorem d_So_ties_17 : decode b_So_ties 17 = .ok (.goto 4, 3) := by decide +kernel
theorem d_So_ties_20 : decode b_So_ties 20 = .ok (.iconst 0, 1) := by decide +kernel
theorem d_So_ties_21 : decode b_So_ties 21 = .ok (.ireturn, 1) := by decide +kernel
theorem d_So_ties_22 : decode b_So_ties 22 = .ok (.iload_n 1, 1) := by decide +kernel
theorem d_So_ties_23 : decode b_So_ties 23 = .ok (.iconst 2, 1) := by decide +kernel
theorem d_So_ties_24 : decode b_So_ties 24 = .ok (.if_icmp .ne 18, 3) := by decide +kernel
theorem d_So_ties_27 : decode b_So_ties 27 = .ok (.iload_n 0, 1) := by decide +kernel
theorem d_So_ties_28 : decode b_So_ties 28 = .ok (.iconst 5, 1) := by decide +kernel
theorem d_So_ties_29 : decode b_So_ties 29 = .ok (.if_icmp .eq 9, 3) := by decide +kernel
theorem d_So_ties_32 : decode b_So_ties 32 = .ok (.iload_n 0, 1) := by decide +kernel
theorem d_So_ties_33 : decode b_So_ties 33 = .ok (.bipush 6, 2) := by decide +kernel
theorem d_So_ties_35 : decode b_So_ties 35 = .ok (.if_icmp .ne 7, 3) := by decide +kernel
theorem d_So_ties_38 : decode b_So_ties 38 = .ok (.iconst 1, 1) := by decide +kernel
theorem d_So_ties_39 : decode b_So_ties 39 = .ok (.goto 4, 3) := by decide +kernel
theorem d_So_ties_42 : decode b_So_ties 42 = .ok (.iconst 0, 1) := by decide +kernel
theorem d_So_ties_43 : decode b_So_ties 43 = .ok (.ireturn, 1) := by decide +kernel
theorem d_Te_isWord_0 : decode b_Te_isWord 0 = .ok (.iload_n 1, 1) := by decide +kernel
theorem d_Te_isWord_1 : decode b_Te_isWord 1 = .ok (.istore_n 3, 1) := by decide +kernel
theorem d_Te_isWord_2 : decode b_Te_isWord 2 = .ok (.iload_n 3, 1) := by decide +kernel
theorem d_Te_isWord_3 : decode b_Te_isWord 3 = .ok (.iload_n 2, 1) := by decide +kernel
theorem d_Te_isWord_4 : decode b_Te_isWord 4 = .ok (.if_icmp .ge 37, 3) := by decide +kernel
theorem d_Te_isWord_7 : decode b_Te_isWord 7 = .ok (.aload_n 0, 1) := by decide +kernel
theorem d_Te_isWord_8 : decode b_Te_isWord 8 = .ok (.iload_n 3, 1) := by decide +kernel
theorem d_Te_isWord_9 : decode b_Te_isWord 9 = .ok (.invokevirtual 33, 3) := by decide +kernel
theorem d_Te_isWord_12 : decode b_Te_isWord 12 = .ok (.istore 4, 2) := by decide +kernel
theorem d_Te_isWord_14 : decode b_Te_isWord 14 = .ok (.iload 4, 2) := by decide +kernel
theorem d_Te_isWord_16 : decode b_Te_isWord 16 = .ok (.iconst 1, 1) := by decide +kernel
theorem d_Te_isWord_17 : decode b_Te_isWord 17 = .ok (.if_icmp .eq 16, 3) := by decide +kernel
theorem d_Te_isWord_20 : decode b_Te_isWord 20 = .ok (.iload 4, 2) := by decide +kernel
theorem d_Te_isWord_22 : decode b_Te_isWord 22 = .ok (.iconst 2, 1) := by decide +kernel
theorem d_Te_isWord_23 : decode b_Te_isWord 23 = .ok (.if_icmp .eq 10, 3) := by decide +kernel
theorem d_Te_isWord_26 : decode b_Te_isWord 26 = .ok (.iload 4, 2) := by decide +kernel
theorem d_Te_isWord_28 : decode b_Te_isWord 28 = .ok (.bipush 7, 2) := by decide +kernel
theorem d_Te_isWord_30 : decode b_Te_isWord 30 = .ok (.if_icmp .ne 5, 3) := by decide +kernel
theorem d_Te_isWord_33 : decode b_Te_isWord 33 = .ok (.iconst 1, 1) := by decide +kernel
theorem d_Te_isWord_34 : decode b_Te_isWord 34 = .ok (.ireturn, 1) := by decide +kernel
theorem d_Te_isWord_35 : decode b_Te_isWord 35 = .ok (.iinc 3 1, 3) := by decide +kernel
theorem d_Te_isWord_38 : decode b_Te_isWord 38 = .ok (.goto (-36), 3) := by decide +kernel
theorem d_Te_isWord_41 : decode b_Te_isWord 41 = .ok (.iconst 0, 1) := by decide +kernel
theorem d_Te_isWord_42 : decode b_Te_isWord 42 = .ok (.ireturn, 1) := by decide +kernel
theorem d_X_takeWords_0 : decode b_X_takeWords 0 = .ok (.aload_n 0, 1) := by decide +kernel
theorem d_X_takeWords_1 : decode b_X_takeWords 1 = .ok (.getfield 36, 3) := by decide +kernel
theorem d_X_takeWords_4 : decode b_X_takeWords 4 = .ok (.getfield 133, 3) := by decide +kernel
theorem d_X_takeWords_7 : decode b_X_takeWords 7 = .ok (.astore_n 3, 1) := by decide +kernel
theorem d_X_takeWords_8 : decode b_X_takeWords 8 = .ok (.iload_n 1, 1) := by decide +kernel
theorem d_X_takeWords_9 : decode b_X_takeWords 9 = .ok (.istore 4, 2) := by decide +kernel
theorem d_X_takeWords_11 : decode b_X_takeWords 11 = .ok (.iload 4, 2) := by decide +kernel
theorem d_X_takeWords_13 : decode b_X_takeWords 13 = .ok (.iload_n 2, 1) := by decide +kernel
theorem d_X_takeWords_14 : decode b_X_takeWords 14 = .ok (.if_icmp .ge 83, 3) := by decide +kernel
theorem d_X_takeWords_17 : decode b_X_takeWords 17 = .ok (.aload_n 3, 1) := by decide +kernel
theorem d_X_takeWords_18 : decode b_X_takeWords 18 = .ok (.aload_n 0, 1) := by decide +kernel
theorem d_X_takeWords_19 : decode b_X_takeWords 19 = .ok (.getfield 22, 3) := by decide +kernel
theorem d_X_takeWords_22 : decode b_X_takeWords 22 = .ok (.getfield 137, 3) := by decide +kernel
theorem d_X_takeWords_25 : decode b_X_takeWords 25 = .ok (.iload 4, 2) := by decide +kernel
theorem d_X_takeWords_27 : decode b_X_takeWords 27 = .ok (.sipush 255, 3) := by decide +kernel
theorem d_X_takeWords_30 : decode b_X_takeWords 30 = .ok (.iload_n 2, 1) := by decide +kernel
theorem d_X_takeWords_31 : decode b_X_takeWords 31 = .ok (.iload 4, 2) := by decide +kernel
theorem d_X_takeWords_33 : decode b_X_takeWords 33 = .ok (.isub, 1) := by decide +kernel
theorem d_X_takeWords_34 : decode b_X_takeWords 34 = .ok (.invokestatic 138, 3) := by decide +kernel
theorem d_X_takeWords_37 : decode b_X_takeWords 37 = .ok (.invokevirtual 141, 3) := by decide +kernel
theorem d_X_takeWords_40 : decode b_X_takeWords 40 = .ok (.aload_n 3, 1) := by decide +kernel
theorem d_X_takeWords_41 : decode b_X_takeWords 41 = .ok (.invokevirtual 147, 3) := by decide +kernel
theorem d_X_takeWords_44 : decode b_X_takeWords 44 = .ok (.aload_n 3, 1) := by decide +kernel
theorem d_X_takeWords_45 : decode b_X_takeWords 45 = .ok (.invokevirtual 150, 3) := by decide +kernel
theorem d_X_takeWords_48 : decode b_X_takeWords 48 = .ok (.aload_n 0, 1) := by decide +kernel
theorem d_X_takeWords_49 : decode b_X_takeWords 49 = .ok (.getfield 29, 3) := by decide +kernel
theorem d_X_takeWords_52 : decode b_X_takeWords 52 = .ok (.aload_n 3, 1) := by decide +kernel
theorem d_X_takeWords_53 : decode b_X_takeWords 53 = .ok (.invokevirtual 153, 3) := by decide +kernel
theorem d_X_takeWords_56 : decode b_X_takeWords 56 = .ok (.ifCond .ne 22, 3) := by decide +kernel
theorem d_X_takeWords_59 : decode b_X_takeWords 59 = .ok (.aload_n 0, 1) := by decide +kernel
theorem d_X_takeWords_60 : decode b_X_takeWords 60 = .ok (.getfield 36, 3) := by decide +kernel
theorem d_X_takeWords_63 : decode b_X_takeWords 63 = .ok (.invokevirtual 157, 3) := by decide +kernel
theorem d_X_takeWords_66 : decode b_X_takeWords 66 = .ok (.aload_n 0, 1) := by decide +kernel
theorem d_X_takeWords_67 : decode b_X_takeWords 67 = .ok (.getfield 43, 3) := by decide +kernel
theorem d_X_takeWords_70 : decode b_X_takeWords 70 = .ok (.aload_n 3, 1) := by decide +kernel
theorem d_X_takeWords_71 : decode b_X_takeWords 71 = .ok (.aload_n 0, 1) := by decide +kernel
theorem d_X_takeWords_72 : decode b_X_takeWords 72 = .ok (.getfield 47, 3) := by decide +kernel
theorem d_X_takeWords_75 : decode b_X_takeWords 75 = .ok (.invokevirtual 160, 3) := by decide +kernel
theorem d_X_takeWords_78 : decode b_X_takeWords 78 = .ok (.aload_n 0, 1) := by decide +kernel
theorem d_X_takeWords_79 : decode b_X_takeWords 79 = .ok (.dup, 1) := by decide +kernel
theorem d_X_takeWords_80 : decode b_X_takeWords 80 = .ok (.getfield 47, 3) := by decide +kernel
theorem d_X_takeWords_83 : decode b_X_takeWords 83 = .ok (.iconst 1, 1) := by decide +kernel
theorem d_X_takeWords_84 : decode b_X_takeWords 84 = .ok (.iadd, 1) := by decide +kernel
theorem d_X_takeWords_85 : decode b_X_takeWords 85 = .ok (.putfield 47, 3) := by decide +kernel
theorem d_X_takeWords_88 : decode b_X_takeWords 88 = .ok (.iinc 4 255, 6) := by decide +kernel
theorem d_X_takeWords_94 : decode b_X_takeWords 94 = .ok (.goto (-83), 3) := by decide +kernel
theorem d_X_takeWords_97 : decode b_X_takeWords 97 = .ok (.return_, 1) := by decide +kernel
theorem d_Wo_take_0 : decode b_Wo_take 0 = .ok (.aload_n 1, 1) := by decide +kernel
theorem d_Wo_take_1 : decode b_Wo_take 1 = .ok (.iload_n 2, 1) := by decide +kernel
theorem d_Wo_take_2 : decode b_Wo_take 2 = .ok (.aload_n 0, 1) := by decide +kernel
theorem d_Wo_take_3 : decode b_Wo_take 3 = .ok (.getfield 13, 3) := by decide +kernel
theorem d_Wo_take_6 : decode b_Wo_take 6 = .ok (.iconst 0, 1) := by decide +kernel
theorem d_Wo_take_7 : decode b_Wo_take 7 = .ok (.iload_n 3, 1) := by decide +kernel
theorem d_Wo_take_8 : decode b_Wo_take 8 = .ok (.invokestatic 17, 3) := by decide +kernel
theorem d_Wo_take_11 : decode b_Wo_take 11 = .ok (.aload_n 0, 1) := by decide +kernel
theorem d_Wo_take_12 : decode b_Wo_take 12 = .ok (.iload_n 3, 1) := by decide +kernel
theorem d_Wo_take_13 : decode b_Wo_take 13 = .ok (.putfield 7, 3) := by decide +kernel
theorem d_Wo_take_16 : decode b_Wo_take 16 = .ok (.return_, 1) := by decide +kernel
theorem d_Wo_dropOwnersEnding_0 : decode b_Wo_dropOwnersEnding 0 = .ok (.aload_n 0, 1) := by decide +kernel
theorem d_Wo_dropOwnersEnding_1 : decode b_Wo_dropOwnersEnding 1 = .ok (.getfield 7, 3) := by decide +kernel
theorem d_Wo_dropOwnersEnding_4 : decode b_Wo_dropOwnersEnding 4 = .ok (.iconst 2, 1) := by decide +kernel
theorem d_Wo_dropOwnersEnding_5 : decode b_Wo_dropOwnersEnding 5 = .ok (.if_icmp .gt 4, 3) := by decide +kernel
theorem d_Wo_dropOwnersEnding_8 : decode b_Wo_dropOwnersEnding 8 = .ok (.return_, 1) := by decide +kernel
theorem d_Wo_dropOwnersEnding_9 : decode b_Wo_dropOwnersEnding 9 = .ok (.aload_n 0, 1) := by decide +kernel
theorem d_Wo_dropOwnersEnding_10 : decode b_Wo_dropOwnersEnding 10 = .ok (.getfield 13, 3) := by decide +kernel
theorem d_Wo_dropOwnersEnding_13 : decode b_Wo_dropOwnersEnding 13 = .ok (.aload_n 0, 1) := by decide +kernel
theorem d_Wo_dropOwnersEnding_14 : decode b_Wo_dropOwnersEnding 14 = .ok (.getfield 7, 3) := by decide +kernel
theorem d_Wo_dropOwnersEnding_17 : decode b_Wo_dropOwnersEnding 17 = .ok (.iconst 2, 1) := by decide +kernel
theorem d_Wo_dropOwnersEnding_18 : decode b_Wo_dropOwnersEnding 18 = .ok (.isub, 1) := by decide +kernel
theorem d_Wo_dropOwnersEnding_19 : decode b_Wo_dropOwnersEnding 19 = .ok (.iaload, 1) := by decide +kernel
theorem d_Wo_dropOwnersEnding_20 : decode b_Wo_dropOwnersEnding 20 = .ok (.istore_n 1, 1) := by decide +kernel
theorem d_Wo_dropOwnersEnding_21 : decode b_Wo_dropOwnersEnding 21 = .ok (.aload_n 0, 1) := by decide +kernel
theorem d_Wo_dropOwnersEnding_22 : decode b_Wo_dropOwnersEnding 22 = .ok (.getfield 13, 3) := by decide +kernel
theorem d_Wo_dropOwnersEnding_25 : decode b_Wo_dropOwnersEnding 25 = .ok (.aload_n 0, 1) := by decide +kernel
theorem d_Wo_dropOwnersEnding_26 : decode b_Wo_dropOwnersEnding 26 = .ok (.getfield 7, 3) := by decide +kernel
theorem d_Wo_dropOwnersEnding_29 : decode b_Wo_dropOwnersEnding 29 = .ok (.iconst 1, 1) := by decide +kernel
theorem d_Wo_dropOwnersEnding_30 : decode b_Wo_dropOwnersEnding 30 = .ok (.isub, 1) := by decide +kernel
theorem d_Wo_dropOwnersEnding_31 : decode b_Wo_dropOwnersEnding 31 = .ok (.iaload, 1) := by decide +kernel
theorem d_Wo_dropOwnersEnding_32 : decode b_Wo_dropOwnersEnding 32 = .ok (.istore_n 2, 1) := by decide +kernel
theorem d_Wo_dropOwnersEnding_33 : decode b_Wo_dropOwnersEnding 33 = .ok (.iload_n 1, 1) := by decide +kernel
theorem d_Wo_dropOwnersEnding_34 : decode b_Wo_dropOwnersEnding 34 = .ok (.bipush 39, 2) := by decide +kernel
theorem d_Wo_dropOwnersEnding_36 : decode b_Wo_dropOwnersEnding 36 = .ok (.if_icmp .eq 10, 3) := by decide +kernel
theorem d_Wo_dropOwnersEnding_39 : decode b_Wo_dropOwnersEnding 39 = .ok (.iload_n 1, 1) := by decide +kernel
theorem d_Wo_dropOwnersEnding_40 : decode b_Wo_dropOwnersEnding 40 = .ok (.sipush 8217, 3) := by decide +kernel
theorem d_Wo_dropOwnersEnding_43 : decode b_Wo_dropOwnersEnding 43 = .ok (.if_icmp .ne 25, 3) := by decide +kernel
theorem d_Wo_dropOwnersEnding_46 : decode b_Wo_dropOwnersEnding 46 = .ok (.iload_n 2, 1) := by decide +kernel
theorem d_Wo_dropOwnersEnding_47 : decode b_Wo_dropOwnersEnding 47 = .ok (.bipush 115, 2) := by decide +kernel
theorem d_Wo_dropOwnersEnding_49 : decode b_Wo_dropOwnersEnding 49 = .ok (.if_icmp .eq 9, 3) := by decide +kernel
theorem d_Wo_dropOwnersEnding_52 : decode b_Wo_dropOwnersEnding 52 = .ok (.iload_n 2, 1) := by decide +kernel
theorem d_Wo_dropOwnersEnding_53 : decode b_Wo_dropOwnersEnding 53 = .ok (.bipush 83, 2) := by decide +kernel
theorem d_Wo_dropOwnersEnding_55 : decode b_Wo_dropOwnersEnding 55 = .ok (.if_icmp .ne 13, 3) := by decide +kernel
theorem d_Wo_dropOwnersEnding_58 : decode b_Wo_dropOwnersEnding 58 = .ok (.aload_n 0, 1) := by decide +kernel
theorem d_Wo_dropOwnersEnding_59 : decode b_Wo_dropOwnersEnding 59 = .ok (.dup, 1) := by decide +kernel
theorem d_Wo_dropOwnersEnding_60 : decode b_Wo_dropOwnersEnding 60 = .ok (.getfield 7, 3) := by decide +kernel
theorem d_Wo_dropOwnersEnding_63 : decode b_Wo_dropOwnersEnding 63 = .ok (.iconst 2, 1) := by decide +kernel
theorem d_Wo_dropOwnersEnding_64 : decode b_Wo_dropOwnersEnding 64 = .ok (.isub, 1) := by decide +kernel
theorem d_Wo_dropOwnersEnding_65 : decode b_Wo_dropOwnersEnding 65 = .ok (.putfield 7, 3) := by decide +kernel
theorem d_Wo_dropOwnersEnding_68 : decode b_Wo_dropOwnersEnding 68 = .ok (.return_, 1) := by decide +kernel
theorem d_Wo_lower_0 : decode b_Wo_lower 0 = .ok (.iconst 0, 1) := by decide +kernel
theorem d_Wo_lower_1 : decode b_Wo_lower 1 = .ok (.istore_n 1, 1) := by decide +kernel
theorem d_Wo_lower_2 : decode b_Wo_lower 2 = .ok (.iload_n 1, 1) := by decide +kernel
theorem d_Wo_lower_3 : decode b_Wo_lower 3 = .ok (.aload_n 0, 1) := by decide +kernel
theorem d_Wo_lower_4 : decode b_Wo_lower 4 = .ok (.getfield 7, 3) := by decide +kernel
theorem d_Wo_lower_7 : decode b_Wo_lower 7 = .ok (.if_icmp .ge 24, 3) := by decide +kernel
theorem d_Wo_lower_10 : decode b_Wo_lower 10 = .ok (.aload_n 0, 1) := by decide +kernel
theorem d_Wo_lower_11 : decode b_Wo_lower 11 = .ok (.getfield 13, 3) := by decide +kernel
theorem d_Wo_lower_14 : decode b_Wo_lower 14 = .ok (.iload_n 1, 1) := by decide +kernel
theorem d_Wo_lower_15 : decode b_Wo_lower 15 = .ok (.aload_n 0, 1) := by decide +kernel
theorem d_Wo_lower_16 : decode b_Wo_lower 16 = .ok (.getfield 13, 3) := by decide +kernel
theorem d_Wo_lower_19 : decode b_Wo_lower 19 = .ok (.iload_n 1, 1) := by decide +kernel
theorem d_Wo_lower_20 : decode b_Wo_lower 20 = .ok (.iaload, 1) := by decide +kernel
theorem d_Wo_lower_21 : decode b_Wo_lower 21 = .ok (.invokestatic 23, 3) := by decide +kernel
theorem d_Wo_lower_24 : decode b_Wo_lower 24 = .ok (.iastore, 1) := by decide +kernel
theorem d_Wo_lower_25 : decode b_Wo_lower 25 = .ok (.iinc 1 1, 3) := by decide +kernel
theorem d_Wo_lower_28 : decode b_Wo_lower 28 = .ok (.goto (-26), 3) := by decide +kernel
theorem d_Wo_lower_31 : decode b_Wo_lower 31 = .ok (.return_, 1) := by decide +kernel
theorem d_Wo_lowered_0 : decode b_Wo_lowered 0 = .ok (.iload_n 0, 1) := by decide +kernel
theorem d_Wo_lowered_1 : decode b_Wo_lowered 1 = .ok (.bipush 65, 2) := by decide +kernel
theorem d_Wo_lowered_3 : decode b_Wo_lowered 3 = .ok (.if_icmp .lt 9, 3) := by decide +kernel
theorem d_Wo_lowered_6 : decode b_Wo_lowered 6 = .ok (.iload_n 0, 1) := by decide +kernel
theorem d_Wo_lowered_7 : decode b_Wo_lowered 7 = .ok (.bipush 90, 2) := by decide +kernel
theorem d_Wo_lowered_9 : decode b_Wo_lowered 9 = .ok (.if_icmp .le 59, 3) := by decide +kernel
theorem d_Wo_lowered_12 : decode b_Wo_lowered 12 = .ok (.iload_n 0, 1) := by decide +kernel
theorem d_Wo_lowered_13 : decode b_Wo_lowered 13 = .ok (.sipush 192, 3) := by decide +kernel
theorem d_Wo_lowered_16 : decode b_Wo_lowered 16 = .ok (.if_icmp .lt 17, 3) := by decide +kernel
theorem d_Wo_lowered_19 : decode b_Wo_lowered 19 = .ok (.iload_n 0, 1) := by decide +kernel
theorem d_Wo_lowered_20 : decode b_Wo_lowered 20 = .ok (.sipush 222, 3) := by decide +kernel
theorem d_Wo_lowered_23 : decode b_Wo_lowered 23 = .ok (.if_icmp .gt 10, 3) := by decide +kernel
theorem d_Wo_lowered_26 : decode b_Wo_lowered 26 = .ok (.iload_n 0, 1) := by decide +kernel
theorem d_Wo_lowered_27 : decode b_Wo_lowered 27 = .ok (.sipush 215, 3) := by decide +kernel
theorem d_Wo_lowered_30 : decode b_Wo_lowered 30 = .ok (.if_icmp .ne 38, 3) := by decide +kernel
theorem d_Wo_lowered_33 : decode b_Wo_lowered 33 = .ok (.iload_n 0, 1) := by decide +kernel
theorem d_Wo_lowered_34 : decode b_Wo_lowered 34 = .ok (.sipush 913, 3) := by decide +kernel
theorem d_Wo_lowered_37 : decode b_Wo_lowered 37 = .ok (.if_icmp .lt 17, 3) := by decide +kernel
theorem d_Wo_lowered_40 : decode b_Wo_lowered 40 = .ok (.iload_n 0, 1) := by decide +kernel
theorem d_Wo_lowered_41 : decode b_Wo_lowered 41 = .ok (.sipush 939, 3) := by decide +kernel
theorem d_Wo_lowered_44 : decode b_Wo_lowered 44 = .ok (.if_icmp .gt 10, 3) := by decide +kernel
theorem d_Wo_lowered_47 : decode b_Wo_lowered 47 = .ok (.iload_n 0, 1) := by decide +kernel
theorem d_Wo_lowered_48 : decode b_Wo_lowered 48 = .ok (.sipush 930, 3) := by decide +kernel
theorem d_Wo_lowered_51 : decode b_Wo_lowered 51 = .ok (.if_icmp .ne 17, 3) := by decide +kernel
theorem d_Wo_lowered_54 : decode b_Wo_lowered 54 = .ok (.iload_n 0, 1) := by decide +kernel
theorem d_Wo_lowered_55 : decode b_Wo_lowered 55 = .ok (.sipush 1040, 3) := by decide +kernel
theorem d_Wo_lowered_58 : decode b_Wo_lowered 58 = .ok (.if_icmp .lt 15, 3) := by decide +kernel
theorem d_Wo_lowered_61 : decode b_Wo_lowered 61 = .ok (.iload_n 0, 1) := by decide +kernel
theorem d_Wo_lowered_62 : decode b_Wo_lowered 62 = .ok (.sipush 1071, 3) := by decide +kernel
theorem d_Wo_lowered_65 : decode b_Wo_lowered 65 = .ok (.if_icmp .gt 8, 3) := by decide +kernel
theorem d_Wo_lowered_68 : decode b_Wo_lowered 68 = .ok (.iload_n 0, 1) := by decide +kernel
theorem d_Wo_lowered_69 : decode b_Wo_lowered 69 = .ok (.bipush 32, 2) := by decide +kernel
theorem d_Wo_lowered_71 : decode b_Wo_lowered 71 = .ok (.iadd, 1) := by decide +kernel
theorem d_Wo_lowered_72 : decode b_Wo_lowered 72 = .ok (.ireturn, 1) := by decide +kernel
theorem d_Wo_lowered_73 : decode b_Wo_lowered 73 = .ok (.iload_n 0, 1) := by decide +kernel
theorem d_Wo_lowered_74 : decode b_Wo_lowered 74 = .ok (.sipush 1024, 3) := by decide +kernel
theorem d_Wo_lowered_77 : decode b_Wo_lowered 77 = .ok (.if_icmp .lt 17, 3) := by decide +kernel
theorem d_Wo_lowered_80 : decode b_Wo_lowered 80 = .ok (.iload_n 0, 1) := by decide +kernel
theorem d_Wo_lowered_81 : decode b_Wo_lowered 81 = .ok (.sipush 1039, 3) := by decide +kernel
theorem d_Wo_lowered_84 : decode b_Wo_lowered 84 = .ok (.if_icmp .gt 10, 3) := by decide +kernel
theorem d_Wo_lowered_87 : decode b_Wo_lowered 87 = .ok (.iload_n 0, 1) := by decide +kernel
theorem d_Wo_lowered_88 : decode b_Wo_lowered 88 = .ok (.bipush 80, 2) := by decide +kernel
theorem d_Wo_lowered_90 : decode b_Wo_lowered 90 = .ok (.iadd, 1) := by decide +kernel
theorem d_Wo_lowered_91 : decode b_Wo_lowered 91 = .ok (.goto 4, 3) := by decide +kernel
theorem d_Wo_lowered_94 : decode b_Wo_lowered 94 = .ok (.iload_n 0, 1) := by decide +kernel
theorem d_Wo_lowered_95 : decode b_Wo_lowered 95 = .ok (.ireturn, 1) := by decide +kernel
theorem d_Si_have_0 : decode b_Si_have 0 = .ok (.aload_n 1, 1) := by decide +kernel
theorem d_Si_have_1 : decode b_Si_have 1 = .ok (.getfield 29, 3) := by decide +kernel
theorem d_Si_have_4 : decode b_Si_have 4 = .ok (.iconst 5, 1) := by decide +kernel
theorem d_Si_have_5 : decode b_Si_have 5 = .ok (.if_icmp .gt 10, 3) := by decide +kernel
theorem d_Si_have_8 : decode b_Si_have 8 = .ok (.aload_n 1, 1) := by decide +kernel
theorem d_Si_have_9 : decode b_Si_have 9 = .ok (.invokevirtual 34, 3) := by decide +kernel
theorem d_Si_have_12 : decode b_Si_have 12 = .ok (.ifCond .ne 5, 3) := by decide +kernel
theorem d_Si_have_15 : decode b_Si_have 15 = .ok (.iconst 0, 1) := by decide +kernel
theorem d_Si_have_16 : decode b_Si_have 16 = .ok (.ireturn, 1) := by decide +kernel
theorem d_Si_have_17 : decode b_Si_have 17 = .ok (.iconst 0, 1) := by decide +kernel
theorem d_Si_have_18 : decode b_Si_have 18 = .ok (.istore_n 2, 1) := by decide +kernel
theorem d_Si_have_19 : decode b_Si_have 19 = .ok (.iconst 0, 1) := by decide +kernel
theorem d_Si_have_20 : decode b_Si_have 20 = .ok (.istore_n 3, 1) := by decide +kernel
theorem d_Si_have_21 : decode b_Si_have 21 = .ok (.iload_n 3, 1) := by decide +kernel
theorem d_Si_have_22 : decode b_Si_have 22 = .ok (.aload_n 1, 1) := by decide +kernel
theorem d_Si_have_23 : decode b_Si_have 23 = .ok (.getfield 29, 3) := by decide +kernel
theorem d_Si_have_26 : decode b_Si_have 26 = .ok (.if_icmp .ge 20, 3) := by decide +kernel
theorem d_Si_have_29 : decode b_Si_have 29 = .ok (.iload_n 2, 1) := by decide +kernel
theorem d_Si_have_30 : decode b_Si_have 30 = .ok (.aload_n 1, 1) := by decide +kernel
theorem d_Si_have_31 : decode b_Si_have 31 = .ok (.getfield 38, 3) := by decide +kernel
theorem d_Si_have_34 : decode b_Si_have 34 = .ok (.iload_n 3, 1) := by decide +kernel
theorem d_Si_have_35 : decode b_Si_have 35 = .ok (.iaload, 1) := by decide +kernel
theorem d_Si_have_36 : decode b_Si_have 36 = .ok (.invokestatic 25, 3) := by decide +kernel
theorem d_Si_have_39 : decode b_Si_have 39 = .ok (.istore_n 2, 1) := by decide +kernel
theorem d_Si_have_40 : decode b_Si_have 40 = .ok (.iinc 3 1, 3) := by decide +kernel
theorem d_Si_have_43 : decode b_Si_have 43 = .ok (.goto (-22), 3) := by decide +kernel
theorem d_Si_have_46 : decode b_Si_have 46 = .ok (.iconst 0, 1) := by decide +kernel
theorem d_Si_have_47 : decode b_Si_have 47 = .ok (.istore_n 3, 1) := by decide +kernel
theorem d_Si_have_48 : decode b_Si_have 48 = .ok (.iload_n 3, 1) := by decide +kernel
theorem d_Si_have_49 : decode b_Si_have 49 = .ok (.bipush 33, 2) := by decide +kernel
theorem d_Si_have_51 : decode b_Si_have 51 = .ok (.if_icmp .ge 21, 3) := by decide +kernel
theorem d_Si_have_54 : decode b_Si_have 54 = .ok (.aload_n 0, 1) := by decide +kernel
theorem d_Si_have_55 : decode b_Si_have 55 = .ok (.getfield 9, 3) := by decide +kernel
theorem d_Si_have_58 : decode b_Si_have 58 = .ok (.iload_n 3, 1) := by decide +kernel
theorem d_Si_have_59 : decode b_Si_have 59 = .ok (.iaload, 1) := by decide +kernel
theorem d_Si_have_60 : decode b_Si_have 60 = .ok (.iload_n 2, 1) := by decide +kernel
theorem d_Si_have_61 : decode b_Si_have 61 = .ok (.if_icmp .ne 5, 3) := by decide +kernel
theorem d_Si_have_64 : decode b_Si_have 64 = .ok (.iconst 1, 1) := by decide +kernel
theorem d_Si_have_65 : decode b_Si_have 65 = .ok (.ireturn, 1) := by decide +kernel
theorem d_Si_have_66 : decode b_Si_have 66 = .ok (.iinc 3 1, 3) := by decide +kernel
theorem d_Si_have_69 : decode b_Si_have 69 = .ok (.goto (-21), 3) := by decide +kernel
theorem d_Si_have_72 : decode b_Si_have 72 = .ok (.iconst 0, 1) := by decide +kernel
theorem d_Si_have_73 : decode b_Si_have 73 = .ok (.ireturn, 1) := by decide +kernel
theorem d_Wo_isSmallLetters_0 : decode b_Wo_isSmallLetters 0 = .ok (.iconst 0, 1) := by decide +kernel
theorem d_Wo_isSmallLetters_1 : decode b_Wo_isSmallLetters 1 = .ok (.istore_n 1, 1) := by decide +kernel
theorem d_Wo_isSmallLetters_2 : decode b_Wo_isSmallLetters 2 = .ok (.iload_n 1, 1) := by decide +kernel
theorem d_Wo_isSmallLetters_3 : decode b_Wo_isSmallLetters 3 = .ok (.aload_n 0, 1) := by decide +kernel
theorem d_Wo_isSmallLetters_4 : decode b_Wo_isSmallLetters 4 = .ok (.getfield 7, 3) := by decide +kernel
theorem d_Wo_isSmallLetters_7 : decode b_Wo_isSmallLetters 7 = .ok (.if_icmp .ge 33, 3) := by decide +kernel
theorem d_Wo_isSmallLetters_10 : decode b_Wo_isSmallLetters 10 = .ok (.aload_n 0, 1) := by decide +kernel
theorem d_Wo_isSmallLetters_11 : decode b_Wo_isSmallLetters 11 = .ok (.getfield 13, 3) := by decide +kernel
theorem d_Wo_isSmallLetters_14 : decode b_Wo_isSmallLetters 14 = .ok (.iload_n 1, 1) := by decide +kernel
theorem d_Wo_isSmallLetters_15 : decode b_Wo_isSmallLetters 15 = .ok (.iaload, 1) := by decide +kernel
theorem d_Wo_isSmallLetters_16 : decode b_Wo_isSmallLetters 16 = .ok (.bipush 97, 2) := by decide +kernel
theorem d_Wo_isSmallLetters_18 : decode b_Wo_isSmallLetters 18 = .ok (.if_icmp .lt 14, 3) := by decide +kernel
theorem d_Wo_isSmallLetters_21 : decode b_Wo_isSmallLetters 21 = .ok (.aload_n 0, 1) := by decide +kernel
theorem d_Wo_isSmallLetters_22 : decode b_Wo_isSmallLetters 22 = .ok (.getfield 13, 3) := by decide +kernel
theorem d_Wo_isSmallLetters_25 : decode b_Wo_isSmallLetters 25 = .ok (.iload_n 1, 1) := by decide +kernel
theorem d_Wo_isSmallLetters_26 : decode b_Wo_isSmallLetters 26 = .ok (.iaload, 1) := by decide +kernel
theorem d_Wo_isSmallLetters_27 : decode b_Wo_isSmallLetters 27 = .ok (.bipush 122, 2) := by decide +kernel
theorem d_Wo_isSmallLetters_29 : decode b_Wo_isSmallLetters 29 = .ok (.if_icmp .le 5, 3) := by decide +kernel
theorem d_Wo_isSmallLetters_32 : decode b_Wo_isSmallLetters 32 = .ok (.iconst 0, 1) := by decide +kernel
theorem d_Wo_isSmallLetters_33 : decode b_Wo_isSmallLetters 33 = .ok (.ireturn, 1) := by decide +kernel
theorem d_Wo_isSmallLetters_34 : decode b_Wo_isSmallLetters 34 = .ok (.iinc 1 1, 3) := by decide +kernel
theorem d_Wo_isSmallLetters_37 : decode b_Wo_isSmallLetters 37 = .ok (.goto (-35), 3) := by decide +kernel
theorem d_Wo_isSmallLetters_40 : decode b_Wo_isSmallLetters 40 = .ok (.iconst 1, 1) := by decide +kernel
theorem d_Wo_isSmallLetters_41 : decode b_Wo_isSmallLetters 41 = .ok (.ireturn, 1) := by decide +kernel
theorem d_Sm_stemIfFit_0 : decode b_Sm_stemIfFit 0 = .ok (.aload_n 0, 1) := by decide +kernel
theorem d_Sm_stemIfFit_1 : decode b_Sm_stemIfFit 1 = .ok (.getfield 153, 3) := by decide +kernel
theorem d_Sm_stemIfFit_4 : decode b_Sm_stemIfFit 4 = .ok (.getfield 161, 3) := by decide +kernel
theorem d_Sm_stemIfFit_7 : decode b_Sm_stemIfFit 7 = .ok (.iconst 2, 1) := by decide +kernel
theorem d_Sm_stemIfFit_8 : decode b_Sm_stemIfFit 8 = .ok (.if_icmp .le 13, 3) := by decide +kernel
theorem d_Sm_stemIfFit_11 : decode b_Sm_stemIfFit 11 = .ok (.aload_n 0, 1) := by decide +kernel
theorem d_Sm_stemIfFit_12 : decode b_Sm_stemIfFit 12 = .ok (.getfield 153, 3) := by decide +kernel
theorem d_Sm_stemIfFit_15 : decode b_Sm_stemIfFit 15 = .ok (.invokevirtual 165, 3) := by decide +kernel
theorem d_Sm_stemIfFit_18 : decode b_Sm_stemIfFit 18 = .ok (.ifCond .ne 4, 3) := by decide +kernel
theorem d_Sm_stemIfFit_21 : decode b_Sm_stemIfFit 21 = .ok (.return_, 1) := by decide +kernel
theorem d_Sm_stemIfFit_22 : decode b_Sm_stemIfFit 22 = .ok (.aload_n 0, 1) := by decide +kernel
