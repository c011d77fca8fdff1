theorem d_Sm_stemIfFit_23 : decode b_Sm_stemIfFit 23 = .ok (.invokevirtual 169, 3) := by decide +kernel
theorem d_Sm_stemIfFit_26 : decode b_Sm_stemIfFit 26 = .ok (.aload_n 0, 1) := by decide +kernel
theorem d_Sm_stemIfFit_27 : decode b_Sm_stemIfFit 27 = .ok (.invokevirtual 172, 3) := by decide +kernel
theorem d_Sm_stemIfFit_30 : decode b_Sm_stemIfFit 30 = .ok (.aload_n 0, 1) := by decide +kernel
theorem d_Sm_stemIfFit_31 : decode b_Sm_stemIfFit 31 = .ok (.invokevirtual 175, 3) := by decide +kernel
theorem d_Sm_stemIfFit_34 : decode b_Sm_stemIfFit 34 = .ok (.aload_n 0, 1) := by decide +kernel
theorem d_Sm_stemIfFit_35 : decode b_Sm_stemIfFit 35 = .ok (.invokevirtual 178, 3) := by decide +kernel
theorem d_Sm_stemIfFit_38 : decode b_Sm_stemIfFit 38 = .ok (.aload_n 0, 1) := by decide +kernel
theorem d_Sm_stemIfFit_39 : decode b_Sm_stemIfFit 39 = .ok (.aload_n 0, 1) := by decide +kernel
theorem d_Sm_stemIfFit_40 : decode b_Sm_stemIfFit 40 = .ok (.getfield 107, 3) := by decide +kernel
theorem d_Sm_stemIfFit_43 : decode b_Sm_stemIfFit 43 = .ok (.iconst 0, 1) := by decide +kernel
theorem d_Sm_stemIfFit_44 : decode b_Sm_stemIfFit 44 = .ok (.invokevirtual 181, 3) := by decide +kernel
theorem d_Sm_stemIfFit_47 : decode b_Sm_stemIfFit 47 = .ok (.aload_n 0, 1) := by decide +kernel
theorem d_Sm_stemIfFit_48 : decode b_Sm_stemIfFit 48 = .ok (.aload_n 0, 1) := by decide +kernel
theorem d_Sm_stemIfFit_49 : decode b_Sm_stemIfFit 49 = .ok (.getfield 124, 3) := by decide +kernel
theorem d_Sm_stemIfFit_52 : decode b_Sm_stemIfFit 52 = .ok (.iconst 0, 1) := by decide +kernel
theorem d_Sm_stemIfFit_53 : decode b_Sm_stemIfFit 53 = .ok (.invokevirtual 181, 3) := by decide +kernel
theorem d_Sm_stemIfFit_56 : decode b_Sm_stemIfFit 56 = .ok (.aload_n 0, 1) := by decide +kernel
theorem d_Sm_stemIfFit_57 : decode b_Sm_stemIfFit 57 = .ok (.invokevirtual 185, 3) := by decide +kernel
theorem d_Sm_stemIfFit_60 : decode b_Sm_stemIfFit 60 = .ok (.aload_n 0, 1) := by decide +kernel
theorem d_Sm_stemIfFit_61 : decode b_Sm_stemIfFit 61 = .ok (.invokevirtual 188, 3) := by decide +kernel
theorem d_Sm_stemIfFit_64 : decode b_Sm_stemIfFit 64 = .ok (.aload_n 0, 1) := by decide +kernel
theorem d_Sm_stemIfFit_65 : decode b_Sm_stemIfFit 65 = .ok (.invokevirtual 191, 3) := by decide +kernel
theorem d_Sm_stemIfFit_68 : decode b_Sm_stemIfFit 68 = .ok (.return_, 1) := by decide +kernel
theorem d_Sm_markVowels_0 : decode b_Sm_markVowels 0 = .ok (.iconst 0, 1) := by decide +kernel
theorem d_Sm_markVowels_1 : decode b_Sm_markVowels 1 = .ok (.istore_n 1, 1) := by decide +kernel
theorem d_Sm_markVowels_2 : decode b_Sm_markVowels 2 = .ok (.iload_n 1, 1) := by decide +kernel
theorem d_Sm_markVowels_3 : decode b_Sm_markVowels 3 = .ok (.aload_n 0, 1) := by decide +kernel
theorem d_Sm_markVowels_4 : decode b_Sm_markVowels 4 = .ok (.getfield 153, 3) := by decide +kernel
theorem d_Sm_markVowels_7 : decode b_Sm_markVowels 7 = .ok (.getfield 161, 3) := by decide +kernel
theorem d_Sm_markVowels_10 : decode b_Sm_markVowels 10 = .ok (.if_icmp .ge 91, 3) := by decide +kernel
theorem d_Sm_markVowels_13 : decode b_Sm_markVowels 13 = .ok (.aload_n 0, 1) := by decide +kernel
theorem d_Sm_markVowels_14 : decode b_Sm_markVowels 14 = .ok (.getfield 153, 3) := by decide +kernel
theorem d_Sm_markVowels_17 : decode b_Sm_markVowels 17 = .ok (.getfield 263, 3) := by decide +kernel
theorem d_Sm_markVowels_20 : decode b_Sm_markVowels 20 = .ok (.iload_n 1, 1) := by decide +kernel
theorem d_Sm_markVowels_21 : decode b_Sm_markVowels 21 = .ok (.iaload, 1) := by decide +kernel
theorem d_Sm_markVowels_22 : decode b_Sm_markVowels 22 = .ok (.istore_n 2, 1) := by decide +kernel
theorem d_Sm_markVowels_23 : decode b_Sm_markVowels 23 = .ok (.iload_n 1, 1) := by decide +kernel
theorem d_Sm_markVowels_24 : decode b_Sm_markVowels 24 = .ok (.ifCond .le 18, 3) := by decide +kernel
theorem d_Sm_markVowels_27 : decode b_Sm_markVowels 27 = .ok (.aload_n 0, 1) := by decide +kernel
theorem d_Sm_markVowels_28 : decode b_Sm_markVowels 28 = .ok (.getfield 157, 3) := by decide +kernel
theorem d_Sm_markVowels_31 : decode b_Sm_markVowels 31 = .ok (.iload_n 1, 1) := by decide +kernel
theorem d_Sm_markVowels_32 : decode b_Sm_markVowels 32 = .ok (.iconst 1, 1) := by decide +kernel
theorem d_Sm_markVowels_33 : decode b_Sm_markVowels 33 = .ok (.isub, 1) := by decide +kernel
theorem d_Sm_markVowels_34 : decode b_Sm_markVowels 34 = .ok (.baload, 1) := by decide +kernel
theorem d_Sm_markVowels_35 : decode b_Sm_markVowels 35 = .ok (.ifCond .ne 7, 3) := by decide +kernel
theorem d_Sm_markVowels_38 : decode b_Sm_markVowels 38 = .ok (.iconst 1, 1) := by decide +kernel
theorem d_Sm_markVowels_39 : decode b_Sm_markVowels 39 = .ok (.goto 4, 3) := by decide +kernel
theorem d_Sm_markVowels_42 : decode b_Sm_markVowels 42 = .ok (.iconst 0, 1) := by decide +kernel
theorem d_Sm_markVowels_43 : decode b_Sm_markVowels 43 = .ok (.istore_n 3, 1) := by decide +kernel
theorem d_Sm_markVowels_44 : decode b_Sm_markVowels 44 = .ok (.aload_n 0, 1) := by decide +kernel
theorem d_Sm_markVowels_45 : decode b_Sm_markVowels 45 = .ok (.getfield 157, 3) := by decide +kernel
theorem d_Sm_markVowels_48 : decode b_Sm_markVowels 48 = .ok (.iload_n 1, 1) := by decide +kernel
theorem d_Sm_markVowels_49 : decode b_Sm_markVowels 49 = .ok (.iload_n 2, 1) := by decide +kernel
theorem d_Sm_markVowels_50 : decode b_Sm_markVowels 50 = .ok (.bipush 97, 2) := by decide +kernel
theorem d_Sm_markVowels_52 : decode b_Sm_markVowels 52 = .ok (.if_icmp .eq 37, 3) := by decide +kernel
theorem d_Sm_markVowels_55 : decode b_Sm_markVowels 55 = .ok (.iload_n 2, 1) := by decide +kernel
theorem d_Sm_markVowels_56 : decode b_Sm_markVowels 56 = .ok (.bipush 101, 2) := by decide +kernel
theorem d_Sm_markVowels_58 : decode b_Sm_markVowels 58 = .ok (.if_icmp .eq 31, 3) := by decide +kernel
theorem d_Sm_markVowels_61 : decode b_Sm_markVowels 61 = .ok (.iload_n 2, 1) := by decide +kernel
theorem d_Sm_markVowels_62 : decode b_Sm_markVowels 62 = .ok (.bipush 105, 2) := by decide +kernel
theorem d_Sm_markVowels_64 : decode b_Sm_markVowels 64 = .ok (.if_icmp .eq 25, 3) := by decide +kernel
theorem d_Sm_markVowels_67 : decode b_Sm_markVowels 67 = .ok (.iload_n 2, 1) := by decide +kernel
theorem d_Sm_markVowels_68 : decode b_Sm_markVowels 68 = .ok (.bipush 111, 2) := by decide +kernel
theorem d_Sm_markVowels_70 : decode b_Sm_markVowels 70 = .ok (.if_icmp .eq 19, 3) := by decide +kernel
theorem d_Sm_markVowels_73 : decode b_Sm_markVowels 73 = .ok (.iload_n 2, 1) := by decide +kernel
theorem d_Sm_markVowels_74 : decode b_Sm_markVowels 74 = .ok (.bipush 117, 2) := by decide +kernel
theorem d_Sm_markVowels_76 : decode b_Sm_markVowels 76 = .ok (.if_icmp .eq 13, 3) := by decide +kernel
theorem d_Sm_markVowels_79 : decode b_Sm_markVowels 79 = .ok (.iload_n 2, 1) := by decide +kernel
theorem d_Sm_markVowels_80 : decode b_Sm_markVowels 80 = .ok (.bipush 121, 2) := by decide +kernel
theorem d_Sm_markVowels_82 : decode b_Sm_markVowels 82 = .ok (.if_icmp .ne 11, 3) := by decide +kernel
theorem d_Sm_markVowels_85 : decode b_Sm_markVowels 85 = .ok (.iload_n 3, 1) := by decide +kernel
theorem d_Sm_markVowels_86 : decode b_Sm_markVowels 86 = .ok (.ifCond .eq 7, 3) := by decide +kernel
theorem d_Sm_markVowels_89 : decode b_Sm_markVowels 89 = .ok (.iconst 1, 1) := by decide +kernel
theorem d_Sm_markVowels_90 : decode b_Sm_markVowels 90 = .ok (.goto 4, 3) := by decide +kernel
theorem d_Sm_markVowels_93 : decode b_Sm_markVowels 93 = .ok (.iconst 0, 1) := by decide +kernel
theorem d_Sm_markVowels_94 : decode b_Sm_markVowels 94 = .ok (.bastore, 1) := by decide +kernel
theorem d_Sm_markVowels_95 : decode b_Sm_markVowels 95 = .ok (.iinc 1 1, 3) := by decide +kernel
theorem d_Sm_markVowels_98 : decode b_Sm_markVowels 98 = .ok (.goto (-96), 3) := by decide +kernel
theorem d_Sm_markVowels_101 : decode b_Sm_markVowels 101 = .ok (.return_, 1) := by decide +kernel
theorem d_Sm_step1a_0 : decode b_Sm_step1a 0 = .ok (.aload_n 0, 1) := by decide +kernel
theorem d_Sm_step1a_1 : decode b_Sm_step1a 1 = .ok (.aload_n 0, 1) := by decide +kernel
theorem d_Sm_step1a_2 : decode b_Sm_step1a 2 = .ok (.getfield 24, 3) := by decide +kernel
theorem d_Sm_step1a_5 : decode b_Sm_step1a 5 = .ok (.invokevirtual 194, 3) := by decide +kernel
theorem d_Sm_step1a_8 : decode b_Sm_step1a 8 = .ok (.astore_n 1, 1) := by decide +kernel
theorem d_Sm_step1a_9 : decode b_Sm_step1a 9 = .ok (.aload_n 1, 1) := by decide +kernel
theorem d_Sm_step1a_10 : decode b_Sm_step1a 10 = .ok (.ifnull 16, 3) := by decide +kernel
theorem d_Sm_step1a_13 : decode b_Sm_step1a 13 = .ok (.aload_n 0, 1) := by decide +kernel
theorem d_Sm_step1a_14 : decode b_Sm_step1a 14 = .ok (.aload_n 0, 1) := by decide +kernel
theorem d_Sm_step1a_15 : decode b_Sm_step1a 15 = .ok (.aload_n 1, 1) := by decide +kernel
theorem d_Sm_step1a_16 : decode b_Sm_step1a 16 = .ok (.invokevirtual 198, 3) := by decide +kernel
theorem d_Sm_step1a_19 : decode b_Sm_step1a 19 = .ok (.aload_n 1, 1) := by decide +kernel
theorem d_Sm_step1a_20 : decode b_Sm_step1a 20 = .ok (.getfield 202, 3) := by decide +kernel
theorem d_Sm_step1a_23 : decode b_Sm_step1a 23 = .ok (.invokevirtual 206, 3) := by decide +kernel
theorem d_Sm_step1a_26 : decode b_Sm_step1a 26 = .ok (.return_, 1) := by decide +kernel
theorem d_Sm_longest_0 : decode b_Sm_longest 0 = .ok (.aconst_null, 1) := by decide +kernel
theorem d_Sm_longest_1 : decode b_Sm_longest 1 = .ok (.astore_n 2, 1) := by decide +kernel
theorem d_Sm_longest_2 : decode b_Sm_longest 2 = .ok (.iconst 0, 1) := by decide +kernel
theorem d_Sm_longest_3 : decode b_Sm_longest 3 = .ok (.istore_n 3, 1) := by decide +kernel
theorem d_Sm_longest_4 : decode b_Sm_longest 4 = .ok (.iload_n 3, 1) := by decide +kernel
theorem d_Sm_longest_5 : decode b_Sm_longest 5 = .ok (.aload_n 1, 1) := by decide +kernel
theorem d_Sm_longest_6 : decode b_Sm_longest 6 = .ok (.arraylength, 1) := by decide +kernel
theorem d_Sm_longest_7 : decode b_Sm_longest 7 = .ok (.if_icmp .ge 66, 3) := by decide +kernel
theorem d_Sm_longest_10 : decode b_Sm_longest 10 = .ok (.aload_n 1, 1) := by decide +kernel
theorem d_Sm_longest_11 : decode b_Sm_longest 11 = .ok (.iload_n 3, 1) := by decide +kernel
theorem d_Sm_longest_12 : decode b_Sm_longest 12 = .ok (.aaload, 1) := by decide +kernel
theorem d_Sm_longest_13 : decode b_Sm_longest 13 = .ok (.astore 4, 2) := by decide +kernel
theorem d_Sm_longest_15 : decode b_Sm_longest 15 = .ok (.aload_n 2, 1) := by decide +kernel
theorem d_Sm_longest_16 : decode b_Sm_longest 16 = .ok (.ifnull 21, 3) := by decide +kernel
theorem d_Sm_longest_19 : decode b_Sm_longest 19 = .ok (.aload 4, 2) := by decide +kernel
theorem d_Sm_longest_21 : decode b_Sm_longest 21 = .ok (.getfield 210, 3) := by decide +kernel
theorem d_Sm_longest_24 : decode b_Sm_longest 24 = .ok (.invokevirtual 256, 3) := by decide +kernel
theorem d_Sm_longest_27 : decode b_Sm_longest 27 = .ok (.aload_n 2, 1) := by decide +kernel
theorem d_Sm_longest_28 : decode b_Sm_longest 28 = .ok (.getfield 210, 3) := by decide +kernel
theorem d_Sm_longest_31 : decode b_Sm_longest 31 = .ok (.invokevirtual 256, 3) := by decide +kernel
theorem d_Sm_longest_34 : decode b_Sm_longest 34 = .ok (.if_icmp .le 7, 3) := by decide +kernel
theorem d_Sm_longest_37 : decode b_Sm_longest 37 = .ok (.iconst 1, 1) := by decide +kernel
theorem d_Sm_longest_38 : decode b_Sm_longest 38 = .ok (.goto 4, 3) := by decide +kernel
theorem d_Sm_longest_41 : decode b_Sm_longest 41 = .ok (.iconst 0, 1) := by decide +kernel
theorem d_Sm_longest_42 : decode b_Sm_longest 42 = .ok (.istore 5, 2) := by decide +kernel
theorem d_Sm_longest_44 : decode b_Sm_longest 44 = .ok (.iload 5, 2) := by decide +kernel
theorem d_Sm_longest_46 : decode b_Sm_longest 46 = .ok (.ifCond .eq 21, 3) := by decide +kernel
theorem d_Sm_longest_49 : decode b_Sm_longest 49 = .ok (.aload_n 0, 1) := by decide +kernel
theorem d_Sm_longest_50 : decode b_Sm_longest 50 = .ok (.getfield 153, 3) := by decide +kernel
theorem d_Sm_longest_53 : decode b_Sm_longest 53 = .ok (.aload 4, 2) := by decide +kernel
theorem d_Sm_longest_55 : decode b_Sm_longest 55 = .ok (.getfield 210, 3) := by decide +kernel
theorem d_Sm_longest_58 : decode b_Sm_longest 58 = .ok (.invokevirtual 232, 3) := by decide +kernel
theorem d_Sm_longest_61 : decode b_Sm_longest 61 = .ok (.ifCond .eq 6, 3) := by decide +kernel
theorem d_Sm_longest_64 : decode b_Sm_longest 64 = .ok (.aload 4, 2) := by decide +kernel
theorem d_Sm_longest_66 : decode b_Sm_longest 66 = .ok (.astore_n 2, 1) := by decide +kernel
theorem d_Sm_longest_67 : decode b_Sm_longest 67 = .ok (.iinc 3 1, 3) := by decide +kernel
theorem d_Sm_longest_70 : decode b_Sm_longest 70 = .ok (.goto (-66), 3) := by decide +kernel
theorem d_Sm_longest_73 : decode b_Sm_longest 73 = .ok (.aload_n 2, 1) := by decide +kernel
theorem d_Sm_longest_74 : decode b_Sm_longest 74 = .ok (.areturn, 1) := by decide +kernel
theorem d_Wo_endsWith_0 : decode b_Wo_endsWith 0 = .ok (.aload_n 0, 1) := by decide +kernel
theorem d_Wo_endsWith_1 : decode b_Wo_endsWith 1 = .ok (.getfield 7, 3) := by decide +kernel
theorem d_Wo_endsWith_4 : decode b_Wo_endsWith 4 = .ok (.aload_n 1, 1) := by decide +kernel
theorem d_Wo_endsWith_5 : decode b_Wo_endsWith 5 = .ok (.invokevirtual 27, 3) := by decide +kernel
theorem d_Wo_endsWith_8 : decode b_Wo_endsWith 8 = .ok (.isub, 1) := by decide +kernel
theorem d_Wo_endsWith_9 : decode b_Wo_endsWith 9 = .ok (.istore_n 2, 1) := by decide +kernel
theorem d_Wo_endsWith_10 : decode b_Wo_endsWith 10 = .ok (.iload_n 2, 1) := by decide +kernel
theorem d_Wo_endsWith_11 : decode b_Wo_endsWith 11 = .ok (.ifCond .ge 5, 3) := by decide +kernel
theorem d_Wo_endsWith_14 : decode b_Wo_endsWith 14 = .ok (.iconst 0, 1) := by decide +kernel
theorem d_Wo_endsWith_15 : decode b_Wo_endsWith 15 = .ok (.ireturn, 1) := by decide +kernel
theorem d_Wo_endsWith_16 : decode b_Wo_endsWith 16 = .ok (.aload_n 1, 1) := by decide +kernel
theorem d_Wo_endsWith_17 : decode b_Wo_endsWith 17 = .ok (.invokevirtual 27, 3) := by decide +kernel
theorem d_Wo_endsWith_20 : decode b_Wo_endsWith 20 = .ok (.iconst 1, 1) := by decide +kernel
theorem d_Wo_endsWith_21 : decode b_Wo_endsWith 21 = .ok (.isub, 1) := by decide +kernel
theorem d_Wo_endsWith_22 : decode b_Wo_endsWith 22 = .ok (.istore_n 3, 1) := by decide +kernel
theorem d_Wo_endsWith_23 : decode b_Wo_endsWith 23 = .ok (.iload_n 3, 1) := by decide +kernel
theorem d_Wo_endsWith_24 : decode b_Wo_endsWith 24 = .ok (.ifCond .lt 27, 3) := by decide +kernel
theorem d_Wo_endsWith_27 : decode b_Wo_endsWith 27 = .ok (.aload_n 0, 1) := by decide +kernel
theorem d_Wo_endsWith_28 : decode b_Wo_endsWith 28 = .ok (.getfield 13, 3) := by decide +kernel
theorem d_Wo_endsWith_31 : decode b_Wo_endsWith 31 = .ok (.iload_n 2, 1) := by decide +kernel
theorem d_Wo_endsWith_32 : decode b_Wo_endsWith 32 = .ok (.iload_n 3, 1) := by decide +kernel
theorem d_Wo_endsWith_33 : decode b_Wo_endsWith 33 = .ok (.iadd, 1) := by decide +kernel
theorem d_Wo_endsWith_34 : decode b_Wo_endsWith 34 = .ok (.iaload, 1) := by decide +kernel
theorem d_Wo_endsWith_35 : decode b_Wo_endsWith 35 = .ok (.aload_n 1, 1) := by decide +kernel
theorem d_Wo_endsWith_36 : decode b_Wo_endsWith 36 = .ok (.iload_n 3, 1) := by decide +kernel
theorem d_Wo_endsWith_37 : decode b_Wo_endsWith 37 = .ok (.invokevirtual 32, 3) := by decide +kernel
theorem d_Wo_endsWith_40 : decode b_Wo_endsWith 40 = .ok (.if_icmp .eq 5, 3) := by decide +kernel
theorem d_Wo_endsWith_43 : decode b_Wo_endsWith 43 = .ok (.iconst 0, 1) := by decide +kernel
theorem d_Wo_endsWith_44 : decode b_Wo_endsWith 44 = .ok (.ireturn, 1) := by decide +kernel
theorem d_Wo_endsWith_45 : decode b_Wo_endsWith 45 = .ok (.iinc 3 (-1), 3) := by decide +kernel
theorem d_Wo_endsWith_48 : decode b_Wo_endsWith 48 = .ok (.goto (-25), 3) := by decide +kernel
theorem d_Wo_endsWith_51 : decode b_Wo_endsWith 51 = .ok (.iconst 1, 1) := by decide +kernel
theorem d_Wo_endsWith_52 : decode b_Wo_endsWith 52 = .ok (.ireturn, 1) := by decide +kernel
theorem d_Sm_stemBefore_0 : decode b_Sm_stemBefore 0 = .ok (.aload_n 0, 1) := by decide +kernel
theorem d_Sm_stemBefore_1 : decode b_Sm_stemBefore 1 = .ok (.getfield 153, 3) := by decide +kernel
theorem d_Sm_stemBefore_4 : decode b_Sm_stemBefore 4 = .ok (.getfield 161, 3) := by decide +kernel
theorem d_Sm_stemBefore_7 : decode b_Sm_stemBefore 7 = .ok (.aload_n 1, 1) := by decide +kernel
theorem d_Sm_stemBefore_8 : decode b_Sm_stemBefore 8 = .ok (.getfield 210, 3) := by decide +kernel
theorem d_Sm_stemBefore_11 : decode b_Sm_stemBefore 11 = .ok (.invokevirtual 256, 3) := by decide +kernel
theorem d_Sm_stemBefore_14 : decode b_Sm_stemBefore 14 = .ok (.isub, 1) := by decide +kernel
theorem d_Sm_stemBefore_15 : decode b_Sm_stemBefore 15 = .ok (.ireturn, 1) := by decide +kernel
theorem d_Sm_become_0 : decode b_Sm_become 0 = .ok (.aload_n 0, 1) := by decide +kernel
theorem d_Sm_become_1 : decode b_Sm_become 1 = .ok (.getfield 153, 3) := by decide +kernel
theorem d_Sm_become_4 : decode b_Sm_become 4 = .ok (.iload_n 1, 1) := by decide +kernel
theorem d_Sm_become_5 : decode b_Sm_become 5 = .ok (.putfield 161, 3) := by decide +kernel
theorem d_Sm_become_8 : decode b_Sm_become 8 = .ok (.aload_n 0, 1) := by decide +kernel
theorem d_Sm_become_9 : decode b_Sm_become 9 = .ok (.getfield 153, 3) := by decide +kernel
theorem d_Sm_become_12 : decode b_Sm_become 12 = .ok (.aload_n 2, 1) := by decide +kernel
theorem d_Sm_become_13 : decode b_Sm_become 13 = .ok (.invokevirtual 259, 3) := by decide +kernel
theorem d_Sm_become_16 : decode b_Sm_become 16 = .ok (.aload_n 0, 1) := by decide +kernel
theorem d_Sm_become_17 : decode b_Sm_become 17 = .ok (.invokevirtual 169, 3) := by decide +kernel
theorem d_Sm_become_20 : decode b_Sm_become 20 = .ok (.return_, 1) := by decide +kernel
theorem d_Wo_append_0 : decode b_Wo_append 0 = .ok (.iconst 0, 1) := by decide +kernel
theorem d_Wo_append_1 : decode b_Wo_append 1 = .ok (.istore_n 2, 1) := by decide +kernel
theorem d_Wo_append_2 : decode b_Wo_append 2 = .ok (.iload_n 2, 1) := by decide +kernel
theorem d_Wo_append_3 : decode b_Wo_append 3 = .ok (.aload_n 1, 1) := by decide +kernel
theorem d_Wo_append_4 : decode b_Wo_append 4 = .ok (.invokevirtual 27, 3) := by decide +kernel
theorem d_Wo_append_7 : decode b_Wo_append 7 = .ok (.if_icmp .ge 45, 3) := by decide +kernel
theorem d_Wo_append_10 : decode b_Wo_append 10 = .ok (.aload_n 0, 1) := by decide +kernel
theorem d_Wo_append_11 : decode b_Wo_append 11 = .ok (.getfield 7, 3) := by decide +kernel
theorem d_Wo_append_14 : decode b_Wo_append 14 = .ok (.aload_n 0, 1) := by decide +kernel
theorem d_Wo_append_15 : decode b_Wo_append 15 = .ok (.getfield 13, 3) := by decide +kernel
theorem d_Wo_append_18 : decode b_Wo_append 18 = .ok (.arraylength, 1) := by decide +kernel
theorem d_Wo_append_19 : decode b_Wo_append 19 = .ok (.if_icmp .ge 33, 3) := by decide +kernel
theorem d_Wo_append_22 : decode b_Wo_append 22 = .ok (.aload_n 0, 1) := by decide +kernel
theorem d_Wo_append_23 : decode b_Wo_append 23 = .ok (.getfield 13, 3) := by decide +kernel
theorem d_Wo_append_26 : decode b_Wo_append 26 = .ok (.aload_n 0, 1) := by decide +kernel
theorem d_Wo_append_27 : decode b_Wo_append 27 = .ok (.getfield 7, 3) := by decide +kernel
theorem d_Wo_append_30 : decode b_Wo_append 30 = .ok (.aload_n 1, 1) := by decide +kernel
theorem d_Wo_append_31 : decode b_Wo_append 31 = .ok (.iload_n 2, 1) := by decide +kernel
theorem d_Wo_append_32 : decode b_Wo_append 32 = .ok (.invokevirtual 32, 3) := by decide +kernel
theorem d_Wo_append_35 : decode b_Wo_append 35 = .ok (.iastore, 1) := by decide +kernel
theorem d_Wo_append_36 : decode b_Wo_append 36 = .ok (.aload_n 0, 1) := by decide +kernel
theorem d_Wo_append_37 : decode b_Wo_append 37 = .ok (.dup, 1) := by decide +kernel
theorem d_Wo_append_38 : decode b_Wo_append 38 = .ok (.getfield 7, 3) := by decide +kernel
theorem d_Wo_append_41 : decode b_Wo_append 41 = .ok (.iconst 1, 1) := by decide +kernel
theorem d_Wo_append_42 : decode b_Wo_append 42 = .ok (.iadd, 1) := by decide +kernel
theorem d_Wo_append_43 : decode b_Wo_append 43 = .ok (.putfield 7, 3) := by decide +kernel
theorem d_Wo_append_46 : decode b_Wo_append 46 = .ok (.iinc 2 1, 3) := by decide +kernel
theorem d_Wo_append_49 : decode b_Wo_append 49 = .ok (.goto (-47), 3) := by decide +kernel
theorem d_Wo_append_52 : decode b_Wo_append 52 = .ok (.return_, 1) := by decide +kernel
theorem d_Sm_step1b_0 : decode b_Sm_step1b 0 = .ok (.aload_n 0, 1) := by decide +kernel
theorem d_Sm_step1b_1 : decode b_Sm_step1b 1 = .ok (.aload_n 0, 1) := by decide +kernel
theorem d_Sm_step1b_2 : decode b_Sm_step1b 2 = .ok (.getfield 38, 3) := by decide +kernel
theorem d_Sm_step1b_5 : decode b_Sm_step1b 5 = .ok (.invokevirtual 194, 3) := by decide +kernel
theorem d_Sm_step1b_8 : decode b_Sm_step1b 8 = .ok (.astore_n 1, 1) := by decide +kernel
theorem d_Sm_step1b_9 : decode b_Sm_step1b 9 = .ok (.aload_n 1, 1) := by decide +kernel
theorem d_Sm_step1b_10 : decode b_Sm_step1b 10 = .ok (.ifnonnull 4, 3) := by decide +kernel
theorem d_Sm_step1b_13 : decode b_Sm_step1b 13 = .ok (.return_, 1) := by decide +kernel
theorem d_Sm_step1b_14 : decode b_Sm_step1b 14 = .ok (.aload_n 0, 1) := by decide +kernel
theorem d_Sm_step1b_15 : decode b_Sm_step1b 15 = .ok (.aload_n 1, 1) := by decide +kernel
theorem d_Sm_step1b_16 : decode b_Sm_step1b 16 = .ok (.invokevirtual 198, 3) := by decide +kernel
theorem d_Sm_step1b_19 : decode b_Sm_step1b 19 = .ok (.istore_n 2, 1) := by decide +kernel
theorem d_Sm_step1b_20 : decode b_Sm_step1b 20 = .ok (.aload_n 1, 1) := by decide +kernel
theorem d_Sm_step1b_21 : decode b_Sm_step1b 21 = .ok (.getfield 210, 3) := by decide +kernel
theorem d_Sm_step1b_24 : decode b_Sm_step1b 24 = .ok (.ldc 30, 2) := by decide +kernel
theorem d_Sm_step1b_26 : decode b_Sm_step1b 26 = .ok (.invokevirtual 213, 3) := by decide +kernel
theorem d_Sm_step1b_29 : decode b_Sm_step1b 29 = .ok (.ifCond .eq 23, 3) := by decide +kernel
theorem d_Sm_step1b_32 : decode b_Sm_step1b 32 = .ok (.aload_n 0, 1) := by decide +kernel
theorem d_Sm_step1b_33 : decode b_Sm_step1b 33 = .ok (.iload_n 2, 1) := by decide +kernel
theorem d_Sm_step1b_34 : decode b_Sm_step1b 34 = .ok (.invokevirtual 219, 3) := by decide +kernel
theorem d_Sm_step1b_37 : decode b_Sm_step1b 37 = .ok (.ifCond .le 36, 3) := by decide +kernel
theorem d_Sm_step1b_40 : decode b_Sm_step1b 40 = .ok (.aload_n 0, 1) := by decide +kernel
theorem d_Sm_step1b_41 : decode b_Sm_step1b 41 = .ok (.iload_n 2, 1) := by decide +kernel
theorem d_Sm_step1b_42 : decode b_Sm_step1b 42 = .ok (.aload_n 1, 1) := by decide +kernel
theorem d_Sm_step1b_43 : decode b_Sm_step1b 43 = .ok (.getfield 202, 3) := by decide +kernel
theorem d_Sm_step1b_46 : decode b_Sm_step1b 46 = .ok (.invokevirtual 206, 3) := by decide +kernel
theorem d_Sm_step1b_49 : decode b_Sm_step1b 49 = .ok (.goto 24, 3) := by decide +kernel
theorem d_Sm_step1b_52 : decode b_Sm_step1b 52 = .ok (.aload_n 0, 1) := by decide +kernel
theorem d_Sm_step1b_53 : decode b_Sm_step1b 53 = .ok (.iload_n 2, 1) := by decide +kernel
theorem d_Sm_step1b_54 : decode b_Sm_step1b 54 = .ok (.invokevirtual 223, 3) := by decide +kernel
theorem d_Sm_step1b_57 : decode b_Sm_step1b 57 = .ok (.ifCond .eq 16, 3) := by decide +kernel
theorem d_Sm_step1b_60 : decode b_Sm_step1b 60 = .ok (.aload_n 0, 1) := by decide +kernel
theorem d_Sm_step1b_61 : decode b_Sm_step1b 61 = .ok (.iload_n 2, 1) := by decide +kernel
theorem d_Sm_step1b_62 : decode b_Sm_step1b 62 = .ok (.aload_n 1, 1) := by decide +kernel
theorem d_Sm_step1b_63 : decode b_Sm_step1b 63 = .ok (.getfield 202, 3) := by decide +kernel
theorem d_Sm_step1b_66 : decode b_Sm_step1b 66 = .ok (.invokevirtual 206, 3) := by decide +kernel
theorem d_Sm_step1b_69 : decode b_Sm_step1b 69 = .ok (.aload_n 0, 1) := by decide +kernel
theorem d_Sm_step1b_70 : decode b_Sm_step1b 70 = .ok (.invokevirtual 227, 3) := by decide +kernel
theorem d_Sm_step1b_73 : decode b_Sm_step1b 73 = .ok (.return_, 1) := by decide +kernel
theorem d_Str_equals_0 : decode b_Str_equals 0 = .ok (.aload_n 0, 1) := by decide +kernel
theorem d_Str_equals_1 : decode b_Str_equals 1 = .ok (.aload_n 1, 1) := by decide +kernel
theorem d_Str_equals_2 : decode b_Str_equals 2 = .ok (.if_acmp .ne 5, 3) := by decide +kernel
theorem d_Str_equals_5 : decode b_Str_equals 5 = .ok (.iconst 1, 1) := by decide +kernel
theorem d_Str_equals_6 : decode b_Str_equals 6 = .ok (.ireturn, 1) := by decide +kernel
theorem d_Str_equals_7 : decode b_Str_equals 7 = .ok (.aload_n 1, 1) := by decide +kernel
theorem d_Str_equals_8 : decode b_Str_equals 8 = .ok (.instanceof 10, 3) := by decide +kernel
theorem d_Str_equals_11 : decode b_Str_equals 11 = .ok (.ifCond .eq 43, 3) := by decide +kernel
theorem d_Str_equals_14 : decode b_Str_equals 14 = .ok (.aload_n 1, 1) := by decide +kernel
theorem d_Str_equals_15 : decode b_Str_equals 15 = .ok (.checkcast 10, 3) := by decide +kernel
theorem d_Str_equals_18 : decode b_Str_equals 18 = .ok (.astore_n 2, 1) := by decide +kernel
theorem d_Str_equals_19 : decode b_Str_equals 19 = .ok (.getstatic 38, 3) := by decide +kernel
theorem d_Str_equals_22 : decode b_Str_equals 22 = .ok (.ifCond .eq 14, 3) := by decide +kernel
theorem d_Str_equals_25 : decode b_Str_equals 25 = .ok (.aload_n 0, 1) := by decide +kernel
theorem d_Str_equals_26 : decode b_Str_equals 26 = .ok (.getfield 15, 3) := by decide +kernel
theorem d_Str_equals_29 : decode b_Str_equals 29 = .ok (.aload_n 2, 1) := by decide +kernel
theorem d_Str_equals_30 : decode b_Str_equals 30 = .ok (.getfield 15, 3) := by decide +kernel
theorem d_Str_equals_33 : decode b_Str_equals 33 = .ok (.if_icmp .ne 21, 3) := by decide +kernel
theorem d_Str_equals_36 : decode b_Str_equals 36 = .ok (.aload_n 0, 1) := by decide +kernel
theorem d_Str_equals_37 : decode b_Str_equals 37 = .ok (.getfield 9, 3) := by decide +kernel
theorem d_Str_equals_40 : decode b_Str_equals 40 = .ok (.aload_n 2, 1) := by decide +kernel
theorem d_Str_equals_41 : decode b_Str_equals 41 = .ok (.getfield 9, 3) := by decide +kernel
theorem d_Str_equals_44 : decode b_Str_equals 44 = .ok (.invokestatic 541, 3) := by decide +kernel
theorem d_Str_equals_47 : decode b_Str_equals 47 = .ok (.ifCond .eq 7, 3) := by decide +kernel
theorem d_Str_equals_50 : decode b_Str_equals 50 = .ok (.iconst 1, 1) := by decide +kernel
theorem d_Str_equals_51 : decode b_Str_equals 51 = .ok (.goto 4, 3) := by decide +kernel
theorem d_Str_equals_54 : decode b_Str_equals 54 = .ok (.iconst 0, 1) := by decide +kernel
theorem d_Str_equals_55 : decode b_Str_equals 55 = .ok (.ireturn, 1) := by decide +kernel
theorem d_Lat_equals_0 : decode b_Lat_equals 0 = .ok (.aload_n 0, 1) := by decide +kernel
theorem d_Lat_equals_1 : decode b_Lat_equals 1 = .ok (.arraylength, 1) := by decide +kernel
theorem d_Lat_equals_2 : decode b_Lat_equals 2 = .ok (.aload_n 1, 1) := by decide +kernel
theorem d_Lat_equals_3 : decode b_Lat_equals 3 = .ok (.arraylength, 1) := by decide +kernel
theorem d_Lat_equals_4 : decode b_Lat_equals 4 = .ok (.if_icmp .ne 30, 3) := by decide +kernel
theorem d_Lat_equals_7 : decode b_Lat_equals 7 = .ok (.iconst 0, 1) := by decide +kernel
theorem d_Lat_equals_8 : decode b_Lat_equals 8 = .ok (.istore_n 2, 1) := by decide +kernel
theorem d_Lat_equals_9 : decode b_Lat_equals 9 = .ok (.iload_n 2, 1) := by decide +kernel
theorem d_Lat_equals_10 : decode b_Lat_equals 10 = .ok (.aload_n 0, 1) := by decide +kernel
theorem d_Lat_equals_11 : decode b_Lat_equals 11 = .ok (.arraylength, 1) := by decide +kernel
theorem d_Lat_equals_12 : decode b_Lat_equals 12 = .ok (.if_icmp .ge 20, 3) := by decide +kernel
theorem d_Lat_equals_15 : decode b_Lat_equals 15 = .ok (.aload_n 0, 1) := by decide +kernel
theorem d_Lat_equals_16 : decode b_Lat_equals 16 = .ok (.iload_n 2, 1) := by decide +kernel
theorem d_Lat_equals_17 : decode b_Lat_equals 17 = .ok (.baload, 1) := by decide +kernel
theorem d_Lat_equals_18 : decode b_Lat_equals 18 = .ok (.aload_n 1, 1) := by decide +kernel
theorem d_Lat_equals_19 : decode b_Lat_equals 19 = .ok (.iload_n 2, 1) := by decide +kernel
theorem d_Lat_equals_20 : decode b_Lat_equals 20 = .ok (.baload, 1) := by decide +kernel
theorem d_Lat_equals_21 : decode b_Lat_equals 21 = .ok (.if_icmp .eq 5, 3) := by decide +kernel
theorem d_Lat_equals_24 : decode b_Lat_equals 24 = .ok (.iconst 0, 1) := by decide +kernel
theorem d_Lat_equals_25 : decode b_Lat_equals 25 = .ok (.ireturn, 1) := by decide +kernel
theorem d_Lat_equals_26 : decode b_Lat_equals 26 = .ok (.iinc 2 1, 3) := by decide +kernel
theorem d_Lat_equals_29 : decode b_Lat_equals 29 = .ok (.goto (-20), 3) := by decide +kernel
theorem d_Lat_equals_32 : decode b_Lat_equals 32 = .ok (.iconst 1, 1) := by decide +kernel
theorem d_Lat_equals_33 : decode b_Lat_equals 33 = .ok (.ireturn, 1) := by decide +kernel
theorem d_Lat_equals_34 : decode b_Lat_equals 34 = .ok (.iconst 0, 1) := by decide +kernel
theorem d_Lat_equals_35 : decode b_Lat_equals 35 = .ok (.ireturn, 1) := by decide +kernel
theorem d_Sm_measure_0 : decode b_Sm_measure 0 = .ok (.iconst 0, 1) := by decide +kernel
theorem d_Sm_measure_1 : decode b_Sm_measure 1 = .ok (.istore_n 2, 1) := by decide +kernel
theorem d_Sm_measure_2 : decode b_Sm_measure 2 = .ok (.iconst 1, 1) := by decide +kernel
theorem d_Sm_measure_3 : decode b_Sm_measure 3 = .ok (.istore_n 3, 1) := by decide +kernel
theorem d_Sm_measure_4 : decode b_Sm_measure 4 = .ok (.iload_n 3, 1) := by decide +kernel
theorem d_Sm_measure_5 : decode b_Sm_measure 5 = .ok (.iload_n 1, 1) := by decide +kernel
theorem d_Sm_measure_6 : decode b_Sm_measure 6 = .ok (.if_icmp .ge 32, 3) := by decide +kernel
theorem d_Sm_measure_9 : decode b_Sm_measure 9 = .ok (.aload_n 0, 1) := by decide +kernel
theorem d_Sm_measure_10 : decode b_Sm_measure 10 = .ok (.getfield 157, 3) := by decide +kernel
theorem d_Sm_measure_13 : decode b_Sm_measure 13 = .ok (.iload_n 3, 1) := by decide +kernel
theorem d_Sm_measure_14 : decode b_Sm_measure 14 = .ok (.iconst 1, 1) := by decide +kernel
theorem d_Sm_measure_15 : decode b_Sm_measure 15 = .ok (.isub, 1) := by decide +kernel
theorem d_Sm_measure_16 : decode b_Sm_measure 16 = .ok (.baload, 1) := by decide +kernel
theorem d_Sm_measure_17 : decode b_Sm_measure 17 = .ok (.ifCond .eq 15, 3) := by decide +kernel
theorem d_Sm_measure_20 : decode b_Sm_measure 20 = .ok (.aload_n 0, 1) := by decide +kernel
theorem d_Sm_measure_21 : decode b_Sm_measure 21 = .ok (.getfield 157, 3) := by decide +kernel
theorem d_Sm_measure_24 : decode b_Sm_measure 24 = .ok (.iload_n 3, 1) := by decide +kernel
theorem d_Sm_measure_25 : decode b_Sm_measure 25 = .ok (.baload, 1) := by decide +kernel
theorem d_Sm_measure_26 : decode b_Sm_measure 26 = .ok (.ifCond .ne 6, 3) := by decide +kernel
theorem d_Sm_measure_29 : decode b_Sm_measure 29 = .ok (.iinc 2 1, 3) := by decide +kernel
theorem d_Sm_measure_32 : decode b_Sm_measure 32 = .ok (.iinc 3 1, 3) := by decide +kernel
theorem d_Sm_measure_35 : decode b_Sm_measure 35 = .ok (.goto (-31), 3) := by decide +kernel
theorem d_Sm_measure_38 : decode b_Sm_measure 38 = .ok (.iload_n 2, 1) := by decide +kernel
theorem d_Sm_measure_39 : decode b_Sm_measure 39 = .ok (.ireturn, 1) := by decide +kernel
theorem d_Sm_hasVowel_0 : decode b_Sm_hasVowel 0 = .ok (.iconst 0, 1) := by decide +kernel
theorem d_Sm_hasVowel_1 : decode b_Sm_hasVowel 1 = .ok (.istore_n 2, 1) := by decide +kernel
theorem d_Sm_hasVowel_2 : decode b_Sm_hasVowel 2 = .ok (.iload_n 2, 1) := by decide +kernel
theorem d_Sm_hasVowel_3 : decode b_Sm_hasVowel 3 = .ok (.iload_n 1, 1) := by decide +kernel
theorem d_Sm_hasVowel_4 : decode b_Sm_hasVowel 4 = .ok (.if_icmp .ge 20, 3) := by decide +kernel
theorem d_Sm_hasVowel_7 : decode b_Sm_hasVowel 7 = .ok (.aload_n 0, 1) := by decide +kernel
theorem d_Sm_hasVowel_8 : decode b_Sm_hasVowel 8 = .ok (.getfield 157, 3) := by decide +kernel
theorem d_Sm_hasVowel_11 : decode b_Sm_hasVowel 11 = .ok (.iload_n 2, 1) := by decide +kernel
theorem d_Sm_hasVowel_12 : decode b_Sm_hasVowel 12 = .ok (.baload, 1) := by decide +kernel
theorem d_Sm_hasVowel_13 : decode b_Sm_hasVowel 13 = .ok (.ifCond .eq 5, 3) := by decide +kernel
theorem d_Sm_hasVowel_16 : decode b_Sm_hasVowel 16 = .ok (.iconst 1, 1) := by decide +kernel
theorem d_Sm_hasVowel_17 : decode b_Sm_hasVowel 17 = .ok (.ireturn, 1) := by decide +kernel
theorem d_Sm_hasVowel_18 : decode b_Sm_hasVowel 18 = .ok (.iinc 2 1, 3) := by decide +kernel
theorem d_Sm_hasVowel_21 : decode b_Sm_hasVowel 21 = .ok (.goto (-19), 3) := by decide +kernel
theorem d_Sm_hasVowel_24 : decode b_Sm_hasVowel 24 = .ok (.iconst 0, 1) := by decide +kernel
theorem d_Sm_hasVowel_25 : decode b_Sm_hasVowel 25 = .ok (.ireturn, 1) := by decide +kernel
theorem d_Sm_mendAfter1b_0 : decode b_Sm_mendAfter1b 0 = .ok (.aload_n 0, 1) := by decide +kernel
theorem d_Sm_mendAfter1b_1 : decode b_Sm_mendAfter1b 1 = .ok (.getfield 153, 3) := by decide +kernel
theorem d_Sm_mendAfter1b_4 : decode b_Sm_mendAfter1b 4 = .ok (.ldc 230, 2) := by decide +kernel
theorem d_Sm_mendAfter1b_6 : decode b_Sm_mendAfter1b 6 = .ok (.invokevirtual 232, 3) := by decide +kernel
theorem d_Sm_mendAfter1b_9 : decode b_Sm_mendAfter1b 9 = .ok (.ifCond .ne 27, 3) := by decide +kernel
theorem d_Sm_mendAfter1b_12 : decode b_Sm_mendAfter1b 12 = .ok (.aload_n 0, 1) := by decide +kernel
theorem d_Sm_mendAfter1b_13 : decode b_Sm_mendAfter1b 13 = .ok (.getfield 153, 3) := by decide +kernel
theorem d_Sm_mendAfter1b_16 : decode b_Sm_mendAfter1b 16 = .ok (.ldc 236, 2) := by decide +kernel
theorem d_Sm_mendAfter1b_18 : decode b_Sm_mendAfter1b 18 = .ok (.invokevirtual 232, 3) := by decide +kernel
theorem d_Sm_mendAfter1b_21 : decode b_Sm_mendAfter1b 21 = .ok (.ifCond .ne 15, 3) := by decide +kernel
theorem d_Sm_mendAfter1b_24 : decode b_Sm_mendAfter1b 24 = .ok (.aload_n 0, 1) := by decide +kernel
theorem d_Sm_mendAfter1b_25 : decode b_Sm_mendAfter1b 25 = .ok (.getfield 153, 3) := by decide +kernel
theorem d_Sm_mendAfter1b_28 : decode b_Sm_mendAfter1b 28 = .ok (.ldc 238, 2) := by decide +kernel
theorem d_Sm_mendAfter1b_30 : decode b_Sm_mendAfter1b 30 = .ok (.invokevirtual 232, 3) := by decide +kernel
theorem d_Sm_mendAfter1b_33 : decode b_Sm_mendAfter1b 33 = .ok (.ifCond .eq 19, 3) := by decide +kernel
theorem d_Sm_mendAfter1b_36 : decode b_Sm_mendAfter1b 36 = .ok (.aload_n 0, 1) := by decide +kernel
theorem d_Sm_mendAfter1b_37 : decode b_Sm_mendAfter1b 37 = .ok (.aload_n 0, 1) := by decide +kernel
theorem d_Sm_mendAfter1b_38 : decode b_Sm_mendAfter1b 38 = .ok (.getfield 153, 3) := by decide +kernel
theorem d_Sm_mendAfter1b_41 : decode b_Sm_mendAfter1b 41 = .ok (.getfield 161, 3) := by decide +kernel
theorem d_Sm_mendAfter1b_44 : decode b_Sm_mendAfter1b 44 = .ok (.ldc 75, 2) := by decide +kernel
theorem d_Sm_mendAfter1b_46 : decode b_Sm_mendAfter1b 46 = .ok (.invokevirtual 206, 3) := by decide +kernel
theorem d_Sm_mendAfter1b_49 : decode b_Sm_mendAfter1b 49 = .ok (.goto 106, 3) := by decide +kernel
theorem d_Sm_mendAfter1b_52 : decode b_Sm_mendAfter1b 52 = .ok (.aload_n 0, 1) := by decide +kernel
theorem d_Sm_mendAfter1b_53 : decode b_Sm_mendAfter1b 53 = .ok (.invokevirtual 240, 3) := by decide +kernel
theorem d_Sm_mendAfter1b_56 : decode b_Sm_mendAfter1b 56 = .ok (.ifCond .eq 57, 3) := by decide +kernel
theorem d_Sm_mendAfter1b_59 : decode b_Sm_mendAfter1b 59 = .ok (.aload_n 0, 1) := by decide +kernel
theorem d_Sm_mendAfter1b_60 : decode b_Sm_mendAfter1b 60 = .ok (.getfield 153, 3) := by decide +kernel
theorem d_Sm_mendAfter1b_63 : decode b_Sm_mendAfter1b 63 = .ok (.ldc 243, 2) := by decide +kernel
theorem d_Sm_mendAfter1b_65 : decode b_Sm_mendAfter1b 65 = .ok (.invokevirtual 232, 3) := by decide +kernel
theorem d_Sm_mendAfter1b_68 : decode b_Sm_mendAfter1b 68 = .ok (.ifCond .ne 45, 3) := by decide +kernel
theorem d_Sm_mendAfter1b_71 : decode b_Sm_mendAfter1b 71 = .ok (.aload_n 0, 1) := by decide +kernel
theorem d_Sm_mendAfter1b_72 : decode b_Sm_mendAfter1b 72 = .ok (.getfield 153, 3) := by decide +kernel
theorem d_Sm_mendAfter1b_75 : decode b_Sm_mendAfter1b 75 = .ok (.ldc 20, 2) := by decide +kernel
theorem d_Sm_mendAfter1b_77 : decode b_Sm_mendAfter1b 77 = .ok (.invokevirtual 232, 3) := by decide +kernel
theorem d_Sm_mendAfter1b_80 : decode b_Sm_mendAfter1b 80 = .ok (.ifCond .ne 33, 3) := by decide +kernel
theorem d_Sm_mendAfter1b_83 : decode b_Sm_mendAfter1b 83 = .ok (.aload_n 0, 1) := by decide +kernel
theorem d_Sm_mendAfter1b_84 : decode b_Sm_mendAfter1b 84 = .ok (.getfield 153, 3) := by decide +kernel
theorem d_Sm_mendAfter1b_87 : decode b_Sm_mendAfter1b 87 = .ok (.ldc 245, 2) := by decide +kernel
theorem d_Sm_mendAfter1b_89 : decode b_Sm_mendAfter1b 89 = .ok (.invokevirtual 232, 3) := by decide +kernel
theorem d_Sm_mendAfter1b_92 : decode b_Sm_mendAfter1b 92 = .ok (.ifCond .ne 21, 3) := by decide +kernel
theorem d_Sm_mendAfter1b_95 : decode b_Sm_mendAfter1b 95 = .ok (.aload_n 0, 1) := by decide +kernel
theorem d_Sm_mendAfter1b_96 : decode b_Sm_mendAfter1b 96 = .ok (.aload_n 0, 1) := by decide +kernel
theorem d_Sm_mendAfter1b_97 : decode b_Sm_mendAfter1b 97 = .ok (.getfield 153, 3) := by decide +kernel
theorem d_Sm_mendAfter1b_100 : decode b_Sm_mendAfter1b 100 = .ok (.getfield 161, 3) := by decide +kernel
theorem d_Sm_mendAfter1b_103 : decode b_Sm_mendAfter1b 103 = .ok (.iconst 1, 1) := by decide +kernel
theorem d_Sm_mendAfter1b_104 : decode b_Sm_mendAfter1b 104 = .ok (.isub, 1) := by decide +kernel
theorem d_Sm_mendAfter1b_105 : decode b_Sm_mendAfter1b 105 = .ok (.ldc 22, 2) := by decide +kernel
theorem d_Sm_mendAfter1b_107 : decode b_Sm_mendAfter1b 107 = .ok (.invokevirtual 206, 3) := by decide +kernel
theorem d_Sm_mendAfter1b_110 : decode b_Sm_mendAfter1b 110 = .ok (.goto 45, 3) := by decide +kernel
theorem d_Sm_mendAfter1b_113 : decode b_Sm_mendAfter1b 113 = .ok (.aload_n 0, 1) := by decide +kernel
theorem d_Sm_mendAfter1b_114 : decode b_Sm_mendAfter1b 114 = .ok (.aload_n 0, 1) := by decide +kernel
theorem d_Sm_mendAfter1b_115 : decode b_Sm_mendAfter1b 115 = .ok (.getfield 153, 3) := by decide +kernel
theorem d_Sm_mendAfter1b_118 : decode b_Sm_mendAfter1b 118 = .ok (.getfield 161, 3) := by decide +kernel
theorem d_Sm_mendAfter1b_121 : decode b_Sm_mendAfter1b 121 = .ok (.invokevirtual 219, 3) := by decide +kernel
theorem d_Sm_mendAfter1b_124 : decode b_Sm_mendAfter1b 124 = .ok (.iconst 1, 1) := by decide +kernel
theorem d_Sm_mendAfter1b_125 : decode b_Sm_mendAfter1b 125 = .ok (.if_icmp .ne 30, 3) := by decide +kernel
theorem d_Sm_mendAfter1b_128 : decode b_Sm_mendAfter1b 128 = .ok (.aload_n 0, 1) := by decide +kernel
theorem d_Sm_mendAfter1b_129 : decode b_Sm_mendAfter1b 129 = .ok (.aload_n 0, 1) := by decide +kernel
theorem d_Sm_mendAfter1b_130 : decode b_Sm_mendAfter1b 130 = .ok (.getfield 153, 3) := by decide +kernel
theorem d_Sm_mendAfter1b_133 : decode b_Sm_mendAfter1b 133 = .ok (.getfield 161, 3) := by decide +kernel
theorem d_Sm_mendAfter1b_136 : decode b_Sm_mendAfter1b 136 = .ok (.invokevirtual 247, 3) := by decide +kernel
theorem d_Sm_mendAfter1b_139 : decode b_Sm_mendAfter1b 139 = .ok (.ifCond .eq 16, 3) := by decide +kernel
theorem d_Sm_mendAfter1b_142 : decode b_Sm_mendAfter1b 142 = .ok (.aload_n 0, 1) := by decide +kernel
theorem d_Sm_mendAfter1b_143 : decode b_Sm_mendAfter1b 143 = .ok (.aload_n 0, 1) := by decide +kernel
theorem d_Sm_mendAfter1b_144 : decode b_Sm_mendAfter1b 144 = .ok (.getfield 153, 3) := by decide +kernel
theorem d_Sm_mendAfter1b_147 : decode b_Sm_mendAfter1b 147 = .ok (.getfield 161, 3) := by decide +kernel
theorem d_Sm_mendAfter1b_150 : decode b_Sm_mendAfter1b 150 = .ok (.ldc 75, 2) := by decide +kernel
theorem d_Sm_mendAfter1b_152 : decode b_Sm_mendAfter1b 152 = .ok (.invokevirtual 206, 3) := by decide +kernel
theorem d_Sm_mendAfter1b_155 : decode b_Sm_mendAfter1b 155 = .ok (.return_, 1) := by decide +kernel
theorem d_Sm_isDouble_0 : decode b_Sm_isDouble 0 = .ok (.aload_n 0, 1) := by decide +kernel
theorem d_Sm_isDouble_1 : decode b_Sm_isDouble 1 = .ok (.getfield 153, 3) := by decide +kernel
theorem d_Sm_isDouble_4 : decode b_Sm_isDouble 4 = .ok (.getfield 161, 3) := by decide +kernel
theorem d_Sm_isDouble_7 : decode b_Sm_isDouble 7 = .ok (.iconst 1, 1) := by decide +kernel
theorem d_Sm_isDouble_8 : decode b_Sm_isDouble 8 = .ok (.isub, 1) := by decide +kernel
theorem d_Sm_isDouble_9 : decode b_Sm_isDouble 9 = .ok (.istore_n 1, 1) := by decide +kernel
theorem d_Sm_isDouble_10 : decode b_Sm_isDouble 10 = .ok (.iload_n 1, 1) := by decide +kernel
theorem d_Sm_isDouble_11 : decode b_Sm_isDouble 11 = .ok (.ifCond .le 39, 3) := by decide +kernel
theorem d_Sm_isDouble_14 : decode b_Sm_isDouble 14 = .ok (.aload_n 0, 1) := by decide +kernel
theorem d_Sm_isDouble_15 : decode b_Sm_isDouble 15 = .ok (.getfield 153, 3) := by decide +kernel
theorem d_Sm_isDouble_18 : decode b_Sm_isDouble 18 = .ok (.getfield 263, 3) := by decide +kernel
theorem d_Sm_isDouble_21 : decode b_Sm_isDouble 21 = .ok (.iload_n 1, 1) := by decide +kernel
theorem d_Sm_isDouble_22 : decode b_Sm_isDouble 22 = .ok (.iaload, 1) := by decide +kernel
theorem d_Sm_isDouble_23 : decode b_Sm_isDouble 23 = .ok (.aload_n 0, 1) := by decide +kernel
theorem d_Sm_isDouble_24 : decode b_Sm_isDouble 24 = .ok (.getfield 153, 3) := by decide +kernel
theorem d_Sm_isDouble_27 : decode b_Sm_isDouble 27 = .ok (.getfield 263, 3) := by decide +kernel
theorem d_Sm_isDouble_30 : decode b_Sm_isDouble 30 = .ok (.iload_n 1, 1) := by decide +kernel
theorem d_Sm_isDouble_31 : decode b_Sm_isDouble 31 = .ok (.iconst 1, 1) := by decide +kernel
theorem d_Sm_isDouble_32 : decode b_Sm_isDouble 32 = .ok (.isub, 1) := by decide +kernel
theorem d_Sm_isDouble_33 : decode b_Sm_isDouble 33 = .ok (.iaload, 1) := by decide +kernel
theorem d_Sm_isDouble_34 : decode b_Sm_isDouble 34 = .ok (.if_icmp .ne 16, 3) := by decide +kernel
theorem d_Sm_isDouble_37 : decode b_Sm_isDouble 37 = .ok (.aload_n 0, 1) := by decide +kernel
theorem d_Sm_isDouble_38 : decode b_Sm_isDouble 38 = .ok (.getfield 157, 3) := by decide +kernel
theorem d_Sm_isDouble_41 : decode b_Sm_isDouble 41 = .ok (.iload_n 1, 1) := by decide +kernel
theorem d_Sm_isDouble_42 : decode b_Sm_isDouble 42 = .ok (.baload, 1) := by decide +kernel
theorem d_Sm_isDouble_43 : decode b_Sm_isDouble 43 = .ok (.ifCond .ne 7, 3) := by decide +kernel
theorem d_Sm_isDouble_46 : decode b_Sm_isDouble 46 = .ok (.iconst 1, 1) := by decide +kernel
theorem d_Sm_isDouble_47 : decode b_Sm_isDouble 47 = .ok (.goto 4, 3) := by decide +kernel
theorem d_Sm_isDouble_50 : decode b_Sm_isDouble 50 = .ok (.iconst 0, 1) := by decide +kernel
theorem d_Sm_isDouble_51 : decode b_Sm_isDouble 51 = .ok (.ireturn, 1) := by decide +kernel
theorem d_Sm_isCvc_0 : decode b_Sm_isCvc 0 = .ok (.iload_n 1, 1) := by decide +kernel
theorem d_Sm_isCvc_1 : decode b_Sm_isCvc 1 = .ok (.iconst 3, 1) := by decide +kernel
theorem d_Sm_isCvc_2 : decode b_Sm_isCvc 2 = .ok (.if_icmp .lt 36, 3) := by decide +kernel
theorem d_Sm_isCvc_5 : decode b_Sm_isCvc 5 = .ok (.aload_n 0, 1) := by decide +kernel
theorem d_Sm_isCvc_6 : decode b_Sm_isCvc 6 = .ok (.getfield 157, 3) := by decide +kernel
theorem d_Sm_isCvc_9 : decode b_Sm_isCvc 9 = .ok (.iload_n 1, 1) := by decide +kernel
theorem d_Sm_isCvc_10 : decode b_Sm_isCvc 10 = .ok (.iconst 3, 1) := by decide +kernel
theorem d_Sm_isCvc_11 : decode b_Sm_isCvc 11 = .ok (.isub, 1) := by decide +kernel
theorem d_Sm_isCvc_12 : decode b_Sm_isCvc 12 = .ok (.baload, 1) := by decide +kernel
theorem d_Sm_isCvc_13 : decode b_Sm_isCvc 13 = .ok (.ifCond .ne 25, 3) := by decide +kernel
theorem d_Sm_isCvc_16 : decode b_Sm_isCvc 16 = .ok (.aload_n 0, 1) := by decide +kernel
theorem d_Sm_isCvc_17 : decode b_Sm_isCvc 17 = .ok (.getfield 157, 3) := by decide +kernel
theorem d_Sm_isCvc_20 : decode b_Sm_isCvc 20 = .ok (.iload_n 1, 1) := by decide +kernel
theorem d_Sm_isCvc_21 : decode b_Sm_isCvc 21 = .ok (.iconst 2, 1) := by decide +kernel
theorem d_Sm_isCvc_22 : decode b_Sm_isCvc 22 = .ok (.isub, 1) := by decide +kernel
theorem d_Sm_isCvc_23 : decode b_Sm_isCvc 23 = .ok (.baload, 1) := by decide +kernel
theorem d_Sm_isCvc_24 : decode b_Sm_isCvc 24 = .ok (.ifCond .eq 14, 3) := by decide +kernel
theorem d_Sm_isCvc_27 : decode b_Sm_isCvc 27 = .ok (.aload_n 0, 1) := by decide +kernel
theorem d_Sm_isCvc_28 : decode b_Sm_isCvc 28 = .ok (.getfield 157, 3) := by decide +kernel
theorem d_Sm_isCvc_31 : decode b_Sm_isCvc 31 = .ok (.iload_n 1, 1) := by decide +kernel
theorem d_Sm_isCvc_32 : decode b_Sm_isCvc 32 = .ok (.iconst 1, 1) := by decide +kernel
theorem d_Sm_isCvc_33 : decode b_Sm_isCvc 33 = .ok (.isub, 1) := by decide +kernel
theorem d_Sm_isCvc_34 : decode b_Sm_isCvc 34 = .ok (.baload, 1) := by decide +kernel
theorem d_Sm_isCvc_35 : decode b_Sm_isCvc 35 = .ok (.ifCond .eq 5, 3) := by decide +kernel
theorem d_Sm_isCvc_38 : decode b_Sm_isCvc 38 = .ok (.iconst 0, 1) := by decide +kernel
theorem d_Sm_isCvc_39 : decode b_Sm_isCvc 39 = .ok (.ireturn, 1) := by decide +kernel
theorem d_Sm_isCvc_40 : decode b_Sm_isCvc 40 = .ok (.aload_n 0, 1) := by decide +kernel
theorem d_Sm_isCvc_41 : decode b_Sm_isCvc 41 = .ok (.getfield 153, 3) := by decide +kernel
theorem d_Sm_isCvc_44 : decode b_Sm_isCvc 44 = .ok (.getfield 263, 3) := by decide +kernel
theorem d_Sm_isCvc_47 : decode b_Sm_isCvc 47 = .ok (.iload_n 1, 1) := by decide +kernel
theorem d_Sm_isCvc_48 : decode b_Sm_isCvc 48 = .ok (.iconst 1, 1) := by decide +kernel
theorem d_Sm_isCvc_49 : decode b_Sm_isCvc 49 = .ok (.isub, 1) := by decide +kernel
theorem d_Sm_isCvc_50 : decode b_Sm_isCvc 50 = .ok (.iaload, 1) := by decide +kernel
theorem d_Sm_isCvc_51 : decode b_Sm_isCvc 51 = .ok (.istore_n 2, 1) := by decide +kernel
theorem d_Sm_isCvc_52 : decode b_Sm_isCvc 52 = .ok (.iload_n 2, 1) := by decide +kernel
theorem d_Sm_isCvc_53 : decode b_Sm_isCvc 53 = .ok (.bipush 119, 2) := by decide +kernel
theorem d_Sm_isCvc_55 : decode b_Sm_isCvc 55 = .ok (.if_icmp .eq 19, 3) := by decide +kernel
theorem d_Sm_isCvc_58 : decode b_Sm_isCvc 58 = .ok (.iload_n 2, 1) := by decide +kernel
theorem d_Sm_isCvc_59 : decode b_Sm_isCvc 59 = .ok (.bipush 120, 2) := by decide +kernel
theorem d_Sm_isCvc_61 : decode b_Sm_isCvc 61 = .ok (.if_icmp .eq 13, 3) := by decide +kernel
theorem d_Sm_isCvc_64 : decode b_Sm_isCvc 64 = .ok (.iload_n 2, 1) := by decide +kernel
theorem d_Sm_isCvc_65 : decode b_Sm_isCvc 65 = .ok (.bipush 121, 2) := by decide +kernel
theorem d_Sm_isCvc_67 : decode b_Sm_isCvc 67 = .ok (.if_icmp .eq 7, 3) := by decide +kernel
theorem d_Sm_isCvc_70 : decode b_Sm_isCvc 70 = .ok (.iconst 1, 1) := by decide +kernel
theorem d_Sm_isCvc_71 : decode b_Sm_isCvc 71 = .ok (.goto 4, 3) := by decide +kernel
theorem d_Sm_isCvc_74 : decode b_Sm_isCvc 74 = .ok (.iconst 0, 1) := by decide +kernel
theorem d_Sm_isCvc_75 : decode b_Sm_isCvc 75 = .ok (.ireturn, 1) := by decide +kernel
theorem d_Sm_step1c_0 : decode b_Sm_step1c 0 = .ok (.aload_n 0, 1) := by decide +kernel
theorem d_Sm_step1c_1 : decode b_Sm_step1c 1 = .ok (.getfield 153, 3) := by decide +kernel
theorem d_Sm_step1c_4 : decode b_Sm_step1c 4 = .ok (.getfield 161, 3) := by decide +kernel
theorem d_Sm_step1c_7 : decode b_Sm_step1c 7 = .ok (.iconst 1, 1) := by decide +kernel
theorem d_Sm_step1c_8 : decode b_Sm_step1c 8 = .ok (.isub, 1) := by decide +kernel
theorem d_Sm_step1c_9 : decode b_Sm_step1c 9 = .ok (.istore_n 1, 1) := by decide +kernel
theorem d_Sm_step1c_10 : decode b_Sm_step1c 10 = .ok (.aload_n 0, 1) := by decide +kernel
theorem d_Sm_step1c_11 : decode b_Sm_step1c 11 = .ok (.getfield 153, 3) := by decide +kernel
theorem d_Sm_step1c_14 : decode b_Sm_step1c 14 = .ok (.ldc 250, 2) := by decide +kernel
theorem d_Sm_step1c_16 : decode b_Sm_step1c 16 = .ok (.invokevirtual 232, 3) := by decide +kernel
theorem d_Sm_step1c_19 : decode b_Sm_step1c 19 = .ok (.ifCond .eq 18, 3) := by decide +kernel
theorem d_Sm_step1c_22 : decode b_Sm_step1c 22 = .ok (.aload_n 0, 1) := by decide +kernel
theorem d_Sm_step1c_23 : decode b_Sm_step1c 23 = .ok (.iload_n 1, 1) := by decide +kernel
theorem d_Sm_step1c_24 : decode b_Sm_step1c 24 = .ok (.invokevirtual 223, 3) := by decide +kernel
theorem d_Sm_step1c_27 : decode b_Sm_step1c 27 = .ok (.ifCond .eq 10, 3) := by decide +kernel
theorem d_Sm_step1c_30 : decode b_Sm_step1c 30 = .ok (.aload_n 0, 1) := by decide +kernel
theorem d_Sm_step1c_31 : decode b_Sm_step1c 31 = .ok (.iload_n 1, 1) := by decide +kernel
theorem d_Sm_step1c_32 : decode b_Sm_step1c 32 = .ok (.ldc 18, 2) := by decide +kernel
theorem d_Sm_step1c_34 : decode b_Sm_step1c 34 = .ok (.invokevirtual 206, 3) := by decide +kernel
theorem d_Sm_step1c_37 : decode b_Sm_step1c 37 = .ok (.return_, 1) := by decide +kernel
theorem d_Sm_replaceIfAbove_0 : decode b_Sm_replaceIfAbove 0 = .ok (.aload_n 0, 1) := by decide +kernel
theorem d_Sm_replaceIfAbove_1 : decode b_Sm_replaceIfAbove 1 = .ok (.aload_n 1, 1) := by decide +kernel
theorem d_Sm_replaceIfAbove_2 : decode b_Sm_replaceIfAbove 2 = .ok (.invokevirtual 194, 3) := by decide +kernel
theorem d_Sm_replaceIfAbove_5 : decode b_Sm_replaceIfAbove 5 = .ok (.astore_n 3, 1) := by decide +kernel
theorem d_Sm_replaceIfAbove_6 : decode b_Sm_replaceIfAbove 6 = .ok (.aload_n 3, 1) := by decide +kernel
theorem d_Sm_replaceIfAbove_7 : decode b_Sm_replaceIfAbove 7 = .ok (.ifnull 29, 3) := by decide +kernel
theorem d_Sm_replaceIfAbove_10 : decode b_Sm_replaceIfAbove 10 = .ok (.aload_n 0, 1) := by decide +kernel
theorem d_Sm_replaceIfAbove_11 : decode b_Sm_replaceIfAbove 11 = .ok (.aload_n 0, 1) := by decide +kernel
theorem d_Sm_replaceIfAbove_12 : decode b_Sm_replaceIfAbove 12 = .ok (.aload_n 3, 1) := by decide +kernel
theorem d_Sm_replaceIfAbove_13 : decode b_Sm_replaceIfAbove 13 = .ok (.invokevirtual 198, 3) := by decide +kernel
theorem d_Sm_replaceIfAbove_16 : decode b_Sm_replaceIfAbove 16 = .ok (.invokevirtual 219, 3) := by decide +kernel
theorem d_Sm_replaceIfAbove_19 : decode b_Sm_replaceIfAbove 19 = .ok (.iload_n 2, 1) := by decide +kernel
theorem d_Sm_replaceIfAbove_20 : decode b_Sm_replaceIfAbove 20 = .ok (.if_icmp .le 16, 3) := by decide +kernel
theorem d_Sm_replaceIfAbove_23 : decode b_Sm_replaceIfAbove 23 = .ok (.aload_n 0, 1) := by decide +kernel
theorem d_Sm_replaceIfAbove_24 : decode b_Sm_replaceIfAbove 24 = .ok (.aload_n 0, 1) := by decide +kernel
theorem d_Sm_replaceIfAbove_25 : decode b_Sm_replaceIfAbove 25 = .ok (.aload_n 3, 1) := by decide +kernel
theorem d_Sm_replaceIfAbove_26 : decode b_Sm_replaceIfAbove 26 = .ok (.invokevirtual 198, 3) := by decide +kernel
theorem d_Sm_replaceIfAbove_29 : decode b_Sm_replaceIfAbove 29 = .ok (.aload_n 3, 1) := by decide +kernel
theorem d_Sm_replaceIfAbove_30 : decode b_Sm_replaceIfAbove 30 = .ok (.getfield 202, 3) := by decide +kernel
theorem d_Sm_replaceIfAbove_33 : decode b_Sm_replaceIfAbove 33 = .ok (.invokevirtual 206, 3) := by decide +kernel
theorem d_Sm_replaceIfAbove_36 : decode b_Sm_replaceIfAbove 36 = .ok (.return_, 1) := by decide +kernel
theorem d_Sm_step4_0 : decode b_Sm_step4 0 = .ok (.aload_n 0, 1) := by decide +kernel
theorem d_Sm_step4_1 : decode b_Sm_step4 1 = .ok (.getfield 153, 3) := by decide +kernel
theorem d_Sm_step4_4 : decode b_Sm_step4 4 = .ok (.ldc 137, 2) := by decide +kernel
theorem d_Sm_step4_6 : decode b_Sm_step4 6 = .ok (.invokevirtual 232, 3) := by decide +kernel
theorem d_Sm_step4_9 : decode b_Sm_step4 9 = .ok (.ifCond .eq 31, 3) := by decide +kernel
theorem d_Sm_step4_12 : decode b_Sm_step4 12 = .ok (.aload_n 0, 1) := by decide +kernel
theorem d_Sm_step4_13 : decode b_Sm_step4 13 = .ok (.getfield 153, 3) := by decide +kernel
theorem d_Sm_step4_16 : decode b_Sm_step4 16 = .ok (.ldc 252, 2) := by decide +kernel
theorem d_Sm_step4_18 : decode b_Sm_step4 18 = .ok (.invokevirtual 232, 3) := by decide +kernel
theorem d_Sm_step4_21 : decode b_Sm_step4 21 = .ok (.ifCond .ne 19, 3) := by decide +kernel
theorem d_Sm_step4_24 : decode b_Sm_step4 24 = .ok (.aload_n 0, 1) := by decide +kernel
theorem d_Sm_step4_25 : decode b_Sm_step4 25 = .ok (.getfield 153, 3) := by decide +kernel
theorem d_Sm_step4_28 : decode b_Sm_step4 28 = .ok (.ldc 47, 2) := by decide +kernel
theorem d_Sm_step4_30 : decode b_Sm_step4 30 = .ok (.invokevirtual 232, 3) := by decide +kernel
theorem d_Sm_step4_33 : decode b_Sm_step4 33 = .ok (.ifCond .ne 7, 3) := by decide +kernel
theorem d_Sm_step4_36 : decode b_Sm_step4 36 = .ok (.iconst 1, 1) := by decide +kernel
theorem d_Sm_step4_37 : decode b_Sm_step4 37 = .ok (.goto 4, 3) := by decide +kernel
theorem d_Sm_step4_40 : decode b_Sm_step4 40 = .ok (.iconst 0, 1) := by decide +kernel
theorem d_Sm_step4_41 : decode b_Sm_step4 41 = .ok (.istore_n 1, 1) := by decide +kernel
theorem d_Sm_step4_42 : decode b_Sm_step4 42 = .ok (.iload_n 1, 1) := by decide +kernel
theorem d_Sm_step4_43 : decode b_Sm_step4 43 = .ok (.ifCond .ne 12, 3) := by decide +kernel
theorem d_Sm_step4_46 : decode b_Sm_step4 46 = .ok (.aload_n 0, 1) := by decide +kernel
theorem d_Sm_step4_47 : decode b_Sm_step4 47 = .ok (.aload_n 0, 1) := by decide +kernel
theorem d_Sm_step4_48 : decode b_Sm_step4 48 = .ok (.getfield 145, 3) := by decide +kernel
theorem d_Sm_step4_51 : decode b_Sm_step4 51 = .ok (.iconst 1, 1) := by decide +kernel
theorem d_Sm_step4_52 : decode b_Sm_step4 52 = .ok (.invokevirtual 181, 3) := by decide +kernel
theorem d_Sm_step4_55 : decode b_Sm_step4 55 = .ok (.return_, 1) := by decide +kernel
theorem d_Sm_step5a_0 : decode b_Sm_step5a 0 = .ok (.aload_n 0, 1) := by decide +kernel
theorem d_Sm_step5a_1 : decode b_Sm_step5a 1 = .ok (.getfield 153, 3) := by decide +kernel
theorem d_Sm_step5a_4 : decode b_Sm_step5a 4 = .ok (.ldc 75, 2) := by decide +kernel
theorem d_Sm_step5a_6 : decode b_Sm_step5a 6 = .ok (.invokevirtual 232, 3) := by decide +kernel
theorem d_Sm_step5a_9 : decode b_Sm_step5a 9 = .ok (.ifCond .ne 4, 3) := by decide +kernel
theorem d_Sm_step5a_12 : decode b_Sm_step5a 12 = .ok (.return_, 1) := by decide +kernel
theorem d_Sm_step5a_13 : decode b_Sm_step5a 13 = .ok (.aload_n 0, 1) := by decide +kernel
theorem d_Sm_step5a_14 : decode b_Sm_step5a 14 = .ok (.getfield 153, 3) := by decide +kernel
theorem d_Sm_step5a_17 : decode b_Sm_step5a 17 = .ok (.getfield 161, 3) := by decide +kernel
theorem d_Sm_step5a_20 : decode b_Sm_step5a 20 = .ok (.iconst 1, 1) := by decide +kernel
theorem d_Sm_step5a_21 : decode b_Sm_step5a 21 = .ok (.isub, 1) := by decide +kernel
theorem d_Sm_step5a_22 : decode b_Sm_step5a 22 = .ok (.istore_n 1, 1) := by decide +kernel
theorem d_Sm_step5a_23 : decode b_Sm_step5a 23 = .ok (.aload_n 0, 1) := by decide +kernel
theorem d_Sm_step5a_24 : decode b_Sm_step5a 24 = .ok (.iload_n 1, 1) := by decide +kernel
theorem d_Sm_step5a_25 : decode b_Sm_step5a 25 = .ok (.invokevirtual 219, 3) := by decide +kernel
theorem d_Sm_step5a_28 : decode b_Sm_step5a 28 = .ok (.istore_n 2, 1) := by decide +kernel
theorem d_Sm_step5a_29 : decode b_Sm_step5a 29 = .ok (.iload_n 2, 1) := by decide +kernel
theorem d_Sm_step5a_30 : decode b_Sm_step5a 30 = .ok (.iconst 1, 1) := by decide +kernel
theorem d_Sm_step5a_31 : decode b_Sm_step5a 31 = .ok (.if_icmp .gt 16, 3) := by decide +kernel
theorem d_Sm_step5a_34 : decode b_Sm_step5a 34 = .ok (.iload_n 2, 1) := by decide +kernel
theorem d_Sm_step5a_35 : decode b_Sm_step5a 35 = .ok (.iconst 1, 1) := by decide +kernel
theorem d_Sm_step5a_36 : decode b_Sm_step5a 36 = .ok (.if_icmp .ne 18, 3) := by decide +kernel
theorem d_Sm_step5a_39 : decode b_Sm_step5a 39 = .ok (.aload_n 0, 1) := by decide +kernel
theorem d_Sm_step5a_40 : decode b_Sm_step5a 40 = .ok (.iload_n 1, 1) := by decide +kernel
theorem d_Sm_step5a_41 : decode b_Sm_step5a 41 = .ok (.invokevirtual 247, 3) := by decide +kernel
theorem d_Sm_step5a_44 : decode b_Sm_step5a 44 = .ok (.ifCond .ne 10, 3) := by decide +kernel
theorem d_Sm_step5a_47 : decode b_Sm_step5a 47 = .ok (.aload_n 0, 1) := by decide +kernel
theorem d_Sm_step5a_48 : decode b_Sm_step5a 48 = .ok (.iload_n 1, 1) := by decide +kernel
theorem d_Sm_step5a_49 : decode b_Sm_step5a 49 = .ok (.ldc 22, 2) := by decide +kernel
theorem d_Sm_step5a_51 : decode b_Sm_step5a 51 = .ok (.invokevirtual 206, 3) := by decide +kernel
theorem d_Sm_step5a_54 : decode b_Sm_step5a 54 = .ok (.return_, 1) := by decide +kernel
theorem d_Sm_step5b_0 : decode b_Sm_step5b 0 = .ok (.aload_n 0, 1) := by decide +kernel
theorem d_Sm_step5b_1 : decode b_Sm_step5b 1 = .ok (.getfield 153, 3) := by decide +kernel
theorem d_Sm_step5b_4 : decode b_Sm_step5b 4 = .ok (.ldc 254, 2) := by decide +kernel
theorem d_Sm_step5b_6 : decode b_Sm_step5b 6 = .ok (.invokevirtual 232, 3) := by decide +kernel
theorem d_Sm_step5b_9 : decode b_Sm_step5b 9 = .ok (.ifCond .eq 33, 3) := by decide +kernel
theorem d_Sm_step5b_12 : decode b_Sm_step5b 12 = .ok (.aload_n 0, 1) := by decide +kernel
theorem d_Sm_step5b_13 : decode b_Sm_step5b 13 = .ok (.aload_n 0, 1) := by decide +kernel
theorem d_Sm_step5b_14 : decode b_Sm_step5b 14 = .ok (.getfield 153, 3) := by decide +kernel
theorem d_Sm_step5b_17 : decode b_Sm_step5b 17 = .ok (.getfield 161, 3) := by decide +kernel
theorem d_Sm_step5b_20 : decode b_Sm_step5b 20 = .ok (.invokevirtual 219, 3) := by decide +kernel
theorem d_Sm_step5b_23 : decode b_Sm_step5b 23 = .ok (.iconst 1, 1) := by decide +kernel
theorem d_Sm_step5b_24 : decode b_Sm_step5b 24 = .ok (.if_icmp .le 18, 3) := by decide +kernel
theorem d_Sm_step5b_27 : decode b_Sm_step5b 27 = .ok (.aload_n 0, 1) := by decide +kernel
theorem d_Sm_step5b_28 : decode b_Sm_step5b 28 = .ok (.aload_n 0, 1) := by decide +kernel
theorem d_Sm_step5b_29 : decode b_Sm_step5b 29 = .ok (.getfield 153, 3) := by decide +kernel
theorem d_Sm_step5b_32 : decode b_Sm_step5b 32 = .ok (.getfield 161, 3) := by decide +kernel
theorem d_Sm_step5b_35 : decode b_Sm_step5b 35 = .ok (.iconst 1, 1) := by decide +kernel
theorem d_Sm_step5b_36 : decode b_Sm_step5b 36 = .ok (.isub, 1) := by decide +kernel
theorem d_Sm_step5b_37 : decode b_Sm_step5b 37 = .ok (.ldc 22, 2) := by decide +kernel
theorem d_Sm_step5b_39 : decode b_Sm_step5b 39 = .ok (.invokevirtual 206, 3) := by decide +kernel
theorem d_Sm_step5b_42 : decode b_Sm_step5b 42 = .ok (.return_, 1) := by decide +kernel
theorem d_To_add_0 : decode b_To_add 0 = .ok (.aload_n 0, 1) := by decide +kernel
theorem d_To_add_1 : decode b_To_add 1 = .ok (.getfield 20, 3) := by decide +kernel
theorem d_To_add_4 : decode b_To_add 4 = .ok (.aload_n 0, 1) := by decide +kernel
theorem d_To_add_5 : decode b_To_add 5 = .ok (.getfield 7, 3) := by decide +kernel
theorem d_To_add_8 : decode b_To_add 8 = .ok (.iaload, 1) := by decide +kernel
theorem d_To_add_9 : decode b_To_add 9 = .ok (.istore_n 3, 1) := by decide +kernel
theorem d_To_add_10 : decode b_To_add 10 = .ok (.aload_n 1, 1) := by decide +kernel
theorem d_To_add_11 : decode b_To_add 11 = .ok (.getfield 23, 3) := by decide +kernel
theorem d_To_add_14 : decode b_To_add 14 = .ok (.iconst 0, 1) := by decide +kernel
theorem d_To_add_15 : decode b_To_add 15 = .ok (.aload_n 0, 1) := by decide +kernel
theorem d_To_add_16 : decode b_To_add 16 = .ok (.getfield 13, 3) := by decide +kernel
theorem d_To_add_19 : decode b_To_add 19 = .ok (.iload_n 3, 1) := by decide +kernel
theorem d_To_add_20 : decode b_To_add 20 = .ok (.aload_n 1, 1) := by decide +kernel
theorem d_To_add_21 : decode b_To_add 21 = .ok (.getfield 26, 3) := by decide +kernel
theorem d_To_add_24 : decode b_To_add 24 = .ok (.invokestatic 29, 3) := by decide +kernel
theorem d_To_add_27 : decode b_To_add 27 = .ok (.aload_n 0, 1) := by decide +kernel
theorem d_To_add_28 : decode b_To_add 28 = .ok (.getfield 17, 3) := by decide +kernel
theorem d_To_add_31 : decode b_To_add 31 = .ok (.aload_n 0, 1) := by decide +kernel
theorem d_To_add_32 : decode b_To_add 32 = .ok (.getfield 7, 3) := by decide +kernel
theorem d_To_add_35 : decode b_To_add 35 = .ok (.iload_n 2, 1) := by decide +kernel
theorem d_To_add_36 : decode b_To_add 36 = .ok (.iastore, 1) := by decide +kernel
theorem d_To_add_37 : decode b_To_add 37 = .ok (.aload_n 0, 1) := by decide +kernel
theorem d_To_add_38 : decode b_To_add 38 = .ok (.dup, 1) := by decide +kernel
theorem d_To_add_39 : decode b_To_add 39 = .ok (.getfield 7, 3) := by decide +kernel
theorem d_To_add_42 : decode b_To_add 42 = .ok (.iconst 1, 1) := by decide +kernel
theorem d_To_add_43 : decode b_To_add 43 = .ok (.iadd, 1) := by decide +kernel
theorem d_To_add_44 : decode b_To_add 44 = .ok (.putfield 7, 3) := by decide +kernel
theorem d_To_add_47 : decode b_To_add 47 = .ok (.aload_n 0, 1) := by decide +kernel
theorem d_To_add_48 : decode b_To_add 48 = .ok (.getfield 20, 3) := by decide +kernel
theorem d_To_add_51 : decode b_To_add 51 = .ok (.aload_n 0, 1) := by decide +kernel
theorem d_To_add_52 : decode b_To_add 52 = .ok (.getfield 7, 3) := by decide +kernel
theorem d_To_add_55 : decode b_To_add 55 = .ok (.iload_n 3, 1) := by decide +kernel
theorem d_To_add_56 : decode b_To_add 56 = .ok (.aload_n 1, 1) := by decide +kernel
theorem d_To_add_57 : decode b_To_add 57 = .ok (.getfield 26, 3) := by decide +kernel
theorem d_To_add_60 : decode b_To_add 60 = .ok (.iadd, 1) := by decide +kernel
theorem d_To_add_61 : decode b_To_add 61 = .ok (.iastore, 1) := by decide +kernel
theorem d_To_add_62 : decode b_To_add 62 = .ok (.return_, 1) := by decide +kernel
theorem d_X_count_0 : decode b_X_count 0 = .ok (.iload_n 1, 1) := by decide +kernel
theorem d_X_count_1 : decode b_X_count 1 = .ok (.tableswitch 77 0 4 #[35, 40, 48, 53, 61], 35) := by decide +kernel
theorem d_X_count_36 : decode b_X_count 36 = .ok (.aload_n 0, 1) := by decide +kernel
theorem d_X_count_37 : decode b_X_count 37 = .ok (.getfield 13, 3) := by decide +kernel
theorem d_X_count_40 : decode b_X_count 40 = .ok (.ireturn, 1) := by decide +kernel
theorem d_X_count_41 : decode b_X_count 41 = .ok (.aload_n 0, 1) := by decide +kernel
theorem d_X_count_42 : decode b_X_count 42 = .ok (.getfield 43, 3) := by decide +kernel
theorem d_X_count_45 : decode b_X_count 45 = .ok (.getfield 93, 3) := by decide +kernel
theorem d_X_count_48 : decode b_X_count 48 = .ok (.ireturn, 1) := by decide +kernel
theorem d_X_count_49 : decode b_X_count 49 = .ok (.aload_n 0, 1) := by decide +kernel
theorem d_X_count_50 : decode b_X_count 50 = .ok (.getfield 47, 3) := by decide +kernel
theorem d_X_count_53 : decode b_X_count 53 = .ok (.ireturn, 1) := by decide +kernel
theorem d_X_count_54 : decode b_X_count 54 = .ok (.aload_n 0, 1) := by decide +kernel
theorem d_X_count_55 : decode b_X_count 55 = .ok (.getfield 22, 3) := by decide +kernel
theorem d_X_count_58 : decode b_X_count 58 = .ok (.getfield 72, 3) := by decide +kernel
theorem d_X_count_61 : decode b_X_count 61 = .ok (.ireturn, 1) := by decide +kernel
theorem d_X_count_62 : decode b_X_count 62 = .ok (.aload_n 0, 1) := by decide +kernel
theorem d_X_count_63 : decode b_X_count 63 = .ok (.getfield 43, 3) := by decide +kernel
theorem d_X_count_66 : decode b_X_count 66 = .ok (.getfield 119, 3) := by decide +kernel
theorem d_X_count_69 : decode b_X_count 69 = .ok (.aload_n 0, 1) := by decide +kernel
theorem d_X_count_70 : decode b_X_count 70 = .ok (.getfield 43, 3) := by decide +kernel
theorem d_X_count_73 : decode b_X_count 73 = .ok (.getfield 93, 3) := by decide +kernel
theorem d_X_count_76 : decode b_X_count 76 = .ok (.iaload, 1) := by decide +kernel
theorem d_X_count_77 : decode b_X_count 77 = .ok (.ireturn, 1) := by decide +kernel
theorem d_X_count_78 : decode b_X_count 78 = .ok (.iconst (-1), 1) := by decide +kernel
theorem d_X_count_79 : decode b_X_count 79 = .ok (.ireturn, 1) := by decide +kernel
theorem d_X_feed_0 : decode b_X_feed 0 = .ok (.aload_n 0, 1) := by decide +kernel
theorem d_X_feed_1 : decode b_X_feed 1 = .ok (.getfield 13, 3) := by decide +kernel
theorem d_X_feed_4 : decode b_X_feed 4 = .ok (.bipush 20, 2) := by decide +kernel
theorem d_X_feed_6 : decode b_X_feed 6 = .ok (.iadd, 1) := by decide +kernel
theorem d_X_feed_7 : decode b_X_feed 7 = .ok (.sipush 8192, 3) := by decide +kernel
theorem d_X_feed_10 : decode b_X_feed 10 = .ok (.if_icmp .le 13, 3) := by decide +kernel
theorem d_X_feed_13 : decode b_X_feed 13 = .ok (.new 50, 3) := by decide +kernel
theorem d_X_feed_16 : decode b_X_feed 16 = .ok (.dup, 1) := by decide +kernel
theorem d_X_feed_17 : decode b_X_feed 17 = .ok (.ldc 52, 2) := by decide +kernel
theorem d_X_feed_19 : decode b_X_feed 19 = .ok (.invokespecial 54, 3) := by decide +kernel
theorem d_X_feed_22 : decode b_X_feed 22 = .ok (.athrow, 1) := by decide +kernel
theorem d_X_feed_23 : decode b_X_feed 23 = .ok (.aload_n 0, 1) := by decide +kernel
theorem d_X_feed_24 : decode b_X_feed 24 = .ok (.iload_n 1, 1) := by decide +kernel
theorem d_X_feed_25 : decode b_X_feed 25 = .ok (.invokevirtual 57, 3) := by decide +kernel
theorem d_X_feed_28 : decode b_X_feed 28 = .ok (.aload_n 0, 1) := by decide +kernel
theorem d_X_feed_29 : decode b_X_feed 29 = .ok (.iload_n 2, 1) := by decide +kernel
theorem d_X_feed_30 : decode b_X_feed 30 = .ok (.invokevirtual 57, 3) := by decide +kernel
theorem d_X_feed_33 : decode b_X_feed 33 = .ok (.aload_n 0, 1) := by decide +kernel
theorem d_X_feed_34 : decode b_X_feed 34 = .ok (.iload_n 3, 1) := by decide +kernel
theorem d_X_feed_35 : decode b_X_feed 35 = .ok (.invokevirtual 57, 3) := by decide +kernel
theorem d_X_feed_38 : decode b_X_feed 38 = .ok (.aload_n 0, 1) := by decide +kernel
theorem d_X_feed_39 : decode b_X_feed 39 = .ok (.iload 4, 2) := by decide +kernel
theorem d_X_feed_41 : decode b_X_feed 41 = .ok (.invokevirtual 57, 3) := by decide +kernel
