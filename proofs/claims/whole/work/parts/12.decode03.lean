theorem d_X_feed_44 : decode b_X_feed 44 = .ok (.aload_n 0, 1) := by decide +kernel
theorem d_X_feed_45 : decode b_X_feed 45 = .ok (.iload 5, 2) := by decide +kernel
theorem d_X_feed_47 : decode b_X_feed 47 = .ok (.invokevirtual 57, 3) := by decide +kernel
theorem d_X_feed_50 : decode b_X_feed 50 = .ok (.aload_n 0, 1) := by decide +kernel
theorem d_X_feed_51 : decode b_X_feed 51 = .ok (.getfield 13, 3) := by decide +kernel
theorem d_X_feed_54 : decode b_X_feed 54 = .ok (.ireturn, 1) := by decide +kernel
theorem d_X_append_0 : decode b_X_append 0 = .ok (.bipush 24, 2) := by decide +kernel
theorem d_X_append_2 : decode b_X_append 2 = .ok (.istore_n 2, 1) := by decide +kernel
theorem d_X_append_3 : decode b_X_append 3 = .ok (.iload_n 2, 1) := by decide +kernel
theorem d_X_append_4 : decode b_X_append 4 = .ok (.ifCond .lt 32, 3) := by decide +kernel
theorem d_X_append_7 : decode b_X_append 7 = .ok (.aload_n 0, 1) := by decide +kernel
theorem d_X_append_8 : decode b_X_append 8 = .ok (.getfield 9, 3) := by decide +kernel
theorem d_X_append_11 : decode b_X_append 11 = .ok (.aload_n 0, 1) := by decide +kernel
theorem d_X_append_12 : decode b_X_append 12 = .ok (.getfield 13, 3) := by decide +kernel
theorem d_X_append_15 : decode b_X_append 15 = .ok (.iload_n 1, 1) := by decide +kernel
theorem d_X_append_16 : decode b_X_append 16 = .ok (.iload_n 2, 1) := by decide +kernel
theorem d_X_append_17 : decode b_X_append 17 = .ok (.iushr, 1) := by decide +kernel
theorem d_X_append_18 : decode b_X_append 18 = .ok (.i2b, 1) := by decide +kernel
theorem d_X_append_19 : decode b_X_append 19 = .ok (.bastore, 1) := by decide +kernel
theorem d_X_append_20 : decode b_X_append 20 = .ok (.aload_n 0, 1) := by decide +kernel
theorem d_X_append_21 : decode b_X_append 21 = .ok (.dup, 1) := by decide +kernel
theorem d_X_append_22 : decode b_X_append 22 = .ok (.getfield 13, 3) := by decide +kernel
theorem d_X_append_25 : decode b_X_append 25 = .ok (.iconst 1, 1) := by decide +kernel
theorem d_X_append_26 : decode b_X_append 26 = .ok (.iadd, 1) := by decide +kernel
theorem d_X_append_27 : decode b_X_append 27 = .ok (.putfield 13, 3) := by decide +kernel
theorem d_X_append_30 : decode b_X_append 30 = .ok (.iinc 2 (-8), 3) := by decide +kernel
theorem d_X_append_33 : decode b_X_append 33 = .ok (.goto (-30), 3) := by decide +kernel
theorem d_X_append_36 : decode b_X_append 36 = .ok (.return_, 1) := by decide +kernel
theorem d_X_end_0 : decode b_X_end 0 = .ok (.iload_n 1, 1) := by decide +kernel
theorem d_X_end_1 : decode b_X_end 1 = .ok (.ifCond .lt 20, 3) := by decide +kernel
theorem d_X_end_4 : decode b_X_end 4 = .ok (.iload_n 1, 1) := by decide +kernel
theorem d_X_end_5 : decode b_X_end 5 = .ok (.bipush 20, 2) := by decide +kernel
theorem d_X_end_7 : decode b_X_end 7 = .ok (.if_icmp .ge 14, 3) := by decide +kernel
theorem d_X_end_10 : decode b_X_end 10 = .ok (.bipush 20, 2) := by decide +kernel
theorem d_X_end_12 : decode b_X_end 12 = .ok (.iload_n 1, 1) := by decide +kernel
theorem d_X_end_13 : decode b_X_end 13 = .ok (.isub, 1) := by decide +kernel
theorem d_X_end_14 : decode b_X_end 14 = .ok (.aload_n 0, 1) := by decide +kernel
theorem d_X_end_15 : decode b_X_end 15 = .ok (.getfield 13, 3) := by decide +kernel
theorem d_X_end_18 : decode b_X_end 18 = .ok (.if_icmp .le 13, 3) := by decide +kernel
theorem d_X_end_21 : decode b_X_end 21 = .ok (.new 60, 3) := by decide +kernel
theorem d_X_end_24 : decode b_X_end 24 = .ok (.dup, 1) := by decide +kernel
theorem d_X_end_25 : decode b_X_end 25 = .ok (.ldc 62, 2) := by decide +kernel
theorem d_X_end_27 : decode b_X_end 27 = .ok (.invokespecial 64, 3) := by decide +kernel
theorem d_X_end_30 : decode b_X_end 30 = .ok (.athrow, 1) := by decide +kernel
theorem d_X_end_31 : decode b_X_end 31 = .ok (.aload_n 0, 1) := by decide +kernel
theorem d_X_end_32 : decode b_X_end 32 = .ok (.dup, 1) := by decide +kernel
theorem d_X_end_33 : decode b_X_end 33 = .ok (.getfield 13, 3) := by decide +kernel
theorem d_X_end_36 : decode b_X_end 36 = .ok (.bipush 20, 2) := by decide +kernel
theorem d_X_end_38 : decode b_X_end 38 = .ok (.iload_n 1, 1) := by decide +kernel
theorem d_X_end_39 : decode b_X_end 39 = .ok (.isub, 1) := by decide +kernel
theorem d_X_end_40 : decode b_X_end 40 = .ok (.isub, 1) := by decide +kernel
theorem d_X_end_41 : decode b_X_end 41 = .ok (.putfield 13, 3) := by decide +kernel
theorem d_X_end_44 : decode b_X_end 44 = .ok (.aload_n 0, 1) := by decide +kernel
theorem d_X_end_45 : decode b_X_end 45 = .ok (.getfield 13, 3) := by decide +kernel
theorem d_X_end_48 : decode b_X_end 48 = .ok (.ireturn, 1) := by decide +kernel
theorem d_X_token_0 : decode b_X_token 0 = .ok (.iload_n 2, 1) := by decide +kernel
theorem d_X_token_1 : decode b_X_token 1 = .ok (.ifCond .eq 18, 3) := by decide +kernel
theorem d_X_token_4 : decode b_X_token 4 = .ok (.iload_n 2, 1) := by decide +kernel
theorem d_X_token_5 : decode b_X_token 5 = .ok (.iconst 1, 1) := by decide +kernel
theorem d_X_token_6 : decode b_X_token 6 = .ok (.if_icmp .eq 13, 3) := by decide +kernel
theorem d_X_token_9 : decode b_X_token 9 = .ok (.new 60, 3) := by decide +kernel
theorem d_X_token_12 : decode b_X_token 12 = .ok (.dup, 1) := by decide +kernel
theorem d_X_token_13 : decode b_X_token 13 = .ok (.ldc 96, 2) := by decide +kernel
theorem d_X_token_15 : decode b_X_token 15 = .ok (.invokespecial 64, 3) := by decide +kernel
theorem d_X_token_18 : decode b_X_token 18 = .ok (.athrow, 1) := by decide +kernel
theorem d_X_token_19 : decode b_X_token 19 = .ok (.aload_n 0, 1) := by decide +kernel
theorem d_X_token_20 : decode b_X_token 20 = .ok (.getfield 43, 3) := by decide +kernel
theorem d_X_token_23 : decode b_X_token 23 = .ok (.iload_n 1, 1) := by decide +kernel
theorem d_X_token_24 : decode b_X_token 24 = .ok (.invokevirtual 98, 3) := by decide +kernel
theorem d_X_token_27 : decode b_X_token 27 = .ok (.ifCond .ne 13, 3) := by decide +kernel
theorem d_X_token_30 : decode b_X_token 30 = .ok (.new 102, 3) := by decide +kernel
theorem d_X_token_33 : decode b_X_token 33 = .ok (.dup, 1) := by decide +kernel
theorem d_X_token_34 : decode b_X_token 34 = .ok (.ldc 104, 2) := by decide +kernel
theorem d_X_token_36 : decode b_X_token 36 = .ok (.invokespecial 106, 3) := by decide +kernel
theorem d_X_token_39 : decode b_X_token 39 = .ok (.athrow, 1) := by decide +kernel
theorem d_X_token_40 : decode b_X_token 40 = .ok (.iload_n 2, 1) := by decide +kernel
theorem d_X_token_41 : decode b_X_token 41 = .ok (.ifCond .ne 15, 3) := by decide +kernel
theorem d_X_token_44 : decode b_X_token 44 = .ok (.aload_n 0, 1) := by decide +kernel
theorem d_X_token_45 : decode b_X_token 45 = .ok (.getfield 43, 3) := by decide +kernel
theorem d_X_token_48 : decode b_X_token 48 = .ok (.getfield 107, 3) := by decide +kernel
theorem d_X_token_51 : decode b_X_token 51 = .ok (.iload_n 1, 1) := by decide +kernel
theorem d_X_token_52 : decode b_X_token 52 = .ok (.iaload, 1) := by decide +kernel
theorem d_X_token_53 : decode b_X_token 53 = .ok (.goto 11, 3) := by decide +kernel
theorem d_X_token_56 : decode b_X_token 56 = .ok (.aload_n 0, 1) := by decide +kernel
theorem d_X_token_57 : decode b_X_token 57 = .ok (.getfield 43, 3) := by decide +kernel
theorem d_X_token_60 : decode b_X_token 60 = .ok (.iload_n 1, 1) := by decide +kernel
theorem d_X_token_61 : decode b_X_token 61 = .ok (.invokevirtual 111, 3) := by decide +kernel
theorem d_X_token_64 : decode b_X_token 64 = .ok (.ireturn, 1) := by decide +kernel
theorem d_To_has_0 : decode b_To_has 0 = .ok (.iload_n 1, 1) := by decide +kernel
theorem d_To_has_1 : decode b_To_has 1 = .ok (.ifCond .lt 15, 3) := by decide +kernel
theorem d_To_has_4 : decode b_To_has 4 = .ok (.iload_n 1, 1) := by decide +kernel
theorem d_To_has_5 : decode b_To_has 5 = .ok (.aload_n 0, 1) := by decide +kernel
theorem d_To_has_6 : decode b_To_has 6 = .ok (.getfield 7, 3) := by decide +kernel
theorem d_To_has_9 : decode b_To_has 9 = .ok (.if_icmp .ge 7, 3) := by decide +kernel
theorem d_To_has_12 : decode b_To_has 12 = .ok (.iconst 1, 1) := by decide +kernel
theorem d_To_has_13 : decode b_To_has 13 = .ok (.goto 4, 3) := by decide +kernel
theorem d_To_has_16 : decode b_To_has 16 = .ok (.iconst 0, 1) := by decide +kernel
theorem d_To_has_17 : decode b_To_has 17 = .ok (.ireturn, 1) := by decide +kernel
theorem d_To_lengthOf_0 : decode b_To_lengthOf 0 = .ok (.aload_n 0, 1) := by decide +kernel
theorem d_To_lengthOf_1 : decode b_To_lengthOf 1 = .ok (.getfield 20, 3) := by decide +kernel
theorem d_To_lengthOf_4 : decode b_To_lengthOf 4 = .ok (.iload_n 1, 1) := by decide +kernel
theorem d_To_lengthOf_5 : decode b_To_lengthOf 5 = .ok (.iconst 1, 1) := by decide +kernel
theorem d_To_lengthOf_6 : decode b_To_lengthOf 6 = .ok (.iadd, 1) := by decide +kernel
theorem d_To_lengthOf_7 : decode b_To_lengthOf 7 = .ok (.iaload, 1) := by decide +kernel
theorem d_To_lengthOf_8 : decode b_To_lengthOf 8 = .ok (.aload_n 0, 1) := by decide +kernel
theorem d_To_lengthOf_9 : decode b_To_lengthOf 9 = .ok (.getfield 20, 3) := by decide +kernel
theorem d_To_lengthOf_12 : decode b_To_lengthOf 12 = .ok (.iload_n 1, 1) := by decide +kernel
theorem d_To_lengthOf_13 : decode b_To_lengthOf 13 = .ok (.iaload, 1) := by decide +kernel
theorem d_To_lengthOf_14 : decode b_To_lengthOf 14 = .ok (.isub, 1) := by decide +kernel
theorem d_To_lengthOf_15 : decode b_To_lengthOf 15 = .ok (.ireturn, 1) := by decide +kernel
theorem d_X_character_0 : decode b_X_character 0 = .ok (.aload_n 0, 1) := by decide +kernel
theorem d_X_character_1 : decode b_X_character 1 = .ok (.getfield 43, 3) := by decide +kernel
theorem d_X_character_4 : decode b_X_character 4 = .ok (.iload_n 1, 1) := by decide +kernel
theorem d_X_character_5 : decode b_X_character 5 = .ok (.invokevirtual 98, 3) := by decide +kernel
theorem d_X_character_8 : decode b_X_character 8 = .ok (.ifCond .eq 19, 3) := by decide +kernel
theorem d_X_character_11 : decode b_X_character 11 = .ok (.iload_n 2, 1) := by decide +kernel
theorem d_X_character_12 : decode b_X_character 12 = .ok (.ifCond .lt 15, 3) := by decide +kernel
theorem d_X_character_15 : decode b_X_character 15 = .ok (.iload_n 2, 1) := by decide +kernel
theorem d_X_character_16 : decode b_X_character 16 = .ok (.aload_n 0, 1) := by decide +kernel
theorem d_X_character_17 : decode b_X_character 17 = .ok (.getfield 43, 3) := by decide +kernel
theorem d_X_character_20 : decode b_X_character 20 = .ok (.iload_n 1, 1) := by decide +kernel
theorem d_X_character_21 : decode b_X_character 21 = .ok (.invokevirtual 111, 3) := by decide +kernel
theorem d_X_character_24 : decode b_X_character 24 = .ok (.if_icmp .lt 13, 3) := by decide +kernel
theorem d_X_character_27 : decode b_X_character 27 = .ok (.new 102, 3) := by decide +kernel
theorem d_X_character_30 : decode b_X_character 30 = .ok (.dup, 1) := by decide +kernel
theorem d_X_character_31 : decode b_X_character 31 = .ok (.ldc 114, 2) := by decide +kernel
theorem d_X_character_33 : decode b_X_character 33 = .ok (.invokespecial 106, 3) := by decide +kernel
theorem d_X_character_36 : decode b_X_character 36 = .ok (.athrow, 1) := by decide +kernel
theorem d_X_character_37 : decode b_X_character 37 = .ok (.aload_n 0, 1) := by decide +kernel
theorem d_X_character_38 : decode b_X_character 38 = .ok (.getfield 43, 3) := by decide +kernel
theorem d_X_character_41 : decode b_X_character 41 = .ok (.getfield 116, 3) := by decide +kernel
theorem d_X_character_44 : decode b_X_character 44 = .ok (.aload_n 0, 1) := by decide +kernel
theorem d_X_character_45 : decode b_X_character 45 = .ok (.getfield 43, 3) := by decide +kernel
theorem d_X_character_48 : decode b_X_character 48 = .ok (.getfield 119, 3) := by decide +kernel
theorem d_X_character_51 : decode b_X_character 51 = .ok (.iload_n 1, 1) := by decide +kernel
theorem d_X_character_52 : decode b_X_character 52 = .ok (.iaload, 1) := by decide +kernel
theorem d_X_character_53 : decode b_X_character 53 = .ok (.iload_n 2, 1) := by decide +kernel
theorem d_X_character_54 : decode b_X_character 54 = .ok (.iadd, 1) := by decide +kernel
theorem d_X_character_55 : decode b_X_character 55 = .ok (.iaload, 1) := by decide +kernel
theorem d_X_character_56 : decode b_X_character 56 = .ok (.ireturn, 1) := by decide +kernel
theorem d_X_first_0 : decode b_X_first 0 = .ok (.aload_n 0, 1) := by decide +kernel
theorem d_X_first_1 : decode b_X_first 1 = .ok (.getfield 43, 3) := by decide +kernel
theorem d_X_first_4 : decode b_X_first 4 = .ok (.iload_n 1, 1) := by decide +kernel
theorem d_X_first_5 : decode b_X_first 5 = .ok (.invokevirtual 98, 3) := by decide +kernel
theorem d_X_first_8 : decode b_X_first 8 = .ok (.ifCond .ne 13, 3) := by decide +kernel
theorem d_X_first_11 : decode b_X_first 11 = .ok (.new 102, 3) := by decide +kernel
theorem d_X_first_14 : decode b_X_first 14 = .ok (.dup, 1) := by decide +kernel
theorem d_X_first_15 : decode b_X_first 15 = .ok (.ldc 104, 2) := by decide +kernel
theorem d_X_first_17 : decode b_X_first 17 = .ok (.invokespecial 106, 3) := by decide +kernel
theorem d_X_first_20 : decode b_X_first 20 = .ok (.athrow, 1) := by decide +kernel
theorem d_X_first_21 : decode b_X_first 21 = .ok (.aload_n 0, 1) := by decide +kernel
theorem d_X_first_22 : decode b_X_first 22 = .ok (.getfield 43, 3) := by decide +kernel
theorem d_X_first_25 : decode b_X_first 25 = .ok (.iload_n 1, 1) := by decide +kernel
theorem d_X_first_26 : decode b_X_first 26 = .ok (.invokevirtual 122, 3) := by decide +kernel
theorem d_X_first_29 : decode b_X_first 29 = .ok (.ireturn, 1) := by decide +kernel
theorem d_To_firstLike_0 : decode b_To_firstLike 0 = .ok (.iconst 0, 1) := by decide +kernel
theorem d_To_firstLike_1 : decode b_To_firstLike 1 = .ok (.istore_n 2, 1) := by decide +kernel
theorem d_To_firstLike_2 : decode b_To_firstLike 2 = .ok (.iload_n 2, 1) := by decide +kernel
theorem d_To_firstLike_3 : decode b_To_firstLike 3 = .ok (.iload_n 1, 1) := by decide +kernel
theorem d_To_firstLike_4 : decode b_To_firstLike 4 = .ok (.if_icmp .ge 20, 3) := by decide +kernel
theorem d_To_firstLike_7 : decode b_To_firstLike 7 = .ok (.aload_n 0, 1) := by decide +kernel
theorem d_To_firstLike_8 : decode b_To_firstLike 8 = .ok (.iload_n 2, 1) := by decide +kernel
theorem d_To_firstLike_9 : decode b_To_firstLike 9 = .ok (.iload_n 1, 1) := by decide +kernel
theorem d_To_firstLike_10 : decode b_To_firstLike 10 = .ok (.invokevirtual 35, 3) := by decide +kernel
theorem d_To_firstLike_13 : decode b_To_firstLike 13 = .ok (.ifCond .eq 5, 3) := by decide +kernel
theorem d_To_firstLike_16 : decode b_To_firstLike 16 = .ok (.iload_n 2, 1) := by decide +kernel
theorem d_To_firstLike_17 : decode b_To_firstLike 17 = .ok (.ireturn, 1) := by decide +kernel
theorem d_To_firstLike_18 : decode b_To_firstLike 18 = .ok (.iinc 2 1, 3) := by decide +kernel
theorem d_To_firstLike_21 : decode b_To_firstLike 21 = .ok (.goto (-19), 3) := by decide +kernel
theorem d_To_firstLike_24 : decode b_To_firstLike 24 = .ok (.iload_n 1, 1) := by decide +kernel
theorem d_To_firstLike_25 : decode b_To_firstLike 25 = .ok (.ireturn, 1) := by decide +kernel
theorem d_To_areAlike_0 : decode b_To_areAlike 0 = .ok (.aload_n 0, 1) := by decide +kernel
theorem d_To_areAlike_1 : decode b_To_areAlike 1 = .ok (.iload_n 1, 1) := by decide +kernel
theorem d_To_areAlike_2 : decode b_To_areAlike 2 = .ok (.invokevirtual 39, 3) := by decide +kernel
theorem d_To_areAlike_5 : decode b_To_areAlike 5 = .ok (.istore_n 3, 1) := by decide +kernel
theorem d_To_areAlike_6 : decode b_To_areAlike 6 = .ok (.iload_n 3, 1) := by decide +kernel
theorem d_To_areAlike_7 : decode b_To_areAlike 7 = .ok (.aload_n 0, 1) := by decide +kernel
theorem d_To_areAlike_8 : decode b_To_areAlike 8 = .ok (.iload_n 2, 1) := by decide +kernel
theorem d_To_areAlike_9 : decode b_To_areAlike 9 = .ok (.invokevirtual 39, 3) := by decide +kernel
theorem d_To_areAlike_12 : decode b_To_areAlike 12 = .ok (.if_icmp .eq 5, 3) := by decide +kernel
theorem d_To_areAlike_15 : decode b_To_areAlike 15 = .ok (.iconst 0, 1) := by decide +kernel
theorem d_To_areAlike_16 : decode b_To_areAlike 16 = .ok (.ireturn, 1) := by decide +kernel
theorem d_To_areAlike_17 : decode b_To_areAlike 17 = .ok (.iconst 0, 1) := by decide +kernel
theorem d_To_areAlike_18 : decode b_To_areAlike 18 = .ok (.istore 4, 2) := by decide +kernel
theorem d_To_areAlike_20 : decode b_To_areAlike 20 = .ok (.iload 4, 2) := by decide +kernel
theorem d_To_areAlike_22 : decode b_To_areAlike 22 = .ok (.iload_n 3, 1) := by decide +kernel
theorem d_To_areAlike_23 : decode b_To_areAlike 23 = .ok (.if_icmp .ge 42, 3) := by decide +kernel
theorem d_To_areAlike_26 : decode b_To_areAlike 26 = .ok (.aload_n 0, 1) := by decide +kernel
theorem d_To_areAlike_27 : decode b_To_areAlike 27 = .ok (.getfield 13, 3) := by decide +kernel
theorem d_To_areAlike_30 : decode b_To_areAlike 30 = .ok (.aload_n 0, 1) := by decide +kernel
theorem d_To_areAlike_31 : decode b_To_areAlike 31 = .ok (.getfield 20, 3) := by decide +kernel
theorem d_To_areAlike_34 : decode b_To_areAlike 34 = .ok (.iload_n 1, 1) := by decide +kernel
theorem d_To_areAlike_35 : decode b_To_areAlike 35 = .ok (.iaload, 1) := by decide +kernel
theorem d_To_areAlike_36 : decode b_To_areAlike 36 = .ok (.iload 4, 2) := by decide +kernel
theorem d_To_areAlike_38 : decode b_To_areAlike 38 = .ok (.iadd, 1) := by decide +kernel
theorem d_To_areAlike_39 : decode b_To_areAlike 39 = .ok (.iaload, 1) := by decide +kernel
theorem d_To_areAlike_40 : decode b_To_areAlike 40 = .ok (.aload_n 0, 1) := by decide +kernel
theorem d_To_areAlike_41 : decode b_To_areAlike 41 = .ok (.getfield 13, 3) := by decide +kernel
theorem d_To_areAlike_44 : decode b_To_areAlike 44 = .ok (.aload_n 0, 1) := by decide +kernel
theorem d_To_areAlike_45 : decode b_To_areAlike 45 = .ok (.getfield 20, 3) := by decide +kernel
theorem d_To_areAlike_48 : decode b_To_areAlike 48 = .ok (.iload_n 2, 1) := by decide +kernel
theorem d_To_areAlike_49 : decode b_To_areAlike 49 = .ok (.iaload, 1) := by decide +kernel
theorem d_To_areAlike_50 : decode b_To_areAlike 50 = .ok (.iload 4, 2) := by decide +kernel
theorem d_To_areAlike_52 : decode b_To_areAlike 52 = .ok (.iadd, 1) := by decide +kernel
theorem d_To_areAlike_53 : decode b_To_areAlike 53 = .ok (.iaload, 1) := by decide +kernel
theorem d_To_areAlike_54 : decode b_To_areAlike 54 = .ok (.if_icmp .eq 5, 3) := by decide +kernel
theorem d_To_areAlike_57 : decode b_To_areAlike 57 = .ok (.iconst 0, 1) := by decide +kernel
theorem d_To_areAlike_58 : decode b_To_areAlike 58 = .ok (.ireturn, 1) := by decide +kernel
theorem d_To_areAlike_59 : decode b_To_areAlike 59 = .ok (.iinc 4 1, 3) := by decide +kernel
theorem d_To_areAlike_62 : decode b_To_areAlike 62 = .ok (.goto (-42), 3) := by decide +kernel
theorem d_To_areAlike_65 : decode b_To_areAlike 65 = .ok (.iconst 1, 1) := by decide +kernel
theorem d_To_areAlike_66 : decode b_To_areAlike 66 = .ok (.ireturn, 1) := by decide +kernel
theorem d_X_sort_0 : decode b_X_sort 0 = .ok (.iload_n 1, 1) := by decide +kernel
theorem d_X_sort_1 : decode b_X_sort 1 = .ok (.ifCond .lt 9, 3) := by decide +kernel
theorem d_X_sort_4 : decode b_X_sort 4 = .ok (.iload_n 1, 1) := by decide +kernel
theorem d_X_sort_5 : decode b_X_sort 5 = .ok (.ldc 125, 2) := by decide +kernel
theorem d_X_sort_7 : decode b_X_sort 7 = .ok (.if_icmp .le 13, 3) := by decide +kernel
theorem d_X_sort_10 : decode b_X_sort 10 = .ok (.new 60, 3) := by decide +kernel
theorem d_X_sort_13 : decode b_X_sort 13 = .ok (.dup, 1) := by decide +kernel
theorem d_X_sort_14 : decode b_X_sort 14 = .ok (.ldc 126, 2) := by decide +kernel
theorem d_X_sort_16 : decode b_X_sort 16 = .ok (.invokespecial 64, 3) := by decide +kernel
theorem d_X_sort_19 : decode b_X_sort 19 = .ok (.athrow, 1) := by decide +kernel
theorem d_X_sort_20 : decode b_X_sort 20 = .ok (.iload_n 1, 1) := by decide +kernel
theorem d_X_sort_21 : decode b_X_sort 21 = .ok (.invokestatic 128, 3) := by decide +kernel
theorem d_X_sort_24 : decode b_X_sort 24 = .ok (.ireturn, 1) := by decide +kernel
theorem d_M_init_0 : decode b_M_init 0 = .ok (.aload_n 0, 1) := by decide +kernel
theorem d_M_init_1 : decode b_M_init 1 = .ok (.invokespecial 1, 3) := by decide +kernel
theorem d_M_init_4 : decode b_M_init 4 = .ok (.aload_n 0, 1) := by decide +kernel
theorem d_M_init_5 : decode b_M_init 5 = .ok (.bipush 33, 2) := by decide +kernel
theorem d_M_init_7 : decode b_M_init 7 = .ok (.anewarray 7, 3) := by decide +kernel
theorem d_M_init_10 : decode b_M_init 10 = .ok (.dup, 1) := by decide +kernel
theorem d_M_init_11 : decode b_M_init 11 = .ok (.iconst 0, 1) := by decide +kernel
theorem d_M_init_12 : decode b_M_init 12 = .ok (.ldc 9, 2) := by decide +kernel
theorem d_M_init_14 : decode b_M_init 14 = .ok (.aastore, 1) := by decide +kernel
theorem d_M_init_15 : decode b_M_init 15 = .ok (.dup, 1) := by decide +kernel
theorem d_M_init_16 : decode b_M_init 16 = .ok (.iconst 1, 1) := by decide +kernel
theorem d_M_init_17 : decode b_M_init 17 = .ok (.ldc 11, 2) := by decide +kernel
theorem d_M_init_19 : decode b_M_init 19 = .ok (.aastore, 1) := by decide +kernel
theorem d_M_init_20 : decode b_M_init 20 = .ok (.dup, 1) := by decide +kernel
theorem d_M_init_21 : decode b_M_init 21 = .ok (.iconst 2, 1) := by decide +kernel
theorem d_M_init_22 : decode b_M_init 22 = .ok (.ldc 13, 2) := by decide +kernel
theorem d_M_init_24 : decode b_M_init 24 = .ok (.aastore, 1) := by decide +kernel
theorem d_M_init_25 : decode b_M_init 25 = .ok (.dup, 1) := by decide +kernel
theorem d_M_init_26 : decode b_M_init 26 = .ok (.iconst 3, 1) := by decide +kernel
theorem d_M_init_27 : decode b_M_init 27 = .ok (.ldc 15, 2) := by decide +kernel
theorem d_M_init_29 : decode b_M_init 29 = .ok (.aastore, 1) := by decide +kernel
theorem d_M_init_30 : decode b_M_init 30 = .ok (.dup, 1) := by decide +kernel
theorem d_M_init_31 : decode b_M_init 31 = .ok (.iconst 4, 1) := by decide +kernel
theorem d_M_init_32 : decode b_M_init 32 = .ok (.ldc 17, 2) := by decide +kernel
theorem d_M_init_34 : decode b_M_init 34 = .ok (.aastore, 1) := by decide +kernel
theorem d_M_init_35 : decode b_M_init 35 = .ok (.dup, 1) := by decide +kernel
theorem d_M_init_36 : decode b_M_init 36 = .ok (.iconst 5, 1) := by decide +kernel
theorem d_M_init_37 : decode b_M_init 37 = .ok (.ldc 19, 2) := by decide +kernel
theorem d_M_init_39 : decode b_M_init 39 = .ok (.aastore, 1) := by decide +kernel
theorem d_M_init_40 : decode b_M_init 40 = .ok (.dup, 1) := by decide +kernel
theorem d_M_init_41 : decode b_M_init 41 = .ok (.bipush 6, 2) := by decide +kernel
theorem d_M_init_43 : decode b_M_init 43 = .ok (.ldc 21, 2) := by decide +kernel
theorem d_M_init_45 : decode b_M_init 45 = .ok (.aastore, 1) := by decide +kernel
theorem d_M_init_46 : decode b_M_init 46 = .ok (.dup, 1) := by decide +kernel
theorem d_M_init_47 : decode b_M_init 47 = .ok (.bipush 7, 2) := by decide +kernel
theorem d_M_init_49 : decode b_M_init 49 = .ok (.ldc 23, 2) := by decide +kernel
theorem d_M_init_51 : decode b_M_init 51 = .ok (.aastore, 1) := by decide +kernel
theorem d_M_init_52 : decode b_M_init 52 = .ok (.dup, 1) := by decide +kernel
theorem d_M_init_53 : decode b_M_init 53 = .ok (.bipush 8, 2) := by decide +kernel
theorem d_M_init_55 : decode b_M_init 55 = .ok (.ldc 25, 2) := by decide +kernel
theorem d_M_init_57 : decode b_M_init 57 = .ok (.aastore, 1) := by decide +kernel
theorem d_M_init_58 : decode b_M_init 58 = .ok (.dup, 1) := by decide +kernel
theorem d_M_init_59 : decode b_M_init 59 = .ok (.bipush 9, 2) := by decide +kernel
theorem d_M_init_61 : decode b_M_init 61 = .ok (.ldc 27, 2) := by decide +kernel
theorem d_M_init_63 : decode b_M_init 63 = .ok (.aastore, 1) := by decide +kernel
theorem d_M_init_64 : decode b_M_init 64 = .ok (.dup, 1) := by decide +kernel
theorem d_M_init_65 : decode b_M_init 65 = .ok (.bipush 10, 2) := by decide +kernel
theorem d_M_init_67 : decode b_M_init 67 = .ok (.ldc 29, 2) := by decide +kernel
theorem d_M_init_69 : decode b_M_init 69 = .ok (.aastore, 1) := by decide +kernel
theorem d_M_init_70 : decode b_M_init 70 = .ok (.dup, 1) := by decide +kernel
theorem d_M_init_71 : decode b_M_init 71 = .ok (.bipush 11, 2) := by decide +kernel
theorem d_M_init_73 : decode b_M_init 73 = .ok (.ldc 31, 2) := by decide +kernel
theorem d_M_init_75 : decode b_M_init 75 = .ok (.aastore, 1) := by decide +kernel
theorem d_M_init_76 : decode b_M_init 76 = .ok (.dup, 1) := by decide +kernel
theorem d_M_init_77 : decode b_M_init 77 = .ok (.bipush 12, 2) := by decide +kernel
theorem d_M_init_79 : decode b_M_init 79 = .ok (.ldc 33, 2) := by decide +kernel
theorem d_M_init_81 : decode b_M_init 81 = .ok (.aastore, 1) := by decide +kernel
theorem d_M_init_82 : decode b_M_init 82 = .ok (.dup, 1) := by decide +kernel
theorem d_M_init_83 : decode b_M_init 83 = .ok (.bipush 13, 2) := by decide +kernel
theorem d_M_init_85 : decode b_M_init 85 = .ok (.ldc 35, 2) := by decide +kernel
theorem d_M_init_87 : decode b_M_init 87 = .ok (.aastore, 1) := by decide +kernel
theorem d_M_init_88 : decode b_M_init 88 = .ok (.dup, 1) := by decide +kernel
theorem d_M_init_89 : decode b_M_init 89 = .ok (.bipush 14, 2) := by decide +kernel
theorem d_M_init_91 : decode b_M_init 91 = .ok (.ldc 37, 2) := by decide +kernel
theorem d_M_init_93 : decode b_M_init 93 = .ok (.aastore, 1) := by decide +kernel
theorem d_M_init_94 : decode b_M_init 94 = .ok (.dup, 1) := by decide +kernel
theorem d_M_init_95 : decode b_M_init 95 = .ok (.bipush 15, 2) := by decide +kernel
theorem d_M_init_97 : decode b_M_init 97 = .ok (.ldc 39, 2) := by decide +kernel
theorem d_M_init_99 : decode b_M_init 99 = .ok (.aastore, 1) := by decide +kernel
theorem d_M_init_100 : decode b_M_init 100 = .ok (.dup, 1) := by decide +kernel
theorem d_M_init_101 : decode b_M_init 101 = .ok (.bipush 16, 2) := by decide +kernel
theorem d_M_init_103 : decode b_M_init 103 = .ok (.ldc 41, 2) := by decide +kernel
theorem d_M_init_105 : decode b_M_init 105 = .ok (.aastore, 1) := by decide +kernel
theorem d_M_init_106 : decode b_M_init 106 = .ok (.dup, 1) := by decide +kernel
theorem d_M_init_107 : decode b_M_init 107 = .ok (.bipush 17, 2) := by decide +kernel
theorem d_M_init_109 : decode b_M_init 109 = .ok (.ldc 43, 2) := by decide +kernel
theorem d_M_init_111 : decode b_M_init 111 = .ok (.aastore, 1) := by decide +kernel
theorem d_M_init_112 : decode b_M_init 112 = .ok (.dup, 1) := by decide +kernel
theorem d_M_init_113 : decode b_M_init 113 = .ok (.bipush 18, 2) := by decide +kernel
theorem d_M_init_115 : decode b_M_init 115 = .ok (.ldc 45, 2) := by decide +kernel
theorem d_M_init_117 : decode b_M_init 117 = .ok (.aastore, 1) := by decide +kernel
theorem d_M_init_118 : decode b_M_init 118 = .ok (.dup, 1) := by decide +kernel
theorem d_M_init_119 : decode b_M_init 119 = .ok (.bipush 19, 2) := by decide +kernel
theorem d_M_init_121 : decode b_M_init 121 = .ok (.ldc 47, 2) := by decide +kernel
theorem d_M_init_123 : decode b_M_init 123 = .ok (.aastore, 1) := by decide +kernel
theorem d_M_init_124 : decode b_M_init 124 = .ok (.dup, 1) := by decide +kernel
theorem d_M_init_125 : decode b_M_init 125 = .ok (.bipush 20, 2) := by decide +kernel
theorem d_M_init_127 : decode b_M_init 127 = .ok (.ldc 49, 2) := by decide +kernel
theorem d_M_init_129 : decode b_M_init 129 = .ok (.aastore, 1) := by decide +kernel
theorem d_M_init_130 : decode b_M_init 130 = .ok (.dup, 1) := by decide +kernel
theorem d_M_init_131 : decode b_M_init 131 = .ok (.bipush 21, 2) := by decide +kernel
theorem d_M_init_133 : decode b_M_init 133 = .ok (.ldc 51, 2) := by decide +kernel
theorem d_M_init_135 : decode b_M_init 135 = .ok (.aastore, 1) := by decide +kernel
theorem d_M_init_136 : decode b_M_init 136 = .ok (.dup, 1) := by decide +kernel
theorem d_M_init_137 : decode b_M_init 137 = .ok (.bipush 22, 2) := by decide +kernel
theorem d_M_init_139 : decode b_M_init 139 = .ok (.ldc 53, 2) := by decide +kernel
theorem d_M_init_141 : decode b_M_init 141 = .ok (.aastore, 1) := by decide +kernel
theorem d_M_init_142 : decode b_M_init 142 = .ok (.dup, 1) := by decide +kernel
theorem d_M_init_143 : decode b_M_init 143 = .ok (.bipush 23, 2) := by decide +kernel
theorem d_M_init_145 : decode b_M_init 145 = .ok (.ldc 55, 2) := by decide +kernel
theorem d_M_init_147 : decode b_M_init 147 = .ok (.aastore, 1) := by decide +kernel
theorem d_M_init_148 : decode b_M_init 148 = .ok (.dup, 1) := by decide +kernel
theorem d_M_init_149 : decode b_M_init 149 = .ok (.bipush 24, 2) := by decide +kernel
theorem d_M_init_151 : decode b_M_init 151 = .ok (.ldc 57, 2) := by decide +kernel
theorem d_M_init_153 : decode b_M_init 153 = .ok (.aastore, 1) := by decide +kernel
theorem d_M_init_154 : decode b_M_init 154 = .ok (.dup, 1) := by decide +kernel
theorem d_M_init_155 : decode b_M_init 155 = .ok (.bipush 25, 2) := by decide +kernel
theorem d_M_init_157 : decode b_M_init 157 = .ok (.ldc 59, 2) := by decide +kernel
theorem d_M_init_159 : decode b_M_init 159 = .ok (.aastore, 1) := by decide +kernel
theorem d_M_init_160 : decode b_M_init 160 = .ok (.dup, 1) := by decide +kernel
theorem d_M_init_161 : decode b_M_init 161 = .ok (.bipush 26, 2) := by decide +kernel
theorem d_M_init_163 : decode b_M_init 163 = .ok (.ldc 61, 2) := by decide +kernel
theorem d_M_init_165 : decode b_M_init 165 = .ok (.aastore, 1) := by decide +kernel
theorem d_M_init_166 : decode b_M_init 166 = .ok (.dup, 1) := by decide +kernel
theorem d_M_init_167 : decode b_M_init 167 = .ok (.bipush 27, 2) := by decide +kernel
theorem d_M_init_169 : decode b_M_init 169 = .ok (.ldc 63, 2) := by decide +kernel
theorem d_M_init_171 : decode b_M_init 171 = .ok (.aastore, 1) := by decide +kernel
theorem d_M_init_172 : decode b_M_init 172 = .ok (.dup, 1) := by decide +kernel
theorem d_M_init_173 : decode b_M_init 173 = .ok (.bipush 28, 2) := by decide +kernel
theorem d_M_init_175 : decode b_M_init 175 = .ok (.ldc 65, 2) := by decide +kernel
theorem d_M_init_177 : decode b_M_init 177 = .ok (.aastore, 1) := by decide +kernel
theorem d_M_init_178 : decode b_M_init 178 = .ok (.dup, 1) := by decide +kernel
theorem d_M_init_179 : decode b_M_init 179 = .ok (.bipush 29, 2) := by decide +kernel
theorem d_M_init_181 : decode b_M_init 181 = .ok (.ldc 67, 2) := by decide +kernel
theorem d_M_init_183 : decode b_M_init 183 = .ok (.aastore, 1) := by decide +kernel
theorem d_M_init_184 : decode b_M_init 184 = .ok (.dup, 1) := by decide +kernel
theorem d_M_init_185 : decode b_M_init 185 = .ok (.bipush 30, 2) := by decide +kernel
theorem d_M_init_187 : decode b_M_init 187 = .ok (.ldc 69, 2) := by decide +kernel
theorem d_M_init_189 : decode b_M_init 189 = .ok (.aastore, 1) := by decide +kernel
theorem d_M_init_190 : decode b_M_init 190 = .ok (.dup, 1) := by decide +kernel
theorem d_M_init_191 : decode b_M_init 191 = .ok (.bipush 31, 2) := by decide +kernel
theorem d_M_init_193 : decode b_M_init 193 = .ok (.ldc 71, 2) := by decide +kernel
theorem d_M_init_195 : decode b_M_init 195 = .ok (.aastore, 1) := by decide +kernel
theorem d_M_init_196 : decode b_M_init 196 = .ok (.dup, 1) := by decide +kernel
theorem d_M_init_197 : decode b_M_init 197 = .ok (.bipush 32, 2) := by decide +kernel
theorem d_M_init_199 : decode b_M_init 199 = .ok (.ldc 73, 2) := by decide +kernel
theorem d_M_init_201 : decode b_M_init 201 = .ok (.aastore, 1) := by decide +kernel
theorem d_M_init_202 : decode b_M_init 202 = .ok (.putfield 75, 3) := by decide +kernel
theorem d_M_init_205 : decode b_M_init 205 = .ok (.aload_n 0, 1) := by decide +kernel
theorem d_M_init_206 : decode b_M_init 206 = .ok (.bipush 40, 2) := by decide +kernel
theorem d_M_init_208 : decode b_M_init 208 = .ok (.anewarray 7, 3) := by decide +kernel
theorem d_M_init_211 : decode b_M_init 211 = .ok (.dup, 1) := by decide +kernel
theorem d_M_init_212 : decode b_M_init 212 = .ok (.iconst 0, 1) := by decide +kernel
theorem d_M_init_213 : decode b_M_init 213 = .ok (.ldc 81, 2) := by decide +kernel
theorem d_M_init_215 : decode b_M_init 215 = .ok (.aastore, 1) := by decide +kernel
theorem d_M_init_216 : decode b_M_init 216 = .ok (.dup, 1) := by decide +kernel
theorem d_M_init_217 : decode b_M_init 217 = .ok (.iconst 1, 1) := by decide +kernel
theorem d_M_init_218 : decode b_M_init 218 = .ok (.ldc 83, 2) := by decide +kernel
theorem d_M_init_220 : decode b_M_init 220 = .ok (.aastore, 1) := by decide +kernel
theorem d_M_init_221 : decode b_M_init 221 = .ok (.dup, 1) := by decide +kernel
theorem d_M_init_222 : decode b_M_init 222 = .ok (.iconst 2, 1) := by decide +kernel
theorem d_M_init_223 : decode b_M_init 223 = .ok (.ldc 85, 2) := by decide +kernel
theorem d_M_init_225 : decode b_M_init 225 = .ok (.aastore, 1) := by decide +kernel
theorem d_M_init_226 : decode b_M_init 226 = .ok (.dup, 1) := by decide +kernel
theorem d_M_init_227 : decode b_M_init 227 = .ok (.iconst 3, 1) := by decide +kernel
theorem d_M_init_228 : decode b_M_init 228 = .ok (.ldc 87, 2) := by decide +kernel
theorem d_M_init_230 : decode b_M_init 230 = .ok (.aastore, 1) := by decide +kernel
theorem d_M_init_231 : decode b_M_init 231 = .ok (.dup, 1) := by decide +kernel
theorem d_M_init_232 : decode b_M_init 232 = .ok (.iconst 4, 1) := by decide +kernel
theorem d_M_init_233 : decode b_M_init 233 = .ok (.ldc 89, 2) := by decide +kernel
theorem d_M_init_235 : decode b_M_init 235 = .ok (.aastore, 1) := by decide +kernel
theorem d_M_init_236 : decode b_M_init 236 = .ok (.dup, 1) := by decide +kernel
theorem d_M_init_237 : decode b_M_init 237 = .ok (.iconst 5, 1) := by decide +kernel
theorem d_M_init_238 : decode b_M_init 238 = .ok (.ldc 91, 2) := by decide +kernel
theorem d_M_init_240 : decode b_M_init 240 = .ok (.aastore, 1) := by decide +kernel
theorem d_M_init_241 : decode b_M_init 241 = .ok (.dup, 1) := by decide +kernel
theorem d_M_init_242 : decode b_M_init 242 = .ok (.bipush 6, 2) := by decide +kernel
theorem d_M_init_244 : decode b_M_init 244 = .ok (.ldc 93, 2) := by decide +kernel
theorem d_M_init_246 : decode b_M_init 246 = .ok (.aastore, 1) := by decide +kernel
theorem d_M_init_247 : decode b_M_init 247 = .ok (.dup, 1) := by decide +kernel
theorem d_M_init_248 : decode b_M_init 248 = .ok (.bipush 7, 2) := by decide +kernel
theorem d_M_init_250 : decode b_M_init 250 = .ok (.ldc 95, 2) := by decide +kernel
theorem d_M_init_252 : decode b_M_init 252 = .ok (.aastore, 1) := by decide +kernel
theorem d_M_init_253 : decode b_M_init 253 = .ok (.dup, 1) := by decide +kernel
theorem d_M_init_254 : decode b_M_init 254 = .ok (.bipush 8, 2) := by decide +kernel
theorem d_M_init_256 : decode b_M_init 256 = .ok (.ldc 97, 2) := by decide +kernel
theorem d_M_init_258 : decode b_M_init 258 = .ok (.aastore, 1) := by decide +kernel
theorem d_M_init_259 : decode b_M_init 259 = .ok (.dup, 1) := by decide +kernel
theorem d_M_init_260 : decode b_M_init 260 = .ok (.bipush 9, 2) := by decide +kernel
theorem d_M_init_262 : decode b_M_init 262 = .ok (.ldc 99, 2) := by decide +kernel
theorem d_M_init_264 : decode b_M_init 264 = .ok (.aastore, 1) := by decide +kernel
theorem d_M_init_265 : decode b_M_init 265 = .ok (.dup, 1) := by decide +kernel
theorem d_M_init_266 : decode b_M_init 266 = .ok (.bipush 10, 2) := by decide +kernel
theorem d_M_init_268 : decode b_M_init 268 = .ok (.ldc 101, 2) := by decide +kernel
theorem d_M_init_270 : decode b_M_init 270 = .ok (.aastore, 1) := by decide +kernel
theorem d_M_init_271 : decode b_M_init 271 = .ok (.dup, 1) := by decide +kernel
theorem d_M_init_272 : decode b_M_init 272 = .ok (.bipush 11, 2) := by decide +kernel
theorem d_M_init_274 : decode b_M_init 274 = .ok (.ldc 103, 2) := by decide +kernel
theorem d_M_init_276 : decode b_M_init 276 = .ok (.aastore, 1) := by decide +kernel
theorem d_M_init_277 : decode b_M_init 277 = .ok (.dup, 1) := by decide +kernel
theorem d_M_init_278 : decode b_M_init 278 = .ok (.bipush 12, 2) := by decide +kernel
theorem d_M_init_280 : decode b_M_init 280 = .ok (.ldc 105, 2) := by decide +kernel
theorem d_M_init_282 : decode b_M_init 282 = .ok (.aastore, 1) := by decide +kernel
theorem d_M_init_283 : decode b_M_init 283 = .ok (.dup, 1) := by decide +kernel
theorem d_M_init_284 : decode b_M_init 284 = .ok (.bipush 13, 2) := by decide +kernel
theorem d_M_init_286 : decode b_M_init 286 = .ok (.ldc 107, 2) := by decide +kernel
theorem d_M_init_288 : decode b_M_init 288 = .ok (.aastore, 1) := by decide +kernel
theorem d_M_init_289 : decode b_M_init 289 = .ok (.dup, 1) := by decide +kernel
theorem d_M_init_290 : decode b_M_init 290 = .ok (.bipush 14, 2) := by decide +kernel
theorem d_M_init_292 : decode b_M_init 292 = .ok (.ldc 109, 2) := by decide +kernel
theorem d_M_init_294 : decode b_M_init 294 = .ok (.aastore, 1) := by decide +kernel
theorem d_M_init_295 : decode b_M_init 295 = .ok (.dup, 1) := by decide +kernel
theorem d_M_init_296 : decode b_M_init 296 = .ok (.bipush 15, 2) := by decide +kernel
theorem d_M_init_298 : decode b_M_init 298 = .ok (.ldc 111, 2) := by decide +kernel
theorem d_M_init_300 : decode b_M_init 300 = .ok (.aastore, 1) := by decide +kernel
theorem d_M_init_301 : decode b_M_init 301 = .ok (.dup, 1) := by decide +kernel
theorem d_M_init_302 : decode b_M_init 302 = .ok (.bipush 16, 2) := by decide +kernel
theorem d_M_init_304 : decode b_M_init 304 = .ok (.ldc 113, 2) := by decide +kernel
theorem d_M_init_306 : decode b_M_init 306 = .ok (.aastore, 1) := by decide +kernel
theorem d_M_init_307 : decode b_M_init 307 = .ok (.dup, 1) := by decide +kernel
theorem d_M_init_308 : decode b_M_init 308 = .ok (.bipush 17, 2) := by decide +kernel
theorem d_M_init_310 : decode b_M_init 310 = .ok (.ldc 115, 2) := by decide +kernel
theorem d_M_init_312 : decode b_M_init 312 = .ok (.aastore, 1) := by decide +kernel
theorem d_M_init_313 : decode b_M_init 313 = .ok (.dup, 1) := by decide +kernel
theorem d_M_init_314 : decode b_M_init 314 = .ok (.bipush 18, 2) := by decide +kernel
theorem d_M_init_316 : decode b_M_init 316 = .ok (.ldc 117, 2) := by decide +kernel
theorem d_M_init_318 : decode b_M_init 318 = .ok (.aastore, 1) := by decide +kernel
theorem d_M_init_319 : decode b_M_init 319 = .ok (.dup, 1) := by decide +kernel
theorem d_M_init_320 : decode b_M_init 320 = .ok (.bipush 19, 2) := by decide +kernel
theorem d_M_init_322 : decode b_M_init 322 = .ok (.ldc 119, 2) := by decide +kernel
theorem d_M_init_324 : decode b_M_init 324 = .ok (.aastore, 1) := by decide +kernel
theorem d_M_init_325 : decode b_M_init 325 = .ok (.dup, 1) := by decide +kernel
theorem d_M_init_326 : decode b_M_init 326 = .ok (.bipush 20, 2) := by decide +kernel
theorem d_M_init_328 : decode b_M_init 328 = .ok (.ldc 121, 2) := by decide +kernel
theorem d_M_init_330 : decode b_M_init 330 = .ok (.aastore, 1) := by decide +kernel
theorem d_M_init_331 : decode b_M_init 331 = .ok (.dup, 1) := by decide +kernel
theorem d_M_init_332 : decode b_M_init 332 = .ok (.bipush 21, 2) := by decide +kernel
theorem d_M_init_334 : decode b_M_init 334 = .ok (.ldc 99, 2) := by decide +kernel
theorem d_M_init_336 : decode b_M_init 336 = .ok (.aastore, 1) := by decide +kernel
theorem d_M_init_337 : decode b_M_init 337 = .ok (.dup, 1) := by decide +kernel
theorem d_M_init_338 : decode b_M_init 338 = .ok (.bipush 22, 2) := by decide +kernel
theorem d_M_init_340 : decode b_M_init 340 = .ok (.ldc 123, 2) := by decide +kernel
theorem d_M_init_342 : decode b_M_init 342 = .ok (.aastore, 1) := by decide +kernel
theorem d_M_init_343 : decode b_M_init 343 = .ok (.dup, 1) := by decide +kernel
theorem d_M_init_344 : decode b_M_init 344 = .ok (.bipush 23, 2) := by decide +kernel
theorem d_M_init_346 : decode b_M_init 346 = .ok (.ldc 83, 2) := by decide +kernel
theorem d_M_init_348 : decode b_M_init 348 = .ok (.aastore, 1) := by decide +kernel
theorem d_M_init_349 : decode b_M_init 349 = .ok (.dup, 1) := by decide +kernel
theorem d_M_init_350 : decode b_M_init 350 = .ok (.bipush 24, 2) := by decide +kernel
theorem d_M_init_352 : decode b_M_init 352 = .ok (.ldc 125, 2) := by decide +kernel
theorem d_M_init_354 : decode b_M_init 354 = .ok (.aastore, 1) := by decide +kernel
theorem d_M_init_355 : decode b_M_init 355 = .ok (.dup, 1) := by decide +kernel
theorem d_M_init_356 : decode b_M_init 356 = .ok (.bipush 25, 2) := by decide +kernel
theorem d_M_init_358 : decode b_M_init 358 = .ok (.ldc 83, 2) := by decide +kernel
theorem d_M_init_360 : decode b_M_init 360 = .ok (.aastore, 1) := by decide +kernel
theorem d_M_init_361 : decode b_M_init 361 = .ok (.dup, 1) := by decide +kernel
theorem d_M_init_362 : decode b_M_init 362 = .ok (.bipush 26, 2) := by decide +kernel
theorem d_M_init_364 : decode b_M_init 364 = .ok (.ldc 127, 2) := by decide +kernel
theorem d_M_init_366 : decode b_M_init 366 = .ok (.aastore, 1) := by decide +kernel
theorem d_M_init_367 : decode b_M_init 367 = .ok (.dup, 1) := by decide +kernel
theorem d_M_init_368 : decode b_M_init 368 = .ok (.bipush 27, 2) := by decide +kernel
theorem d_M_init_370 : decode b_M_init 370 = .ok (.ldc 107, 2) := by decide +kernel
theorem d_M_init_372 : decode b_M_init 372 = .ok (.aastore, 1) := by decide +kernel
theorem d_M_init_373 : decode b_M_init 373 = .ok (.dup, 1) := by decide +kernel
theorem d_M_init_374 : decode b_M_init 374 = .ok (.bipush 28, 2) := by decide +kernel
theorem d_M_init_376 : decode b_M_init 376 = .ok (.ldc 129, 2) := by decide +kernel
theorem d_M_init_378 : decode b_M_init 378 = .ok (.aastore, 1) := by decide +kernel
theorem d_M_init_379 : decode b_M_init 379 = .ok (.dup, 1) := by decide +kernel
theorem d_M_init_380 : decode b_M_init 380 = .ok (.bipush 29, 2) := by decide +kernel
theorem d_M_init_382 : decode b_M_init 382 = .ok (.ldc 131, 2) := by decide +kernel
theorem d_M_init_384 : decode b_M_init 384 = .ok (.aastore, 1) := by decide +kernel
theorem d_M_init_385 : decode b_M_init 385 = .ok (.dup, 1) := by decide +kernel
theorem d_M_init_386 : decode b_M_init 386 = .ok (.bipush 30, 2) := by decide +kernel
theorem d_M_init_388 : decode b_M_init 388 = .ok (.ldc 133, 2) := by decide +kernel
theorem d_M_init_390 : decode b_M_init 390 = .ok (.aastore, 1) := by decide +kernel
theorem d_M_init_391 : decode b_M_init 391 = .ok (.dup, 1) := by decide +kernel
theorem d_M_init_392 : decode b_M_init 392 = .ok (.bipush 31, 2) := by decide +kernel
theorem d_M_init_394 : decode b_M_init 394 = .ok (.ldc 135, 2) := by decide +kernel
theorem d_M_init_396 : decode b_M_init 396 = .ok (.aastore, 1) := by decide +kernel
theorem d_M_init_397 : decode b_M_init 397 = .ok (.dup, 1) := by decide +kernel
theorem d_M_init_398 : decode b_M_init 398 = .ok (.bipush 32, 2) := by decide +kernel
theorem d_M_init_400 : decode b_M_init 400 = .ok (.ldc 137, 2) := by decide +kernel
theorem d_M_init_402 : decode b_M_init 402 = .ok (.aastore, 1) := by decide +kernel
theorem d_M_init_403 : decode b_M_init 403 = .ok (.dup, 1) := by decide +kernel
theorem d_M_init_404 : decode b_M_init 404 = .ok (.bipush 33, 2) := by decide +kernel
theorem d_M_init_406 : decode b_M_init 406 = .ok (.ldc 119, 2) := by decide +kernel
theorem d_M_init_408 : decode b_M_init 408 = .ok (.aastore, 1) := by decide +kernel
theorem d_M_init_409 : decode b_M_init 409 = .ok (.dup, 1) := by decide +kernel
theorem d_M_init_410 : decode b_M_init 410 = .ok (.bipush 34, 2) := by decide +kernel
theorem d_M_init_412 : decode b_M_init 412 = .ok (.ldc 139, 2) := by decide +kernel
theorem d_M_init_414 : decode b_M_init 414 = .ok (.aastore, 1) := by decide +kernel
theorem d_M_init_415 : decode b_M_init 415 = .ok (.dup, 1) := by decide +kernel
theorem d_M_init_416 : decode b_M_init 416 = .ok (.bipush 35, 2) := by decide +kernel
theorem d_M_init_418 : decode b_M_init 418 = .ok (.ldc 107, 2) := by decide +kernel
theorem d_M_init_420 : decode b_M_init 420 = .ok (.aastore, 1) := by decide +kernel
theorem d_M_init_421 : decode b_M_init 421 = .ok (.dup, 1) := by decide +kernel
theorem d_M_init_422 : decode b_M_init 422 = .ok (.bipush 36, 2) := by decide +kernel
theorem d_M_init_424 : decode b_M_init 424 = .ok (.ldc 141, 2) := by decide +kernel
theorem d_M_init_426 : decode b_M_init 426 = .ok (.aastore, 1) := by decide +kernel
theorem d_M_init_427 : decode b_M_init 427 = .ok (.dup, 1) := by decide +kernel
theorem d_M_init_428 : decode b_M_init 428 = .ok (.bipush 37, 2) := by decide +kernel
theorem d_M_init_430 : decode b_M_init 430 = .ok (.ldc 131, 2) := by decide +kernel
theorem d_M_init_432 : decode b_M_init 432 = .ok (.aastore, 1) := by decide +kernel
theorem d_M_init_433 : decode b_M_init 433 = .ok (.dup, 1) := by decide +kernel
theorem d_M_init_434 : decode b_M_init 434 = .ok (.bipush 38, 2) := by decide +kernel
theorem d_M_init_436 : decode b_M_init 436 = .ok (.ldc 143, 2) := by decide +kernel
theorem d_M_init_438 : decode b_M_init 438 = .ok (.aastore, 1) := by decide +kernel
theorem d_M_init_439 : decode b_M_init 439 = .ok (.dup, 1) := by decide +kernel
theorem d_M_init_440 : decode b_M_init 440 = .ok (.bipush 39, 2) := by decide +kernel
theorem d_M_init_442 : decode b_M_init 442 = .ok (.ldc 145, 2) := by decide +kernel
theorem d_M_init_444 : decode b_M_init 444 = .ok (.aastore, 1) := by decide +kernel
theorem d_M_init_445 : decode b_M_init 445 = .ok (.putfield 147, 3) := by decide +kernel
theorem d_M_init_448 : decode b_M_init 448 = .ok (.aload_n 0, 1) := by decide +kernel
theorem d_M_init_449 : decode b_M_init 449 = .ok (.bipush 14, 2) := by decide +kernel
theorem d_M_init_451 : decode b_M_init 451 = .ok (.anewarray 7, 3) := by decide +kernel
theorem d_M_init_454 : decode b_M_init 454 = .ok (.dup, 1) := by decide +kernel
theorem d_M_init_455 : decode b_M_init 455 = .ok (.iconst 0, 1) := by decide +kernel
theorem d_M_init_456 : decode b_M_init 456 = .ok (.ldc 150, 2) := by decide +kernel
theorem d_M_init_458 : decode b_M_init 458 = .ok (.aastore, 1) := by decide +kernel
theorem d_M_init_459 : decode b_M_init 459 = .ok (.dup, 1) := by decide +kernel
theorem d_M_init_460 : decode b_M_init 460 = .ok (.iconst 1, 1) := by decide +kernel
theorem d_M_init_461 : decode b_M_init 461 = .ok (.ldc 152, 2) := by decide +kernel
theorem d_M_init_463 : decode b_M_init 463 = .ok (.aastore, 1) := by decide +kernel
theorem d_M_init_464 : decode b_M_init 464 = .ok (.dup, 1) := by decide +kernel
theorem d_M_init_465 : decode b_M_init 465 = .ok (.iconst 2, 1) := by decide +kernel
theorem d_M_init_466 : decode b_M_init 466 = .ok (.ldc 154, 2) := by decide +kernel
theorem d_M_init_468 : decode b_M_init 468 = .ok (.aastore, 1) := by decide +kernel
theorem d_M_init_469 : decode b_M_init 469 = .ok (.dup, 1) := by decide +kernel
theorem d_M_init_470 : decode b_M_init 470 = .ok (.iconst 3, 1) := by decide +kernel
theorem d_M_init_471 : decode b_M_init 471 = .ok (.ldc 156, 2) := by decide +kernel
theorem d_M_init_473 : decode b_M_init 473 = .ok (.aastore, 1) := by decide +kernel
theorem d_M_init_474 : decode b_M_init 474 = .ok (.dup, 1) := by decide +kernel
theorem d_M_init_475 : decode b_M_init 475 = .ok (.iconst 4, 1) := by decide +kernel
theorem d_M_init_476 : decode b_M_init 476 = .ok (.ldc 158, 2) := by decide +kernel
theorem d_M_init_478 : decode b_M_init 478 = .ok (.aastore, 1) := by decide +kernel
theorem d_M_init_479 : decode b_M_init 479 = .ok (.dup, 1) := by decide +kernel
theorem d_M_init_480 : decode b_M_init 480 = .ok (.iconst 5, 1) := by decide +kernel
theorem d_M_init_481 : decode b_M_init 481 = .ok (.ldc 107, 2) := by decide +kernel
theorem d_M_init_483 : decode b_M_init 483 = .ok (.aastore, 1) := by decide +kernel
theorem d_M_init_484 : decode b_M_init 484 = .ok (.dup, 1) := by decide +kernel
theorem d_M_init_485 : decode b_M_init 485 = .ok (.bipush 6, 2) := by decide +kernel
theorem d_M_init_487 : decode b_M_init 487 = .ok (.ldc 160, 2) := by decide +kernel
theorem d_M_init_489 : decode b_M_init 489 = .ok (.aastore, 1) := by decide +kernel
theorem d_M_init_490 : decode b_M_init 490 = .ok (.dup, 1) := by decide +kernel
theorem d_M_init_491 : decode b_M_init 491 = .ok (.bipush 7, 2) := by decide +kernel
theorem d_M_init_493 : decode b_M_init 493 = .ok (.ldc 152, 2) := by decide +kernel
theorem d_M_init_495 : decode b_M_init 495 = .ok (.aastore, 1) := by decide +kernel
theorem d_M_init_496 : decode b_M_init 496 = .ok (.dup, 1) := by decide +kernel
theorem d_M_init_497 : decode b_M_init 497 = .ok (.bipush 8, 2) := by decide +kernel
theorem d_M_init_499 : decode b_M_init 499 = .ok (.ldc 162, 2) := by decide +kernel
theorem d_M_init_501 : decode b_M_init 501 = .ok (.aastore, 1) := by decide +kernel
theorem d_M_init_502 : decode b_M_init 502 = .ok (.dup, 1) := by decide +kernel
theorem d_M_init_503 : decode b_M_init 503 = .ok (.bipush 9, 2) := by decide +kernel
theorem d_M_init_505 : decode b_M_init 505 = .ok (.ldc 152, 2) := by decide +kernel
theorem d_M_init_507 : decode b_M_init 507 = .ok (.aastore, 1) := by decide +kernel
theorem d_M_init_508 : decode b_M_init 508 = .ok (.dup, 1) := by decide +kernel
theorem d_M_init_509 : decode b_M_init 509 = .ok (.bipush 10, 2) := by decide +kernel
theorem d_M_init_511 : decode b_M_init 511 = .ok (.ldc 135, 2) := by decide +kernel
theorem d_M_init_513 : decode b_M_init 513 = .ok (.aastore, 1) := by decide +kernel
theorem d_M_init_514 : decode b_M_init 514 = .ok (.dup, 1) := by decide +kernel
theorem d_M_init_515 : decode b_M_init 515 = .ok (.bipush 11, 2) := by decide +kernel
theorem d_M_init_517 : decode b_M_init 517 = .ok (.ldc 156, 2) := by decide +kernel
theorem d_M_init_519 : decode b_M_init 519 = .ok (.aastore, 1) := by decide +kernel
theorem d_M_init_520 : decode b_M_init 520 = .ok (.dup, 1) := by decide +kernel
theorem d_M_init_521 : decode b_M_init 521 = .ok (.bipush 12, 2) := by decide +kernel
theorem d_M_init_523 : decode b_M_init 523 = .ok (.ldc 164, 2) := by decide +kernel
theorem d_M_init_525 : decode b_M_init 525 = .ok (.aastore, 1) := by decide +kernel
theorem d_M_init_526 : decode b_M_init 526 = .ok (.dup, 1) := by decide +kernel
theorem d_M_init_527 : decode b_M_init 527 = .ok (.bipush 13, 2) := by decide +kernel
theorem d_M_init_529 : decode b_M_init 529 = .ok (.ldc 156, 2) := by decide +kernel
theorem d_M_init_531 : decode b_M_init 531 = .ok (.aastore, 1) := by decide +kernel
theorem d_M_init_532 : decode b_M_init 532 = .ok (.putfield 166, 3) := by decide +kernel
theorem d_M_init_535 : decode b_M_init 535 = .ok (.aload_n 0, 1) := by decide +kernel
theorem d_M_init_536 : decode b_M_init 536 = .ok (.bipush 38, 2) := by decide +kernel
theorem d_M_init_538 : decode b_M_init 538 = .ok (.anewarray 7, 3) := by decide +kernel
theorem d_M_init_541 : decode b_M_init 541 = .ok (.dup, 1) := by decide +kernel
theorem d_M_init_542 : decode b_M_init 542 = .ok (.iconst 0, 1) := by decide +kernel
theorem d_M_init_543 : decode b_M_init 543 = .ok (.ldc 107, 2) := by decide +kernel
theorem d_M_init_545 : decode b_M_init 545 = .ok (.aastore, 1) := by decide +kernel
theorem d_M_init_546 : decode b_M_init 546 = .ok (.dup, 1) := by decide +kernel
theorem d_M_init_547 : decode b_M_init 547 = .ok (.iconst 1, 1) := by decide +kernel
theorem d_M_init_548 : decode b_M_init 548 = .ok (.ldc 156, 2) := by decide +kernel
theorem d_M_init_550 : decode b_M_init 550 = .ok (.aastore, 1) := by decide +kernel
theorem d_M_init_551 : decode b_M_init 551 = .ok (.dup, 1) := by decide +kernel
theorem d_M_init_552 : decode b_M_init 552 = .ok (.iconst 2, 1) := by decide +kernel
theorem d_M_init_553 : decode b_M_init 553 = .ok (.ldc 95, 2) := by decide +kernel
theorem d_M_init_555 : decode b_M_init 555 = .ok (.aastore, 1) := by decide +kernel
theorem d_M_init_556 : decode b_M_init 556 = .ok (.dup, 1) := by decide +kernel
theorem d_M_init_557 : decode b_M_init 557 = .ok (.iconst 3, 1) := by decide +kernel
theorem d_M_init_558 : decode b_M_init 558 = .ok (.ldc 156, 2) := by decide +kernel
theorem d_M_init_560 : decode b_M_init 560 = .ok (.aastore, 1) := by decide +kernel
theorem d_M_init_561 : decode b_M_init 561 = .ok (.dup, 1) := by decide +kernel
theorem d_M_init_562 : decode b_M_init 562 = .ok (.iconst 4, 1) := by decide +kernel
theorem d_M_init_563 : decode b_M_init 563 = .ok (.ldc 91, 2) := by decide +kernel
theorem d_M_init_565 : decode b_M_init 565 = .ok (.aastore, 1) := by decide +kernel
theorem d_M_init_566 : decode b_M_init 566 = .ok (.dup, 1) := by decide +kernel
theorem d_M_init_567 : decode b_M_init 567 = .ok (.iconst 5, 1) := by decide +kernel
theorem d_M_init_568 : decode b_M_init 568 = .ok (.ldc 156, 2) := by decide +kernel
theorem d_M_init_570 : decode b_M_init 570 = .ok (.aastore, 1) := by decide +kernel
theorem d_M_init_571 : decode b_M_init 571 = .ok (.dup, 1) := by decide +kernel
theorem d_M_init_572 : decode b_M_init 572 = .ok (.bipush 6, 2) := by decide +kernel
theorem d_M_init_574 : decode b_M_init 574 = .ok (.ldc 169, 2) := by decide +kernel
theorem d_M_init_576 : decode b_M_init 576 = .ok (.aastore, 1) := by decide +kernel
theorem d_M_init_577 : decode b_M_init 577 = .ok (.dup, 1) := by decide +kernel
theorem d_M_init_578 : decode b_M_init 578 = .ok (.bipush 7, 2) := by decide +kernel
theorem d_M_init_580 : decode b_M_init 580 = .ok (.ldc 156, 2) := by decide +kernel
theorem d_M_init_582 : decode b_M_init 582 = .ok (.aastore, 1) := by decide +kernel
theorem d_M_init_583 : decode b_M_init 583 = .ok (.dup, 1) := by decide +kernel
theorem d_M_init_584 : decode b_M_init 584 = .ok (.bipush 8, 2) := by decide +kernel
theorem d_M_init_586 : decode b_M_init 586 = .ok (.ldc 152, 2) := by decide +kernel
theorem d_M_init_588 : decode b_M_init 588 = .ok (.aastore, 1) := by decide +kernel
theorem d_M_init_589 : decode b_M_init 589 = .ok (.dup, 1) := by decide +kernel
theorem d_M_init_590 : decode b_M_init 590 = .ok (.bipush 9, 2) := by decide +kernel
theorem d_M_init_592 : decode b_M_init 592 = .ok (.ldc 156, 2) := by decide +kernel
theorem d_M_init_594 : decode b_M_init 594 = .ok (.aastore, 1) := by decide +kernel
theorem d_M_init_595 : decode b_M_init 595 = .ok (.dup, 1) := by decide +kernel
theorem d_M_init_596 : decode b_M_init 596 = .ok (.bipush 10, 2) := by decide +kernel
theorem d_M_init_598 : decode b_M_init 598 = .ok (.ldc 103, 2) := by decide +kernel
theorem d_M_init_600 : decode b_M_init 600 = .ok (.aastore, 1) := by decide +kernel
theorem d_M_init_601 : decode b_M_init 601 = .ok (.dup, 1) := by decide +kernel
theorem d_M_init_602 : decode b_M_init 602 = .ok (.bipush 11, 2) := by decide +kernel
theorem d_M_init_604 : decode b_M_init 604 = .ok (.ldc 156, 2) := by decide +kernel
theorem d_M_init_606 : decode b_M_init 606 = .ok (.aastore, 1) := by decide +kernel
theorem d_M_init_607 : decode b_M_init 607 = .ok (.dup, 1) := by decide +kernel
theorem d_M_init_608 : decode b_M_init 608 = .ok (.bipush 12, 2) := by decide +kernel
theorem d_M_init_610 : decode b_M_init 610 = .ok (.ldc 171, 2) := by decide +kernel
theorem d_M_init_612 : decode b_M_init 612 = .ok (.aastore, 1) := by decide +kernel
theorem d_M_init_613 : decode b_M_init 613 = .ok (.dup, 1) := by decide +kernel
theorem d_M_init_614 : decode b_M_init 614 = .ok (.bipush 13, 2) := by decide +kernel
theorem d_M_init_616 : decode b_M_init 616 = .ok (.ldc 156, 2) := by decide +kernel
theorem d_M_init_618 : decode b_M_init 618 = .ok (.aastore, 1) := by decide +kernel
theorem d_M_init_619 : decode b_M_init 619 = .ok (.dup, 1) := by decide +kernel
theorem d_M_init_620 : decode b_M_init 620 = .ok (.bipush 14, 2) := by decide +kernel
theorem d_M_init_622 : decode b_M_init 622 = .ok (.ldc 173, 2) := by decide +kernel
theorem d_M_init_624 : decode b_M_init 624 = .ok (.aastore, 1) := by decide +kernel
theorem d_M_init_625 : decode b_M_init 625 = .ok (.dup, 1) := by decide +kernel
theorem d_M_init_626 : decode b_M_init 626 = .ok (.bipush 15, 2) := by decide +kernel
theorem d_M_init_628 : decode b_M_init 628 = .ok (.ldc 156, 2) := by decide +kernel
theorem d_M_init_630 : decode b_M_init 630 = .ok (.aastore, 1) := by decide +kernel
theorem d_M_init_631 : decode b_M_init 631 = .ok (.dup, 1) := by decide +kernel
theorem d_M_init_632 : decode b_M_init 632 = .ok (.bipush 16, 2) := by decide +kernel
theorem d_M_init_634 : decode b_M_init 634 = .ok (.ldc 175, 2) := by decide +kernel
theorem d_M_init_636 : decode b_M_init 636 = .ok (.aastore, 1) := by decide +kernel
theorem d_M_init_637 : decode b_M_init 637 = .ok (.dup, 1) := by decide +kernel
theorem d_M_init_638 : decode b_M_init 638 = .ok (.bipush 17, 2) := by decide +kernel
theorem d_M_init_640 : decode b_M_init 640 = .ok (.ldc 156, 2) := by decide +kernel
theorem d_M_init_642 : decode b_M_init 642 = .ok (.aastore, 1) := by decide +kernel
theorem d_M_init_643 : decode b_M_init 643 = .ok (.dup, 1) := by decide +kernel
theorem d_M_init_644 : decode b_M_init 644 = .ok (.bipush 18, 2) := by decide +kernel
theorem d_M_init_646 : decode b_M_init 646 = .ok (.ldc 177, 2) := by decide +kernel
theorem d_M_init_648 : decode b_M_init 648 = .ok (.aastore, 1) := by decide +kernel
theorem d_M_init_649 : decode b_M_init 649 = .ok (.dup, 1) := by decide +kernel
theorem d_M_init_650 : decode b_M_init 650 = .ok (.bipush 19, 2) := by decide +kernel
theorem d_M_init_652 : decode b_M_init 652 = .ok (.ldc 156, 2) := by decide +kernel
theorem d_M_init_654 : decode b_M_init 654 = .ok (.aastore, 1) := by decide +kernel
theorem d_M_init_655 : decode b_M_init 655 = .ok (.dup, 1) := by decide +kernel
theorem d_M_init_656 : decode b_M_init 656 = .ok (.bipush 20, 2) := by decide +kernel
theorem d_M_init_658 : decode b_M_init 658 = .ok (.ldc 111, 2) := by decide +kernel
theorem d_M_init_660 : decode b_M_init 660 = .ok (.aastore, 1) := by decide +kernel
theorem d_M_init_661 : decode b_M_init 661 = .ok (.dup, 1) := by decide +kernel
theorem d_M_init_662 : decode b_M_init 662 = .ok (.bipush 21, 2) := by decide +kernel
theorem d_M_init_664 : decode b_M_init 664 = .ok (.ldc 156, 2) := by decide +kernel
theorem d_M_init_666 : decode b_M_init 666 = .ok (.aastore, 1) := by decide +kernel
theorem d_M_init_667 : decode b_M_init 667 = .ok (.dup, 1) := by decide +kernel
theorem d_M_init_668 : decode b_M_init 668 = .ok (.bipush 22, 2) := by decide +kernel
theorem d_M_init_670 : decode b_M_init 670 = .ok (.ldc 179, 2) := by decide +kernel
theorem d_M_init_672 : decode b_M_init 672 = .ok (.aastore, 1) := by decide +kernel
theorem d_M_init_673 : decode b_M_init 673 = .ok (.dup, 1) := by decide +kernel
theorem d_M_init_674 : decode b_M_init 674 = .ok (.bipush 23, 2) := by decide +kernel
theorem d_M_init_676 : decode b_M_init 676 = .ok (.ldc 156, 2) := by decide +kernel
theorem d_M_init_678 : decode b_M_init 678 = .ok (.aastore, 1) := by decide +kernel
theorem d_M_init_679 : decode b_M_init 679 = .ok (.dup, 1) := by decide +kernel
theorem d_M_init_680 : decode b_M_init 680 = .ok (.bipush 24, 2) := by decide +kernel
theorem d_M_init_682 : decode b_M_init 682 = .ok (.ldc 181, 2) := by decide +kernel
theorem d_M_init_684 : decode b_M_init 684 = .ok (.aastore, 1) := by decide +kernel
theorem d_M_init_685 : decode b_M_init 685 = .ok (.dup, 1) := by decide +kernel
theorem d_M_init_686 : decode b_M_init 686 = .ok (.bipush 25, 2) := by decide +kernel
theorem d_M_init_688 : decode b_M_init 688 = .ok (.ldc 156, 2) := by decide +kernel
theorem d_M_init_690 : decode b_M_init 690 = .ok (.aastore, 1) := by decide +kernel
theorem d_M_init_691 : decode b_M_init 691 = .ok (.dup, 1) := by decide +kernel
theorem d_M_init_692 : decode b_M_init 692 = .ok (.bipush 26, 2) := by decide +kernel
theorem d_M_init_694 : decode b_M_init 694 = .ok (.ldc 83, 2) := by decide +kernel
theorem d_M_init_696 : decode b_M_init 696 = .ok (.aastore, 1) := by decide +kernel
theorem d_M_init_697 : decode b_M_init 697 = .ok (.dup, 1) := by decide +kernel
theorem d_M_init_698 : decode b_M_init 698 = .ok (.bipush 27, 2) := by decide +kernel
