theorem d_M_stemOneB_175 : decode b_M_stemOneB 175 = .ok (.aload_n 0, 1) := by decide +kernel
theorem d_M_stemOneB_176 : decode b_M_stemOneB 176 = .ok (.getfield 207, 3) := by decide +kernel
theorem d_M_stemOneB_179 : decode b_M_stemOneB 179 = .ok (.iload_n 1, 1) := by decide +kernel
theorem d_M_stemOneB_180 : decode b_M_stemOneB 180 = .ok (.iconst 1, 1) := by decide +kernel
theorem d_M_stemOneB_181 : decode b_M_stemOneB 181 = .ok (.isub, 1) := by decide +kernel
theorem d_M_stemOneB_182 : decode b_M_stemOneB 182 = .ok (.iaload, 1) := by decide +kernel
theorem d_M_stemOneB_183 : decode b_M_stemOneB 183 = .ok (.bipush 108, 2) := by decide +kernel
theorem d_M_stemOneB_185 : decode b_M_stemOneB 185 = .ok (.if_icmp .eq 42, 3) := by decide +kernel
theorem d_M_stemOneB_188 : decode b_M_stemOneB 188 = .ok (.aload_n 0, 1) := by decide +kernel
theorem d_M_stemOneB_189 : decode b_M_stemOneB 189 = .ok (.getfield 207, 3) := by decide +kernel
theorem d_M_stemOneB_192 : decode b_M_stemOneB 192 = .ok (.iload_n 1, 1) := by decide +kernel
theorem d_M_stemOneB_193 : decode b_M_stemOneB 193 = .ok (.iconst 1, 1) := by decide +kernel
theorem d_M_stemOneB_194 : decode b_M_stemOneB 194 = .ok (.isub, 1) := by decide +kernel
theorem d_M_stemOneB_195 : decode b_M_stemOneB 195 = .ok (.iaload, 1) := by decide +kernel
theorem d_M_stemOneB_196 : decode b_M_stemOneB 196 = .ok (.bipush 115, 2) := by decide +kernel
theorem d_M_stemOneB_198 : decode b_M_stemOneB 198 = .ok (.if_icmp .eq 29, 3) := by decide +kernel
theorem d_M_stemOneB_201 : decode b_M_stemOneB 201 = .ok (.aload_n 0, 1) := by decide +kernel
theorem d_M_stemOneB_202 : decode b_M_stemOneB 202 = .ok (.getfield 207, 3) := by decide +kernel
theorem d_M_stemOneB_205 : decode b_M_stemOneB 205 = .ok (.iload_n 1, 1) := by decide +kernel
theorem d_M_stemOneB_206 : decode b_M_stemOneB 206 = .ok (.iconst 1, 1) := by decide +kernel
theorem d_M_stemOneB_207 : decode b_M_stemOneB 207 = .ok (.isub, 1) := by decide +kernel
theorem d_M_stemOneB_208 : decode b_M_stemOneB 208 = .ok (.iaload, 1) := by decide +kernel
theorem d_M_stemOneB_209 : decode b_M_stemOneB 209 = .ok (.bipush 122, 2) := by decide +kernel
theorem d_M_stemOneB_211 : decode b_M_stemOneB 211 = .ok (.if_icmp .eq 16, 3) := by decide +kernel
theorem d_M_stemOneB_214 : decode b_M_stemOneB 214 = .ok (.aload_n 0, 1) := by decide +kernel
theorem d_M_stemOneB_215 : decode b_M_stemOneB 215 = .ok (.dup, 1) := by decide +kernel
theorem d_M_stemOneB_216 : decode b_M_stemOneB 216 = .ok (.getfield 254, 3) := by decide +kernel
theorem d_M_stemOneB_219 : decode b_M_stemOneB 219 = .ok (.iconst 1, 1) := by decide +kernel
theorem d_M_stemOneB_220 : decode b_M_stemOneB 220 = .ok (.isub, 1) := by decide +kernel
theorem d_M_stemOneB_221 : decode b_M_stemOneB 221 = .ok (.putfield 254, 3) := by decide +kernel
theorem d_M_stemOneB_224 : decode b_M_stemOneB 224 = .ok (.goto 27, 3) := by decide +kernel
theorem d_M_stemOneB_227 : decode b_M_stemOneB 227 = .ok (.aload_n 0, 1) := by decide +kernel
theorem d_M_stemOneB_228 : decode b_M_stemOneB 228 = .ok (.iload_n 1, 1) := by decide +kernel
theorem d_M_stemOneB_229 : decode b_M_stemOneB 229 = .ok (.invokevirtual 300, 3) := by decide +kernel
theorem d_M_stemOneB_232 : decode b_M_stemOneB 232 = .ok (.iconst 1, 1) := by decide +kernel
theorem d_M_stemOneB_233 : decode b_M_stemOneB 233 = .ok (.if_icmp .ne 18, 3) := by decide +kernel
theorem d_M_stemOneB_236 : decode b_M_stemOneB 236 = .ok (.aload_n 0, 1) := by decide +kernel
theorem d_M_stemOneB_237 : decode b_M_stemOneB 237 = .ok (.iload_n 1, 1) := by decide +kernel
theorem d_M_stemOneB_238 : decode b_M_stemOneB 238 = .ok (.invokevirtual 311, 3) := by decide +kernel
theorem d_M_stemOneB_241 : decode b_M_stemOneB 241 = .ok (.ifCond .eq 10, 3) := by decide +kernel
theorem d_M_stemOneB_244 : decode b_M_stemOneB 244 = .ok (.aload_n 0, 1) := by decide +kernel
theorem d_M_stemOneB_245 : decode b_M_stemOneB 245 = .ok (.iload_n 1, 1) := by decide +kernel
theorem d_M_stemOneB_246 : decode b_M_stemOneB 246 = .ok (.ldc 115, 2) := by decide +kernel
theorem d_M_stemOneB_248 : decode b_M_stemOneB 248 = .ok (.invokevirtual 303, 3) := by decide +kernel
theorem d_M_stemOneB_251 : decode b_M_stemOneB 251 = .ok (.return_, 1) := by decide +kernel
theorem d_M_measure_0 : decode b_M_measure 0 = .ok (.iconst 0, 1) := by decide +kernel
theorem d_M_measure_1 : decode b_M_measure 1 = .ok (.istore_n 2, 1) := by decide +kernel
theorem d_M_measure_2 : decode b_M_measure 2 = .ok (.iconst 1, 1) := by decide +kernel
theorem d_M_measure_3 : decode b_M_measure 3 = .ok (.istore_n 3, 1) := by decide +kernel
theorem d_M_measure_4 : decode b_M_measure 4 = .ok (.iload_n 3, 1) := by decide +kernel
theorem d_M_measure_5 : decode b_M_measure 5 = .ok (.iload_n 1, 1) := by decide +kernel
theorem d_M_measure_6 : decode b_M_measure 6 = .ok (.if_icmp .ge 30, 3) := by decide +kernel
theorem d_M_measure_9 : decode b_M_measure 9 = .ok (.aload_n 0, 1) := by decide +kernel
theorem d_M_measure_10 : decode b_M_measure 10 = .ok (.iload_n 3, 1) := by decide +kernel
theorem d_M_measure_11 : decode b_M_measure 11 = .ok (.iconst 1, 1) := by decide +kernel
theorem d_M_measure_12 : decode b_M_measure 12 = .ok (.isub, 1) := by decide +kernel
theorem d_M_measure_13 : decode b_M_measure 13 = .ok (.invokevirtual 277, 3) := by decide +kernel
theorem d_M_measure_16 : decode b_M_measure 16 = .ok (.ifCond .eq 14, 3) := by decide +kernel
theorem d_M_measure_19 : decode b_M_measure 19 = .ok (.aload_n 0, 1) := by decide +kernel
theorem d_M_measure_20 : decode b_M_measure 20 = .ok (.iload_n 3, 1) := by decide +kernel
theorem d_M_measure_21 : decode b_M_measure 21 = .ok (.invokevirtual 277, 3) := by decide +kernel
theorem d_M_measure_24 : decode b_M_measure 24 = .ok (.ifCond .ne 6, 3) := by decide +kernel
theorem d_M_measure_27 : decode b_M_measure 27 = .ok (.iinc 2 1, 3) := by decide +kernel
theorem d_M_measure_30 : decode b_M_measure 30 = .ok (.iinc 3 1, 3) := by decide +kernel
theorem d_M_measure_33 : decode b_M_measure 33 = .ok (.goto (-29), 3) := by decide +kernel
theorem d_M_measure_36 : decode b_M_measure 36 = .ok (.iload_n 2, 1) := by decide +kernel
theorem d_M_measure_37 : decode b_M_measure 37 = .ok (.ireturn, 1) := by decide +kernel
theorem d_M_vowel_0 : decode b_M_vowel 0 = .ok (.aload_n 0, 1) := by decide +kernel
theorem d_M_vowel_1 : decode b_M_vowel 1 = .ok (.getfield 207, 3) := by decide +kernel
theorem d_M_vowel_4 : decode b_M_vowel 4 = .ok (.iload_n 1, 1) := by decide +kernel
theorem d_M_vowel_5 : decode b_M_vowel 5 = .ok (.iaload, 1) := by decide +kernel
theorem d_M_vowel_6 : decode b_M_vowel 6 = .ok (.istore_n 2, 1) := by decide +kernel
theorem d_M_vowel_7 : decode b_M_vowel 7 = .ok (.iload_n 2, 1) := by decide +kernel
theorem d_M_vowel_8 : decode b_M_vowel 8 = .ok (.bipush 121, 2) := by decide +kernel
theorem d_M_vowel_10 : decode b_M_vowel 10 = .ok (.if_icmp .eq 39, 3) := by decide +kernel
theorem d_M_vowel_13 : decode b_M_vowel 13 = .ok (.iload_n 2, 1) := by decide +kernel
theorem d_M_vowel_14 : decode b_M_vowel 14 = .ok (.bipush 97, 2) := by decide +kernel
theorem d_M_vowel_16 : decode b_M_vowel 16 = .ok (.if_icmp .eq 27, 3) := by decide +kernel
theorem d_M_vowel_19 : decode b_M_vowel 19 = .ok (.iload_n 2, 1) := by decide +kernel
theorem d_M_vowel_20 : decode b_M_vowel 20 = .ok (.bipush 101, 2) := by decide +kernel
theorem d_M_vowel_22 : decode b_M_vowel 22 = .ok (.if_icmp .eq 21, 3) := by decide +kernel
theorem d_M_vowel_25 : decode b_M_vowel 25 = .ok (.iload_n 2, 1) := by decide +kernel
theorem d_M_vowel_26 : decode b_M_vowel 26 = .ok (.bipush 105, 2) := by decide +kernel
theorem d_M_vowel_28 : decode b_M_vowel 28 = .ok (.if_icmp .eq 15, 3) := by decide +kernel
theorem d_M_vowel_31 : decode b_M_vowel 31 = .ok (.iload_n 2, 1) := by decide +kernel
theorem d_M_vowel_32 : decode b_M_vowel 32 = .ok (.bipush 111, 2) := by decide +kernel
theorem d_M_vowel_34 : decode b_M_vowel 34 = .ok (.if_icmp .eq 9, 3) := by decide +kernel
theorem d_M_vowel_37 : decode b_M_vowel 37 = .ok (.iload_n 2, 1) := by decide +kernel
theorem d_M_vowel_38 : decode b_M_vowel 38 = .ok (.bipush 117, 2) := by decide +kernel
theorem d_M_vowel_40 : decode b_M_vowel 40 = .ok (.if_icmp .ne 7, 3) := by decide +kernel
theorem d_M_vowel_43 : decode b_M_vowel 43 = .ok (.iconst 1, 1) := by decide +kernel
theorem d_M_vowel_44 : decode b_M_vowel 44 = .ok (.goto 4, 3) := by decide +kernel
theorem d_M_vowel_47 : decode b_M_vowel 47 = .ok (.iconst 0, 1) := by decide +kernel
theorem d_M_vowel_48 : decode b_M_vowel 48 = .ok (.ireturn, 1) := by decide +kernel
theorem d_M_vowel_49 : decode b_M_vowel 49 = .ok (.iload_n 1, 1) := by decide +kernel
theorem d_M_vowel_50 : decode b_M_vowel 50 = .ok (.istore_n 3, 1) := by decide +kernel
theorem d_M_vowel_51 : decode b_M_vowel 51 = .ok (.iload_n 3, 1) := by decide +kernel
theorem d_M_vowel_52 : decode b_M_vowel 52 = .ok (.ifCond .le 22, 3) := by decide +kernel
theorem d_M_vowel_55 : decode b_M_vowel 55 = .ok (.aload_n 0, 1) := by decide +kernel
theorem d_M_vowel_56 : decode b_M_vowel 56 = .ok (.getfield 207, 3) := by decide +kernel
theorem d_M_vowel_59 : decode b_M_vowel 59 = .ok (.iload_n 3, 1) := by decide +kernel
theorem d_M_vowel_60 : decode b_M_vowel 60 = .ok (.iconst 1, 1) := by decide +kernel
theorem d_M_vowel_61 : decode b_M_vowel 61 = .ok (.isub, 1) := by decide +kernel
theorem d_M_vowel_62 : decode b_M_vowel 62 = .ok (.iaload, 1) := by decide +kernel
theorem d_M_vowel_63 : decode b_M_vowel 63 = .ok (.bipush 121, 2) := by decide +kernel
theorem d_M_vowel_65 : decode b_M_vowel 65 = .ok (.if_icmp .ne 9, 3) := by decide +kernel
theorem d_M_vowel_68 : decode b_M_vowel 68 = .ok (.iinc 3 (-1), 3) := by decide +kernel
theorem d_M_vowel_71 : decode b_M_vowel 71 = .ok (.goto (-20), 3) := by decide +kernel
theorem d_M_vowel_74 : decode b_M_vowel 74 = .ok (.iload_n 3, 1) := by decide +kernel
theorem d_M_vowel_75 : decode b_M_vowel 75 = .ok (.ifCond .le 17, 3) := by decide +kernel
theorem d_M_vowel_78 : decode b_M_vowel 78 = .ok (.aload_n 0, 1) := by decide +kernel
theorem d_M_vowel_79 : decode b_M_vowel 79 = .ok (.iload_n 3, 1) := by decide +kernel
theorem d_M_vowel_80 : decode b_M_vowel 80 = .ok (.iconst 1, 1) := by decide +kernel
theorem d_M_vowel_81 : decode b_M_vowel 81 = .ok (.isub, 1) := by decide +kernel
theorem d_M_vowel_82 : decode b_M_vowel 82 = .ok (.invokevirtual 277, 3) := by decide +kernel
theorem d_M_vowel_85 : decode b_M_vowel 85 = .ok (.ifCond .ne 7, 3) := by decide +kernel
theorem d_M_vowel_88 : decode b_M_vowel 88 = .ok (.iconst 1, 1) := by decide +kernel
theorem d_M_vowel_89 : decode b_M_vowel 89 = .ok (.goto 4, 3) := by decide +kernel
theorem d_M_vowel_92 : decode b_M_vowel 92 = .ok (.iconst 0, 1) := by decide +kernel
theorem d_M_vowel_93 : decode b_M_vowel 93 = .ok (.istore 4, 2) := by decide +kernel
theorem d_M_vowel_95 : decode b_M_vowel 95 = .ok (.iload_n 1, 1) := by decide +kernel
theorem d_M_vowel_96 : decode b_M_vowel 96 = .ok (.iload_n 3, 1) := by decide +kernel
theorem d_M_vowel_97 : decode b_M_vowel 97 = .ok (.isub, 1) := by decide +kernel
theorem d_M_vowel_98 : decode b_M_vowel 98 = .ok (.iconst 2, 1) := by decide +kernel
theorem d_M_vowel_99 : decode b_M_vowel 99 = .ok (.irem, 1) := by decide +kernel
theorem d_M_vowel_100 : decode b_M_vowel 100 = .ok (.ifCond .ne 8, 3) := by decide +kernel
theorem d_M_vowel_103 : decode b_M_vowel 103 = .ok (.iload 4, 2) := by decide +kernel
theorem d_M_vowel_105 : decode b_M_vowel 105 = .ok (.goto 13, 3) := by decide +kernel
theorem d_M_vowel_108 : decode b_M_vowel 108 = .ok (.iload 4, 2) := by decide +kernel
theorem d_M_vowel_110 : decode b_M_vowel 110 = .ok (.ifCond .ne 7, 3) := by decide +kernel
theorem d_M_vowel_113 : decode b_M_vowel 113 = .ok (.iconst 1, 1) := by decide +kernel
theorem d_M_vowel_114 : decode b_M_vowel 114 = .ok (.goto 4, 3) := by decide +kernel
theorem d_M_vowel_117 : decode b_M_vowel 117 = .ok (.iconst 0, 1) := by decide +kernel
theorem d_M_vowel_118 : decode b_M_vowel 118 = .ok (.ireturn, 1) := by decide +kernel
theorem d_M_anyVowel_0 : decode b_M_anyVowel 0 = .ok (.iconst 0, 1) := by decide +kernel
theorem d_M_anyVowel_1 : decode b_M_anyVowel 1 = .ok (.istore_n 2, 1) := by decide +kernel
theorem d_M_anyVowel_2 : decode b_M_anyVowel 2 = .ok (.iload_n 2, 1) := by decide +kernel
theorem d_M_anyVowel_3 : decode b_M_anyVowel 3 = .ok (.iload_n 1, 1) := by decide +kernel
theorem d_M_anyVowel_4 : decode b_M_anyVowel 4 = .ok (.if_icmp .ge 19, 3) := by decide +kernel
theorem d_M_anyVowel_7 : decode b_M_anyVowel 7 = .ok (.aload_n 0, 1) := by decide +kernel
theorem d_M_anyVowel_8 : decode b_M_anyVowel 8 = .ok (.iload_n 2, 1) := by decide +kernel
theorem d_M_anyVowel_9 : decode b_M_anyVowel 9 = .ok (.invokevirtual 277, 3) := by decide +kernel
theorem d_M_anyVowel_12 : decode b_M_anyVowel 12 = .ok (.ifCond .eq 5, 3) := by decide +kernel
theorem d_M_anyVowel_15 : decode b_M_anyVowel 15 = .ok (.iconst 1, 1) := by decide +kernel
theorem d_M_anyVowel_16 : decode b_M_anyVowel 16 = .ok (.ireturn, 1) := by decide +kernel
theorem d_M_anyVowel_17 : decode b_M_anyVowel 17 = .ok (.iinc 2 1, 3) := by decide +kernel
theorem d_M_anyVowel_20 : decode b_M_anyVowel 20 = .ok (.goto (-18), 3) := by decide +kernel
theorem d_M_anyVowel_23 : decode b_M_anyVowel 23 = .ok (.iconst 0, 1) := by decide +kernel
theorem d_M_anyVowel_24 : decode b_M_anyVowel 24 = .ok (.ireturn, 1) := by decide +kernel
theorem d_M_instead_0 : decode b_M_instead 0 = .ok (.iconst 0, 1) := by decide +kernel
theorem d_M_instead_1 : decode b_M_instead 1 = .ok (.istore_n 3, 1) := by decide +kernel
theorem d_M_instead_2 : decode b_M_instead 2 = .ok (.iload_n 3, 1) := by decide +kernel
theorem d_M_instead_3 : decode b_M_instead 3 = .ok (.aload_n 2, 1) := by decide +kernel
theorem d_M_instead_4 : decode b_M_instead 4 = .ok (.invokevirtual 266, 3) := by decide +kernel
theorem d_M_instead_7 : decode b_M_instead 7 = .ok (.if_icmp .ge 22, 3) := by decide +kernel
theorem d_M_instead_10 : decode b_M_instead 10 = .ok (.aload_n 0, 1) := by decide +kernel
theorem d_M_instead_11 : decode b_M_instead 11 = .ok (.getfield 207, 3) := by decide +kernel
theorem d_M_instead_14 : decode b_M_instead 14 = .ok (.iload_n 1, 1) := by decide +kernel
theorem d_M_instead_15 : decode b_M_instead 15 = .ok (.iload_n 3, 1) := by decide +kernel
theorem d_M_instead_16 : decode b_M_instead 16 = .ok (.iadd, 1) := by decide +kernel
theorem d_M_instead_17 : decode b_M_instead 17 = .ok (.aload_n 2, 1) := by decide +kernel
theorem d_M_instead_18 : decode b_M_instead 18 = .ok (.iload_n 3, 1) := by decide +kernel
theorem d_M_instead_19 : decode b_M_instead 19 = .ok (.invokevirtual 273, 3) := by decide +kernel
theorem d_M_instead_22 : decode b_M_instead 22 = .ok (.iastore, 1) := by decide +kernel
theorem d_M_instead_23 : decode b_M_instead 23 = .ok (.iinc 3 1, 3) := by decide +kernel
theorem d_M_instead_26 : decode b_M_instead 26 = .ok (.goto (-24), 3) := by decide +kernel
theorem d_M_instead_29 : decode b_M_instead 29 = .ok (.aload_n 0, 1) := by decide +kernel
theorem d_M_instead_30 : decode b_M_instead 30 = .ok (.iload_n 1, 1) := by decide +kernel
theorem d_M_instead_31 : decode b_M_instead 31 = .ok (.aload_n 2, 1) := by decide +kernel
theorem d_M_instead_32 : decode b_M_instead 32 = .ok (.invokevirtual 266, 3) := by decide +kernel
theorem d_M_instead_35 : decode b_M_instead 35 = .ok (.iadd, 1) := by decide +kernel
theorem d_M_instead_36 : decode b_M_instead 36 = .ok (.putfield 254, 3) := by decide +kernel
theorem d_M_instead_39 : decode b_M_instead 39 = .ok (.return_, 1) := by decide +kernel
theorem d_M_cvc_0 : decode b_M_cvc 0 = .ok (.iload_n 1, 1) := by decide +kernel
theorem d_M_cvc_1 : decode b_M_cvc 1 = .ok (.iconst 2, 1) := by decide +kernel
theorem d_M_cvc_2 : decode b_M_cvc 2 = .ok (.if_icmp .le 76, 3) := by decide +kernel
theorem d_M_cvc_5 : decode b_M_cvc 5 = .ok (.aload_n 0, 1) := by decide +kernel
theorem d_M_cvc_6 : decode b_M_cvc 6 = .ok (.iload_n 1, 1) := by decide +kernel
theorem d_M_cvc_7 : decode b_M_cvc 7 = .ok (.iconst 3, 1) := by decide +kernel
theorem d_M_cvc_8 : decode b_M_cvc 8 = .ok (.isub, 1) := by decide +kernel
theorem d_M_cvc_9 : decode b_M_cvc 9 = .ok (.invokevirtual 277, 3) := by decide +kernel
theorem d_M_cvc_12 : decode b_M_cvc 12 = .ok (.ifCond .ne 66, 3) := by decide +kernel
theorem d_M_cvc_15 : decode b_M_cvc 15 = .ok (.aload_n 0, 1) := by decide +kernel
theorem d_M_cvc_16 : decode b_M_cvc 16 = .ok (.iload_n 1, 1) := by decide +kernel
theorem d_M_cvc_17 : decode b_M_cvc 17 = .ok (.iconst 2, 1) := by decide +kernel
theorem d_M_cvc_18 : decode b_M_cvc 18 = .ok (.isub, 1) := by decide +kernel
theorem d_M_cvc_19 : decode b_M_cvc 19 = .ok (.invokevirtual 277, 3) := by decide +kernel
theorem d_M_cvc_22 : decode b_M_cvc 22 = .ok (.ifCond .eq 56, 3) := by decide +kernel
theorem d_M_cvc_25 : decode b_M_cvc 25 = .ok (.aload_n 0, 1) := by decide +kernel
theorem d_M_cvc_26 : decode b_M_cvc 26 = .ok (.iload_n 1, 1) := by decide +kernel
theorem d_M_cvc_27 : decode b_M_cvc 27 = .ok (.iconst 1, 1) := by decide +kernel
theorem d_M_cvc_28 : decode b_M_cvc 28 = .ok (.isub, 1) := by decide +kernel
theorem d_M_cvc_29 : decode b_M_cvc 29 = .ok (.invokevirtual 277, 3) := by decide +kernel
theorem d_M_cvc_32 : decode b_M_cvc 32 = .ok (.ifCond .ne 46, 3) := by decide +kernel
theorem d_M_cvc_35 : decode b_M_cvc 35 = .ok (.aload_n 0, 1) := by decide +kernel
theorem d_M_cvc_36 : decode b_M_cvc 36 = .ok (.getfield 207, 3) := by decide +kernel
theorem d_M_cvc_39 : decode b_M_cvc 39 = .ok (.iload_n 1, 1) := by decide +kernel
theorem d_M_cvc_40 : decode b_M_cvc 40 = .ok (.iconst 1, 1) := by decide +kernel
theorem d_M_cvc_41 : decode b_M_cvc 41 = .ok (.isub, 1) := by decide +kernel
theorem d_M_cvc_42 : decode b_M_cvc 42 = .ok (.iaload, 1) := by decide +kernel
theorem d_M_cvc_43 : decode b_M_cvc 43 = .ok (.bipush 119, 2) := by decide +kernel
theorem d_M_cvc_45 : decode b_M_cvc 45 = .ok (.if_icmp .eq 33, 3) := by decide +kernel
theorem d_M_cvc_48 : decode b_M_cvc 48 = .ok (.aload_n 0, 1) := by decide +kernel
theorem d_M_cvc_49 : decode b_M_cvc 49 = .ok (.getfield 207, 3) := by decide +kernel
theorem d_M_cvc_52 : decode b_M_cvc 52 = .ok (.iload_n 1, 1) := by decide +kernel
theorem d_M_cvc_53 : decode b_M_cvc 53 = .ok (.iconst 1, 1) := by decide +kernel
theorem d_M_cvc_54 : decode b_M_cvc 54 = .ok (.isub, 1) := by decide +kernel
theorem d_M_cvc_55 : decode b_M_cvc 55 = .ok (.iaload, 1) := by decide +kernel
theorem d_M_cvc_56 : decode b_M_cvc 56 = .ok (.bipush 120, 2) := by decide +kernel
theorem d_M_cvc_58 : decode b_M_cvc 58 = .ok (.if_icmp .eq 20, 3) := by decide +kernel
theorem d_M_cvc_61 : decode b_M_cvc 61 = .ok (.aload_n 0, 1) := by decide +kernel
theorem d_M_cvc_62 : decode b_M_cvc 62 = .ok (.getfield 207, 3) := by decide +kernel
theorem d_M_cvc_65 : decode b_M_cvc 65 = .ok (.iload_n 1, 1) := by decide +kernel
theorem d_M_cvc_66 : decode b_M_cvc 66 = .ok (.iconst 1, 1) := by decide +kernel
theorem d_M_cvc_67 : decode b_M_cvc 67 = .ok (.isub, 1) := by decide +kernel
theorem d_M_cvc_68 : decode b_M_cvc 68 = .ok (.iaload, 1) := by decide +kernel
theorem d_M_cvc_69 : decode b_M_cvc 69 = .ok (.bipush 121, 2) := by decide +kernel
theorem d_M_cvc_71 : decode b_M_cvc 71 = .ok (.if_icmp .eq 7, 3) := by decide +kernel
theorem d_M_cvc_74 : decode b_M_cvc 74 = .ok (.iconst 1, 1) := by decide +kernel
theorem d_M_cvc_75 : decode b_M_cvc 75 = .ok (.goto 4, 3) := by decide +kernel
theorem d_M_cvc_78 : decode b_M_cvc 78 = .ok (.iconst 0, 1) := by decide +kernel
theorem d_M_cvc_79 : decode b_M_cvc 79 = .ok (.ireturn, 1) := by decide +kernel
theorem d_M_longest_0 : decode b_M_longest 0 = .ok (.iconst (-1), 1) := by decide +kernel
theorem d_M_longest_1 : decode b_M_longest 1 = .ok (.istore_n 2, 1) := by decide +kernel
theorem d_M_longest_2 : decode b_M_longest 2 = .ok (.iconst 0, 1) := by decide +kernel
theorem d_M_longest_3 : decode b_M_longest 3 = .ok (.istore_n 3, 1) := by decide +kernel
theorem d_M_longest_4 : decode b_M_longest 4 = .ok (.iload_n 3, 1) := by decide +kernel
theorem d_M_longest_5 : decode b_M_longest 5 = .ok (.aload_n 1, 1) := by decide +kernel
theorem d_M_longest_6 : decode b_M_longest 6 = .ok (.arraylength, 1) := by decide +kernel
theorem d_M_longest_7 : decode b_M_longest 7 = .ok (.if_icmp .ge 40, 3) := by decide +kernel
theorem d_M_longest_10 : decode b_M_longest 10 = .ok (.aload_n 0, 1) := by decide +kernel
theorem d_M_longest_11 : decode b_M_longest 11 = .ok (.aload_n 1, 1) := by decide +kernel
theorem d_M_longest_12 : decode b_M_longest 12 = .ok (.iload_n 3, 1) := by decide +kernel
theorem d_M_longest_13 : decode b_M_longest 13 = .ok (.aaload, 1) := by decide +kernel
theorem d_M_longest_14 : decode b_M_longest 14 = .ok (.invokevirtual 270, 3) := by decide +kernel
theorem d_M_longest_17 : decode b_M_longest 17 = .ok (.ifCond .eq 24, 3) := by decide +kernel
theorem d_M_longest_20 : decode b_M_longest 20 = .ok (.iload_n 2, 1) := by decide +kernel
theorem d_M_longest_21 : decode b_M_longest 21 = .ok (.ifCond .lt 18, 3) := by decide +kernel
theorem d_M_longest_24 : decode b_M_longest 24 = .ok (.aload_n 1, 1) := by decide +kernel
theorem d_M_longest_25 : decode b_M_longest 25 = .ok (.iload_n 3, 1) := by decide +kernel
theorem d_M_longest_26 : decode b_M_longest 26 = .ok (.aaload, 1) := by decide +kernel
theorem d_M_longest_27 : decode b_M_longest 27 = .ok (.invokevirtual 266, 3) := by decide +kernel
theorem d_M_longest_30 : decode b_M_longest 30 = .ok (.aload_n 1, 1) := by decide +kernel
theorem d_M_longest_31 : decode b_M_longest 31 = .ok (.iload_n 2, 1) := by decide +kernel
theorem d_M_longest_32 : decode b_M_longest 32 = .ok (.aaload, 1) := by decide +kernel
theorem d_M_longest_33 : decode b_M_longest 33 = .ok (.invokevirtual 266, 3) := by decide +kernel
theorem d_M_longest_36 : decode b_M_longest 36 = .ok (.if_icmp .le 5, 3) := by decide +kernel
theorem d_M_longest_39 : decode b_M_longest 39 = .ok (.iload_n 3, 1) := by decide +kernel
theorem d_M_longest_40 : decode b_M_longest 40 = .ok (.istore_n 2, 1) := by decide +kernel
theorem d_M_longest_41 : decode b_M_longest 41 = .ok (.iinc 3 2, 3) := by decide +kernel
theorem d_M_longest_44 : decode b_M_longest 44 = .ok (.goto (-40), 3) := by decide +kernel
theorem d_M_longest_47 : decode b_M_longest 47 = .ok (.iload_n 2, 1) := by decide +kernel
theorem d_M_longest_48 : decode b_M_longest 48 = .ok (.ireturn, 1) := by decide +kernel
theorem d_M_token_II_0 : decode b_M_token_II 0 = .ok (.aload_n 0, 1) := by decide +kernel
theorem d_M_token_II_1 : decode b_M_token_II 1 = .ok (.iload_n 2, 1) := by decide +kernel
theorem d_M_token_II_2 : decode b_M_token_II 2 = .ok (.ifCond .lt 8, 3) := by decide +kernel
theorem d_M_token_II_5 : decode b_M_token_II 5 = .ok (.iload_n 2, 1) := by decide +kernel
theorem d_M_token_II_6 : decode b_M_token_II 6 = .ok (.iconst 1, 1) := by decide +kernel
theorem d_M_token_II_7 : decode b_M_token_II 7 = .ok (.if_icmp .le 7, 3) := by decide +kernel
theorem d_M_token_II_10 : decode b_M_token_II 10 = .ok (.iconst 1, 1) := by decide +kernel
theorem d_M_token_II_11 : decode b_M_token_II 11 = .ok (.goto 16, 3) := by decide +kernel
theorem d_M_token_II_14 : decode b_M_token_II 14 = .ok (.aload_n 0, 1) := by decide +kernel
theorem d_M_token_II_15 : decode b_M_token_II 15 = .ok (.iload_n 1, 1) := by decide +kernel
theorem d_M_token_II_16 : decode b_M_token_II 16 = .ok (.invokevirtual 336, 3) := by decide +kernel
theorem d_M_token_II_19 : decode b_M_token_II 19 = .ok (.ifCond .eq 7, 3) := by decide +kernel
theorem d_M_token_II_22 : decode b_M_token_II 22 = .ok (.iconst 0, 1) := by decide +kernel
theorem d_M_token_II_23 : decode b_M_token_II 23 = .ok (.goto 4, 3) := by decide +kernel
theorem d_M_token_II_26 : decode b_M_token_II 26 = .ok (.iconst 2, 1) := by decide +kernel
theorem d_M_token_II_27 : decode b_M_token_II 27 = .ok (.putfield 210, 3) := by decide +kernel
theorem d_M_token_II_30 : decode b_M_token_II 30 = .ok (.aload_n 0, 1) := by decide +kernel
theorem d_M_token_II_31 : decode b_M_token_II 31 = .ok (.getfield 210, 3) := by decide +kernel
theorem d_M_token_II_34 : decode b_M_token_II 34 = .ok (.ifCond .eq 5, 3) := by decide +kernel
theorem d_M_token_II_37 : decode b_M_token_II 37 = .ok (.iconst 0, 1) := by decide +kernel
theorem d_M_token_II_38 : decode b_M_token_II 38 = .ok (.ireturn, 1) := by decide +kernel
theorem d_M_token_II_39 : decode b_M_token_II 39 = .ok (.iload_n 2, 1) := by decide +kernel
theorem d_M_token_II_40 : decode b_M_token_II 40 = .ok (.ifCond .ne 12, 3) := by decide +kernel
theorem d_M_token_II_43 : decode b_M_token_II 43 = .ok (.aload_n 0, 1) := by decide +kernel
theorem d_M_token_II_44 : decode b_M_token_II 44 = .ok (.getfield 204, 3) := by decide +kernel
theorem d_M_token_II_47 : decode b_M_token_II 47 = .ok (.iload_n 1, 1) := by decide +kernel
theorem d_M_token_II_48 : decode b_M_token_II 48 = .ok (.iaload, 1) := by decide +kernel
theorem d_M_token_II_49 : decode b_M_token_II 49 = .ok (.goto 18, 3) := by decide +kernel
theorem d_M_token_II_52 : decode b_M_token_II 52 = .ok (.aload_n 0, 1) := by decide +kernel
theorem d_M_token_II_53 : decode b_M_token_II 53 = .ok (.getfield 201, 3) := by decide +kernel
theorem d_M_token_II_56 : decode b_M_token_II 56 = .ok (.iload_n 1, 1) := by decide +kernel
theorem d_M_token_II_57 : decode b_M_token_II 57 = .ok (.iconst 1, 1) := by decide +kernel
theorem d_M_token_II_58 : decode b_M_token_II 58 = .ok (.iadd, 1) := by decide +kernel
theorem d_M_token_II_59 : decode b_M_token_II 59 = .ok (.iaload, 1) := by decide +kernel
theorem d_M_token_II_60 : decode b_M_token_II 60 = .ok (.aload_n 0, 1) := by decide +kernel
theorem d_M_token_II_61 : decode b_M_token_II 61 = .ok (.getfield 201, 3) := by decide +kernel
theorem d_M_token_II_64 : decode b_M_token_II 64 = .ok (.iload_n 1, 1) := by decide +kernel
theorem d_M_token_II_65 : decode b_M_token_II 65 = .ok (.iaload, 1) := by decide +kernel
theorem d_M_token_II_66 : decode b_M_token_II 66 = .ok (.isub, 1) := by decide +kernel
theorem d_M_token_II_67 : decode b_M_token_II 67 = .ok (.ireturn, 1) := by decide +kernel
theorem d_M_there_0 : decode b_M_there 0 = .ok (.iload_n 1, 1) := by decide +kernel
theorem d_M_there_1 : decode b_M_there 1 = .ok (.ifCond .lt 15, 3) := by decide +kernel
theorem d_M_there_4 : decode b_M_there 4 = .ok (.iload_n 1, 1) := by decide +kernel
theorem d_M_there_5 : decode b_M_there 5 = .ok (.aload_n 0, 1) := by decide +kernel
theorem d_M_there_6 : decode b_M_there 6 = .ok (.getfield 234, 3) := by decide +kernel
theorem d_M_there_9 : decode b_M_there 9 = .ok (.if_icmp .ge 7, 3) := by decide +kernel
theorem d_M_there_12 : decode b_M_there 12 = .ok (.iconst 1, 1) := by decide +kernel
theorem d_M_there_13 : decode b_M_there 13 = .ok (.goto 4, 3) := by decide +kernel
theorem d_M_there_16 : decode b_M_there 16 = .ok (.iconst 0, 1) := by decide +kernel
theorem d_M_there_17 : decode b_M_there 17 = .ok (.ireturn, 1) := by decide +kernel
theorem d_M_character_0 : decode b_M_character 0 = .ok (.aload_n 0, 1) := by decide +kernel
theorem d_M_character_1 : decode b_M_character 1 = .ok (.aload_n 0, 1) := by decide +kernel
theorem d_M_character_2 : decode b_M_character 2 = .ok (.iload_n 1, 1) := by decide +kernel
theorem d_M_character_3 : decode b_M_character 3 = .ok (.invokevirtual 336, 3) := by decide +kernel
theorem d_M_character_6 : decode b_M_character 6 = .ok (.ifCond .eq 30, 3) := by decide +kernel
theorem d_M_character_9 : decode b_M_character 9 = .ok (.iload_n 2, 1) := by decide +kernel
theorem d_M_character_10 : decode b_M_character 10 = .ok (.ifCond .lt 26, 3) := by decide +kernel
theorem d_M_character_13 : decode b_M_character 13 = .ok (.iload_n 2, 1) := by decide +kernel
theorem d_M_character_14 : decode b_M_character 14 = .ok (.aload_n 0, 1) := by decide +kernel
theorem d_M_character_15 : decode b_M_character 15 = .ok (.getfield 201, 3) := by decide +kernel
theorem d_M_character_18 : decode b_M_character 18 = .ok (.iload_n 1, 1) := by decide +kernel
theorem d_M_character_19 : decode b_M_character 19 = .ok (.iconst 1, 1) := by decide +kernel
theorem d_M_character_20 : decode b_M_character 20 = .ok (.iadd, 1) := by decide +kernel
theorem d_M_character_21 : decode b_M_character 21 = .ok (.iaload, 1) := by decide +kernel
theorem d_M_character_22 : decode b_M_character 22 = .ok (.aload_n 0, 1) := by decide +kernel
theorem d_M_character_23 : decode b_M_character 23 = .ok (.getfield 201, 3) := by decide +kernel
theorem d_M_character_26 : decode b_M_character 26 = .ok (.iload_n 1, 1) := by decide +kernel
theorem d_M_character_27 : decode b_M_character 27 = .ok (.iaload, 1) := by decide +kernel
theorem d_M_character_28 : decode b_M_character 28 = .ok (.isub, 1) := by decide +kernel
theorem d_M_character_29 : decode b_M_character 29 = .ok (.if_icmp .ge 7, 3) := by decide +kernel
theorem d_M_character_32 : decode b_M_character 32 = .ok (.iconst 0, 1) := by decide +kernel
theorem d_M_character_33 : decode b_M_character 33 = .ok (.goto 4, 3) := by decide +kernel
theorem d_M_character_36 : decode b_M_character 36 = .ok (.iconst 1, 1) := by decide +kernel
theorem d_M_character_37 : decode b_M_character 37 = .ok (.putfield 210, 3) := by decide +kernel
theorem d_M_character_40 : decode b_M_character 40 = .ok (.aload_n 0, 1) := by decide +kernel
theorem d_M_character_41 : decode b_M_character 41 = .ok (.getfield 210, 3) := by decide +kernel
theorem d_M_character_44 : decode b_M_character 44 = .ok (.ifCond .eq 7, 3) := by decide +kernel
theorem d_M_character_47 : decode b_M_character 47 = .ok (.iconst 0, 1) := by decide +kernel
theorem d_M_character_48 : decode b_M_character 48 = .ok (.goto 16, 3) := by decide +kernel
theorem d_M_character_51 : decode b_M_character 51 = .ok (.aload_n 0, 1) := by decide +kernel
theorem d_M_character_52 : decode b_M_character 52 = .ok (.getfield 198, 3) := by decide +kernel
theorem d_M_character_55 : decode b_M_character 55 = .ok (.aload_n 0, 1) := by decide +kernel
theorem d_M_character_56 : decode b_M_character 56 = .ok (.getfield 201, 3) := by decide +kernel
theorem d_M_character_59 : decode b_M_character 59 = .ok (.iload_n 1, 1) := by decide +kernel
theorem d_M_character_60 : decode b_M_character 60 = .ok (.iaload, 1) := by decide +kernel
theorem d_M_character_61 : decode b_M_character 61 = .ok (.iload_n 2, 1) := by decide +kernel
theorem d_M_character_62 : decode b_M_character 62 = .ok (.iadd, 1) := by decide +kernel
theorem d_M_character_63 : decode b_M_character 63 = .ok (.iaload, 1) := by decide +kernel
theorem d_M_character_64 : decode b_M_character 64 = .ok (.ireturn, 1) := by decide +kernel
theorem d_M_first_0 : decode b_M_first 0 = .ok (.aload_n 0, 1) := by decide +kernel
theorem d_M_first_1 : decode b_M_first 1 = .ok (.aload_n 0, 1) := by decide +kernel
theorem d_M_first_2 : decode b_M_first 2 = .ok (.iload_n 1, 1) := by decide +kernel
theorem d_M_first_3 : decode b_M_first 3 = .ok (.invokevirtual 336, 3) := by decide +kernel
theorem d_M_first_6 : decode b_M_first 6 = .ok (.ifCond .eq 7, 3) := by decide +kernel
theorem d_M_first_9 : decode b_M_first 9 = .ok (.iconst 0, 1) := by decide +kernel
theorem d_M_first_10 : decode b_M_first 10 = .ok (.goto 4, 3) := by decide +kernel
theorem d_M_first_13 : decode b_M_first 13 = .ok (.iconst 1, 1) := by decide +kernel
theorem d_M_first_14 : decode b_M_first 14 = .ok (.putfield 210, 3) := by decide +kernel
theorem d_M_first_17 : decode b_M_first 17 = .ok (.aload_n 0, 1) := by decide +kernel
theorem d_M_first_18 : decode b_M_first 18 = .ok (.getfield 210, 3) := by decide +kernel
theorem d_M_first_21 : decode b_M_first 21 = .ok (.ifCond .eq 5, 3) := by decide +kernel
theorem d_M_first_24 : decode b_M_first 24 = .ok (.iconst 0, 1) := by decide +kernel
theorem d_M_first_25 : decode b_M_first 25 = .ok (.ireturn, 1) := by decide +kernel
theorem d_M_first_26 : decode b_M_first 26 = .ok (.iconst 0, 1) := by decide +kernel
theorem d_M_first_27 : decode b_M_first 27 = .ok (.istore_n 2, 1) := by decide +kernel
theorem d_M_first_28 : decode b_M_first 28 = .ok (.aload_n 0, 1) := by decide +kernel
theorem d_M_first_29 : decode b_M_first 29 = .ok (.iload_n 1, 1) := by decide +kernel
theorem d_M_first_30 : decode b_M_first 30 = .ok (.iload_n 2, 1) := by decide +kernel
theorem d_M_first_31 : decode b_M_first 31 = .ok (.invokevirtual 338, 3) := by decide +kernel
theorem d_M_first_34 : decode b_M_first 34 = .ok (.ifCond .ne 9, 3) := by decide +kernel
theorem d_M_first_37 : decode b_M_first 37 = .ok (.iinc 2 1, 3) := by decide +kernel
theorem d_M_first_40 : decode b_M_first 40 = .ok (.goto (-12), 3) := by decide +kernel
theorem d_M_first_43 : decode b_M_first 43 = .ok (.iload_n 2, 1) := by decide +kernel
theorem d_M_first_44 : decode b_M_first 44 = .ok (.ireturn, 1) := by decide +kernel
theorem d_M_same_0 : decode b_M_same 0 = .ok (.aload_n 0, 1) := by decide +kernel
theorem d_M_same_1 : decode b_M_same 1 = .ok (.getfield 201, 3) := by decide +kernel
theorem d_M_same_4 : decode b_M_same 4 = .ok (.iload_n 1, 1) := by decide +kernel
theorem d_M_same_5 : decode b_M_same 5 = .ok (.iconst 1, 1) := by decide +kernel
theorem d_M_same_6 : decode b_M_same 6 = .ok (.iadd, 1) := by decide +kernel
theorem d_M_same_7 : decode b_M_same 7 = .ok (.iaload, 1) := by decide +kernel
theorem d_M_same_8 : decode b_M_same 8 = .ok (.aload_n 0, 1) := by decide +kernel
theorem d_M_same_9 : decode b_M_same 9 = .ok (.getfield 201, 3) := by decide +kernel
theorem d_M_same_12 : decode b_M_same 12 = .ok (.iload_n 1, 1) := by decide +kernel
theorem d_M_same_13 : decode b_M_same 13 = .ok (.iaload, 1) := by decide +kernel
theorem d_M_same_14 : decode b_M_same 14 = .ok (.isub, 1) := by decide +kernel
theorem d_M_same_15 : decode b_M_same 15 = .ok (.istore_n 3, 1) := by decide +kernel
theorem d_M_same_16 : decode b_M_same 16 = .ok (.iload_n 3, 1) := by decide +kernel
theorem d_M_same_17 : decode b_M_same 17 = .ok (.aload_n 0, 1) := by decide +kernel
theorem d_M_same_18 : decode b_M_same 18 = .ok (.getfield 201, 3) := by decide +kernel
theorem d_M_same_21 : decode b_M_same 21 = .ok (.iload_n 2, 1) := by decide +kernel
theorem d_M_same_22 : decode b_M_same 22 = .ok (.iconst 1, 1) := by decide +kernel
theorem d_M_same_23 : decode b_M_same 23 = .ok (.iadd, 1) := by decide +kernel
theorem d_M_same_24 : decode b_M_same 24 = .ok (.iaload, 1) := by decide +kernel
theorem d_M_same_25 : decode b_M_same 25 = .ok (.aload_n 0, 1) := by decide +kernel
theorem d_M_same_26 : decode b_M_same 26 = .ok (.getfield 201, 3) := by decide +kernel
theorem d_M_same_29 : decode b_M_same 29 = .ok (.iload_n 2, 1) := by decide +kernel
theorem d_M_same_30 : decode b_M_same 30 = .ok (.iaload, 1) := by decide +kernel
theorem d_M_same_31 : decode b_M_same 31 = .ok (.isub, 1) := by decide +kernel
theorem d_M_same_32 : decode b_M_same 32 = .ok (.if_icmp .eq 5, 3) := by decide +kernel
theorem d_M_same_35 : decode b_M_same 35 = .ok (.iconst 0, 1) := by decide +kernel
theorem d_M_same_36 : decode b_M_same 36 = .ok (.ireturn, 1) := by decide +kernel
theorem d_M_same_37 : decode b_M_same 37 = .ok (.iconst 0, 1) := by decide +kernel
theorem d_M_same_38 : decode b_M_same 38 = .ok (.istore 4, 2) := by decide +kernel
theorem d_M_same_40 : decode b_M_same 40 = .ok (.iload 4, 2) := by decide +kernel
theorem d_M_same_42 : decode b_M_same 42 = .ok (.iload_n 3, 1) := by decide +kernel
theorem d_M_same_43 : decode b_M_same 43 = .ok (.if_icmp .ge 42, 3) := by decide +kernel
theorem d_M_same_46 : decode b_M_same 46 = .ok (.aload_n 0, 1) := by decide +kernel
theorem d_M_same_47 : decode b_M_same 47 = .ok (.getfield 198, 3) := by decide +kernel
theorem d_M_same_50 : decode b_M_same 50 = .ok (.aload_n 0, 1) := by decide +kernel
theorem d_M_same_51 : decode b_M_same 51 = .ok (.getfield 201, 3) := by decide +kernel
theorem d_M_same_54 : decode b_M_same 54 = .ok (.iload_n 1, 1) := by decide +kernel
theorem d_M_same_55 : decode b_M_same 55 = .ok (.iaload, 1) := by decide +kernel
theorem d_M_same_56 : decode b_M_same 56 = .ok (.iload 4, 2) := by decide +kernel
theorem d_M_same_58 : decode b_M_same 58 = .ok (.iadd, 1) := by decide +kernel
theorem d_M_same_59 : decode b_M_same 59 = .ok (.iaload, 1) := by decide +kernel
theorem d_M_same_60 : decode b_M_same 60 = .ok (.aload_n 0, 1) := by decide +kernel
theorem d_M_same_61 : decode b_M_same 61 = .ok (.getfield 198, 3) := by decide +kernel
theorem d_M_same_64 : decode b_M_same 64 = .ok (.aload_n 0, 1) := by decide +kernel
theorem d_M_same_65 : decode b_M_same 65 = .ok (.getfield 201, 3) := by decide +kernel
theorem d_M_same_68 : decode b_M_same 68 = .ok (.iload_n 2, 1) := by decide +kernel
theorem d_M_same_69 : decode b_M_same 69 = .ok (.iaload, 1) := by decide +kernel
theorem d_M_same_70 : decode b_M_same 70 = .ok (.iload 4, 2) := by decide +kernel
theorem d_M_same_72 : decode b_M_same 72 = .ok (.iadd, 1) := by decide +kernel
theorem d_M_same_73 : decode b_M_same 73 = .ok (.iaload, 1) := by decide +kernel
theorem d_M_same_74 : decode b_M_same 74 = .ok (.if_icmp .eq 5, 3) := by decide +kernel
theorem d_M_same_77 : decode b_M_same 77 = .ok (.iconst 0, 1) := by decide +kernel
theorem d_M_same_78 : decode b_M_same 78 = .ok (.ireturn, 1) := by decide +kernel
theorem d_M_same_79 : decode b_M_same 79 = .ok (.iinc 4 1, 3) := by decide +kernel
theorem d_M_same_82 : decode b_M_same 82 = .ok (.goto (-42), 3) := by decide +kernel
theorem d_M_same_85 : decode b_M_same 85 = .ok (.iconst 1, 1) := by decide +kernel
theorem d_M_same_86 : decode b_M_same 86 = .ok (.ireturn, 1) := by decide +kernel
theorem d_M_sort_0 : decode b_M_sort 0 = .ok (.aload_n 0, 1) := by decide +kernel
theorem d_M_sort_1 : decode b_M_sort 1 = .ok (.iload_n 1, 1) := by decide +kernel
theorem d_M_sort_2 : decode b_M_sort 2 = .ok (.ifCond .lt 10, 3) := by decide +kernel
theorem d_M_sort_5 : decode b_M_sort 5 = .ok (.iload_n 1, 1) := by decide +kernel
theorem d_M_sort_6 : decode b_M_sort 6 = .ok (.ldc_w 342, 3) := by decide +kernel
theorem d_M_sort_9 : decode b_M_sort 9 = .ok (.if_icmp .le 7, 3) := by decide +kernel
theorem d_M_sort_12 : decode b_M_sort 12 = .ok (.iconst 1, 1) := by decide +kernel
theorem d_M_sort_13 : decode b_M_sort 13 = .ok (.goto 4, 3) := by decide +kernel
theorem d_M_sort_16 : decode b_M_sort 16 = .ok (.iconst 0, 1) := by decide +kernel
theorem d_M_sort_17 : decode b_M_sort 17 = .ok (.putfield 210, 3) := by decide +kernel
theorem d_M_sort_20 : decode b_M_sort 20 = .ok (.aload_n 0, 1) := by decide +kernel
theorem d_M_sort_21 : decode b_M_sort 21 = .ok (.getfield 210, 3) := by decide +kernel
theorem d_M_sort_24 : decode b_M_sort 24 = .ok (.ifCond .eq 7, 3) := by decide +kernel
theorem d_M_sort_27 : decode b_M_sort 27 = .ok (.iconst 0, 1) := by decide +kernel
theorem d_M_sort_28 : decode b_M_sort 28 = .ok (.goto 7, 3) := by decide +kernel
theorem d_M_sort_31 : decode b_M_sort 31 = .ok (.iload_n 1, 1) := by decide +kernel
theorem d_M_sort_32 : decode b_M_sort 32 = .ok (.invokestatic 227, 3) := by decide +kernel
theorem d_M_sort_35 : decode b_M_sort 35 = .ok (.ireturn, 1) := by decide +kernel
theorem d_M_count_0 : decode b_M_count 0 = .ok (.aload_n 0, 1) := by decide +kernel
theorem d_M_count_1 : decode b_M_count 1 = .ok (.iconst 0, 1) := by decide +kernel
theorem d_M_count_2 : decode b_M_count 2 = .ok (.putfield 210, 3) := by decide +kernel
theorem d_M_count_5 : decode b_M_count 5 = .ok (.iload_n 1, 1) := by decide +kernel
theorem d_M_count_6 : decode b_M_count 6 = .ok (.tableswitch 64 0 4 #[34, 39, 44, 49, 54], 34) := by decide +kernel
theorem d_M_count_40 : decode b_M_count 40 = .ok (.aload_n 0, 1) := by decide +kernel
theorem d_M_count_41 : decode b_M_count 41 = .ok (.getfield 326, 3) := by decide +kernel
theorem d_M_count_44 : decode b_M_count 44 = .ok (.ireturn, 1) := by decide +kernel
theorem d_M_count_45 : decode b_M_count 45 = .ok (.aload_n 0, 1) := by decide +kernel
theorem d_M_count_46 : decode b_M_count 46 = .ok (.getfield 234, 3) := by decide +kernel
theorem d_M_count_49 : decode b_M_count 49 = .ok (.ireturn, 1) := by decide +kernel
theorem d_M_count_50 : decode b_M_count 50 = .ok (.aload_n 0, 1) := by decide +kernel
theorem d_M_count_51 : decode b_M_count 51 = .ok (.getfield 237, 3) := by decide +kernel
theorem d_M_count_54 : decode b_M_count 54 = .ok (.ireturn, 1) := by decide +kernel
theorem d_M_count_55 : decode b_M_count 55 = .ok (.aload_n 0, 1) := by decide +kernel
theorem d_M_count_56 : decode b_M_count 56 = .ok (.getfield 218, 3) := by decide +kernel
theorem d_M_count_59 : decode b_M_count 59 = .ok (.ireturn, 1) := by decide +kernel
theorem d_M_count_60 : decode b_M_count 60 = .ok (.aload_n 0, 1) := by decide +kernel
theorem d_M_count_61 : decode b_M_count 61 = .ok (.getfield 201, 3) := by decide +kernel
theorem d_M_count_64 : decode b_M_count 64 = .ok (.aload_n 0, 1) := by decide +kernel
theorem d_M_count_65 : decode b_M_count 65 = .ok (.getfield 234, 3) := by decide +kernel
theorem d_M_count_68 : decode b_M_count 68 = .ok (.iaload, 1) := by decide +kernel
theorem d_M_count_69 : decode b_M_count 69 = .ok (.ireturn, 1) := by decide +kernel
theorem d_M_count_70 : decode b_M_count 70 = .ok (.iconst (-1), 1) := by decide +kernel
theorem d_M_count_71 : decode b_M_count 71 = .ok (.ireturn, 1) := by decide +kernel
theorem d_L_feed_0 : decode b_L_feed 0 = .ok (.aload 6, 2) := by decide +kernel
theorem d_L_feed_2 : decode b_L_feed 2 = .ok (.iconst 0, 1) := by decide +kernel
theorem d_L_feed_3 : decode b_L_feed 3 = .ok (.aload_n 0, 1) := by decide +kernel
theorem d_L_feed_4 : decode b_L_feed 4 = .ok (.iload_n 1, 1) := by decide +kernel
theorem d_L_feed_5 : decode b_L_feed 5 = .ok (.iload_n 2, 1) := by decide +kernel
theorem d_L_feed_6 : decode b_L_feed 6 = .ok (.iload_n 3, 1) := by decide +kernel
theorem d_L_feed_7 : decode b_L_feed 7 = .ok (.iload 4, 2) := by decide +kernel
theorem d_L_feed_9 : decode b_L_feed 9 = .ok (.iload 5, 2) := by decide +kernel
theorem d_L_feed_11 : decode b_L_feed 11 = .ok (.invokevirtual 7, 3) := by decide +kernel
theorem d_L_feed_14 : decode b_L_feed 14 = .ok (.i2l, 1) := by decide +kernel
theorem d_L_feed_15 : decode b_L_feed 15 = .ok (.lastore, 1) := by decide +kernel
theorem d_L_feed_16 : decode b_L_feed 16 = .ok (.goto 7, 3) := by decide +kernel
theorem d_L_feed_19 : decode b_L_feed 19 = .ok (.astore 7, 2) := by decide +kernel
theorem d_L_feed_21 : decode b_L_feed 21 = .ok (.iconst 1, 1) := by decide +kernel
theorem d_L_feed_22 : decode b_L_feed 22 = .ok (.ireturn, 1) := by decide +kernel
theorem d_L_feed_23 : decode b_L_feed 23 = .ok (.iconst 0, 1) := by decide +kernel
theorem d_L_feed_24 : decode b_L_feed 24 = .ok (.ireturn, 1) := by decide +kernel
theorem d_L_end_0 : decode b_L_end 0 = .ok (.aload_n 2, 1) := by decide +kernel
theorem d_L_end_1 : decode b_L_end 1 = .ok (.iconst 0, 1) := by decide +kernel
theorem d_L_end_2 : decode b_L_end 2 = .ok (.aload_n 0, 1) := by decide +kernel
theorem d_L_end_3 : decode b_L_end 3 = .ok (.iload_n 1, 1) := by decide +kernel
theorem d_L_end_4 : decode b_L_end 4 = .ok (.invokevirtual 15, 3) := by decide +kernel
theorem d_L_end_7 : decode b_L_end 7 = .ok (.i2l, 1) := by decide +kernel
theorem d_L_end_8 : decode b_L_end 8 = .ok (.lastore, 1) := by decide +kernel
theorem d_L_end_9 : decode b_L_end 9 = .ok (.goto 6, 3) := by decide +kernel
theorem d_L_end_12 : decode b_L_end 12 = .ok (.astore_n 3, 1) := by decide +kernel
theorem d_L_end_13 : decode b_L_end 13 = .ok (.iconst 1, 1) := by decide +kernel
theorem d_L_end_14 : decode b_L_end 14 = .ok (.ireturn, 1) := by decide +kernel
theorem d_L_end_15 : decode b_L_end 15 = .ok (.iconst 0, 1) := by decide +kernel
theorem d_L_end_16 : decode b_L_end 16 = .ok (.ireturn, 1) := by decide +kernel
theorem d_L_token_0 : decode b_L_token 0 = .ok (.aload_n 3, 1) := by decide +kernel
theorem d_L_token_1 : decode b_L_token 1 = .ok (.iconst 0, 1) := by decide +kernel
theorem d_L_token_2 : decode b_L_token 2 = .ok (.aload_n 0, 1) := by decide +kernel
theorem d_L_token_3 : decode b_L_token 3 = .ok (.iload_n 1, 1) := by decide +kernel
theorem d_L_token_4 : decode b_L_token 4 = .ok (.iload_n 2, 1) := by decide +kernel
theorem d_L_token_5 : decode b_L_token 5 = .ok (.invokevirtual 21, 3) := by decide +kernel
theorem d_L_token_8 : decode b_L_token 8 = .ok (.i2l, 1) := by decide +kernel
theorem d_L_token_9 : decode b_L_token 9 = .ok (.lastore, 1) := by decide +kernel
theorem d_L_token_10 : decode b_L_token 10 = .ok (.goto 11, 3) := by decide +kernel
theorem d_L_token_13 : decode b_L_token 13 = .ok (.astore 4, 2) := by decide +kernel
theorem d_L_token_15 : decode b_L_token 15 = .ok (.iconst 1, 1) := by decide +kernel
theorem d_L_token_16 : decode b_L_token 16 = .ok (.ireturn, 1) := by decide +kernel
theorem d_L_token_17 : decode b_L_token 17 = .ok (.astore 4, 2) := by decide +kernel
theorem d_L_token_19 : decode b_L_token 19 = .ok (.iconst 2, 1) := by decide +kernel
theorem d_L_token_20 : decode b_L_token 20 = .ok (.ireturn, 1) := by decide +kernel
theorem d_L_token_21 : decode b_L_token 21 = .ok (.iconst 0, 1) := by decide +kernel
theorem d_L_token_22 : decode b_L_token 22 = .ok (.ireturn, 1) := by decide +kernel
theorem d_L_character_0 : decode b_L_character 0 = .ok (.aload_n 3, 1) := by decide +kernel
theorem d_L_character_1 : decode b_L_character 1 = .ok (.iconst 0, 1) := by decide +kernel
theorem d_L_character_2 : decode b_L_character 2 = .ok (.aload_n 0, 1) := by decide +kernel
theorem d_L_character_3 : decode b_L_character 3 = .ok (.iload_n 1, 1) := by decide +kernel
theorem d_L_character_4 : decode b_L_character 4 = .ok (.iload_n 2, 1) := by decide +kernel
theorem d_L_character_5 : decode b_L_character 5 = .ok (.invokevirtual 27, 3) := by decide +kernel
theorem d_L_character_8 : decode b_L_character 8 = .ok (.i2l, 1) := by decide +kernel
theorem d_L_character_9 : decode b_L_character 9 = .ok (.lastore, 1) := by decide +kernel
theorem d_L_character_10 : decode b_L_character 10 = .ok (.goto 7, 3) := by decide +kernel
theorem d_L_character_13 : decode b_L_character 13 = .ok (.astore 4, 2) := by decide +kernel
theorem d_L_character_15 : decode b_L_character 15 = .ok (.iconst 1, 1) := by decide +kernel
theorem d_L_character_16 : decode b_L_character 16 = .ok (.ireturn, 1) := by decide +kernel
theorem d_L_character_17 : decode b_L_character 17 = .ok (.iconst 0, 1) := by decide +kernel
theorem d_L_character_18 : decode b_L_character 18 = .ok (.ireturn, 1) := by decide +kernel
theorem d_L_first_0 : decode b_L_first 0 = .ok (.aload_n 2, 1) := by decide +kernel
theorem d_L_first_1 : decode b_L_first 1 = .ok (.iconst 0, 1) := by decide +kernel
theorem d_L_first_2 : decode b_L_first 2 = .ok (.aload_n 0, 1) := by decide +kernel
theorem d_L_first_3 : decode b_L_first 3 = .ok (.iload_n 1, 1) := by decide +kernel
theorem d_L_first_4 : decode b_L_first 4 = .ok (.invokevirtual 30, 3) := by decide +kernel
theorem d_L_first_7 : decode b_L_first 7 = .ok (.i2l, 1) := by decide +kernel
theorem d_L_first_8 : decode b_L_first 8 = .ok (.lastore, 1) := by decide +kernel
theorem d_L_first_9 : decode b_L_first 9 = .ok (.goto 6, 3) := by decide +kernel
theorem d_L_first_12 : decode b_L_first 12 = .ok (.astore_n 3, 1) := by decide +kernel
theorem d_L_first_13 : decode b_L_first 13 = .ok (.iconst 1, 1) := by decide +kernel
theorem d_L_first_14 : decode b_L_first 14 = .ok (.ireturn, 1) := by decide +kernel
theorem d_L_first_15 : decode b_L_first 15 = .ok (.iconst 0, 1) := by decide +kernel
theorem d_L_first_16 : decode b_L_first 16 = .ok (.ireturn, 1) := by decide +kernel
theorem d_L_sort_0 : decode b_L_sort 0 = .ok (.aload_n 2, 1) := by decide +kernel
theorem d_L_sort_1 : decode b_L_sort 1 = .ok (.iconst 0, 1) := by decide +kernel
theorem d_L_sort_2 : decode b_L_sort 2 = .ok (.aload_n 0, 1) := by decide +kernel
theorem d_L_sort_3 : decode b_L_sort 3 = .ok (.iload_n 1, 1) := by decide +kernel
theorem d_L_sort_4 : decode b_L_sort 4 = .ok (.invokevirtual 33, 3) := by decide +kernel
theorem d_L_sort_7 : decode b_L_sort 7 = .ok (.i2l, 1) := by decide +kernel
theorem d_L_sort_8 : decode b_L_sort 8 = .ok (.lastore, 1) := by decide +kernel
theorem d_L_sort_9 : decode b_L_sort 9 = .ok (.goto 6, 3) := by decide +kernel
theorem d_L_sort_12 : decode b_L_sort 12 = .ok (.astore_n 3, 1) := by decide +kernel
theorem d_L_sort_13 : decode b_L_sort 13 = .ok (.iconst 1, 1) := by decide +kernel
theorem d_L_sort_14 : decode b_L_sort 14 = .ok (.ireturn, 1) := by decide +kernel
theorem d_L_sort_15 : decode b_L_sort 15 = .ok (.iconst 0, 1) := by decide +kernel
theorem d_L_sort_16 : decode b_L_sort 16 = .ok (.ireturn, 1) := by decide +kernel
theorem d_L_law_0 : decode code 0 = .ok (.new 8, 3) := by decide +kernel
theorem d_L_law_3 : decode code 3 = .ok (.dup, 1) := by decide +kernel
theorem d_L_law_4 : decode code 4 = .ok (.invokespecial 36, 3) := by decide +kernel
theorem d_L_law_7 : decode code 7 = .ok (.astore_n 1, 1) := by decide +kernel
theorem d_L_law_8 : decode code 8 = .ok (.new 37, 3) := by decide +kernel
theorem d_L_law_11 : decode code 11 = .ok (.dup, 1) := by decide +kernel
theorem d_L_law_12 : decode code 12 = .ok (.invokespecial 39, 3) := by decide +kernel
theorem d_L_law_15 : decode code 15 = .ok (.astore_n 2, 1) := by decide +kernel
theorem d_L_law_16 : decode code 16 = .ok (.iconst 1, 1) := by decide +kernel
theorem d_L_law_17 : decode code 17 = .ok (.newarray .long, 2) := by decide +kernel
theorem d_L_law_19 : decode code 19 = .ok (.astore_n 3, 1) := by decide +kernel
theorem d_L_law_20 : decode code 20 = .ok (.iconst 0, 1) := by decide +kernel
theorem d_L_law_21 : decode code 21 = .ok (.istore 4, 2) := by decide +kernel
theorem d_L_law_23 : decode code 23 = .ok (.iload 4, 2) := by decide +kernel
theorem d_L_law_25 : decode code 25 = .ok (.aload_n 0, 1) := by decide +kernel
theorem d_L_law_26 : decode code 26 = .ok (.arraylength, 1) := by decide +kernel
theorem d_L_law_27 : decode code 27 = .ok (.bipush 6, 2) := by decide +kernel
theorem d_L_law_29 : decode code 29 = .ok (.isub, 1) := by decide +kernel
theorem d_L_law_30 : decode code 30 = .ok (.if_icmp .gt 510, 3) := by decide +kernel
theorem d_L_law_33 : decode code 33 = .ok (.aload_n 0, 1) := by decide +kernel
theorem d_L_law_34 : decode code 34 = .ok (.iload 4, 2) := by decide +kernel
theorem d_L_law_36 : decode code 36 = .ok (.iaload, 1) := by decide +kernel
theorem d_L_law_37 : decode code 37 = .ok (.bipush 7, 2) := by decide +kernel
theorem d_L_law_39 : decode code 39 = .ok (.iand, 1) := by decide +kernel
theorem d_L_law_40 : decode code 40 = .ok (.tableswitch 494 0 7 #[48, 152, 208, 221, 289, 357, 413, 469], 48) := by decide +kernel
theorem d_L_law_88 : decode code 88 = .ok (.aload_n 1, 1) := by decide +kernel
theorem d_L_law_89 : decode code 89 = .ok (.aload_n 0, 1) := by decide +kernel
theorem d_L_law_90 : decode code 90 = .ok (.iload 4, 2) := by decide +kernel
theorem d_L_law_92 : decode code 92 = .ok (.iconst 1, 1) := by decide +kernel
theorem d_L_law_93 : decode code 93 = .ok (.iadd, 1) := by decide +kernel
theorem d_L_law_94 : decode code 94 = .ok (.iaload, 1) := by decide +kernel
theorem d_L_law_95 : decode code 95 = .ok (.aload_n 0, 1) := by decide +kernel
theorem d_L_law_96 : decode code 96 = .ok (.iload 4, 2) := by decide +kernel
theorem d_L_law_98 : decode code 98 = .ok (.iconst 2, 1) := by decide +kernel
theorem d_L_law_99 : decode code 99 = .ok (.iadd, 1) := by decide +kernel
theorem d_L_law_100 : decode code 100 = .ok (.iaload, 1) := by decide +kernel
theorem d_L_law_101 : decode code 101 = .ok (.aload_n 0, 1) := by decide +kernel
theorem d_L_law_102 : decode code 102 = .ok (.iload 4, 2) := by decide +kernel
theorem d_L_law_104 : decode code 104 = .ok (.iconst 3, 1) := by decide +kernel
theorem d_L_law_105 : decode code 105 = .ok (.iadd, 1) := by decide +kernel
theorem d_L_law_106 : decode code 106 = .ok (.iaload, 1) := by decide +kernel
theorem d_L_law_107 : decode code 107 = .ok (.aload_n 0, 1) := by decide +kernel
theorem d_L_law_108 : decode code 108 = .ok (.iload 4, 2) := by decide +kernel
theorem d_L_law_110 : decode code 110 = .ok (.iconst 4, 1) := by decide +kernel
theorem d_L_law_111 : decode code 111 = .ok (.iadd, 1) := by decide +kernel
theorem d_L_law_112 : decode code 112 = .ok (.iaload, 1) := by decide +kernel
theorem d_L_law_113 : decode code 113 = .ok (.aload_n 0, 1) := by decide +kernel
theorem d_L_law_114 : decode code 114 = .ok (.iload 4, 2) := by decide +kernel
theorem d_L_law_116 : decode code 116 = .ok (.iconst 5, 1) := by decide +kernel
theorem d_L_law_117 : decode code 117 = .ok (.iadd, 1) := by decide +kernel
theorem d_L_law_118 : decode code 118 = .ok (.iaload, 1) := by decide +kernel
theorem d_L_law_119 : decode code 119 = .ok (.aload_n 3, 1) := by decide +kernel
theorem d_L_law_120 : decode code 120 = .ok (.invokestatic 40, 3) := by decide +kernel
theorem d_L_law_123 : decode code 123 = .ok (.istore 5, 2) := by decide +kernel
theorem d_L_law_125 : decode code 125 = .ok (.aload_n 2, 1) := by decide +kernel
theorem d_L_law_126 : decode code 126 = .ok (.aload_n 0, 1) := by decide +kernel
theorem d_L_law_127 : decode code 127 = .ok (.iload 4, 2) := by decide +kernel
theorem d_L_law_129 : decode code 129 = .ok (.iconst 1, 1) := by decide +kernel
theorem d_L_law_130 : decode code 130 = .ok (.iadd, 1) := by decide +kernel
theorem d_L_law_131 : decode code 131 = .ok (.iaload, 1) := by decide +kernel
theorem d_L_law_132 : decode code 132 = .ok (.aload_n 0, 1) := by decide +kernel
theorem d_L_law_133 : decode code 133 = .ok (.iload 4, 2) := by decide +kernel
theorem d_L_law_135 : decode code 135 = .ok (.iconst 2, 1) := by decide +kernel
theorem d_L_law_136 : decode code 136 = .ok (.iadd, 1) := by decide +kernel
theorem d_L_law_137 : decode code 137 = .ok (.iaload, 1) := by decide +kernel
theorem d_L_law_138 : decode code 138 = .ok (.aload_n 0, 1) := by decide +kernel
theorem d_L_law_139 : decode code 139 = .ok (.iload 4, 2) := by decide +kernel
theorem d_L_law_141 : decode code 141 = .ok (.iconst 3, 1) := by decide +kernel
theorem d_L_law_142 : decode code 142 = .ok (.iadd, 1) := by decide +kernel
theorem d_L_law_143 : decode code 143 = .ok (.iaload, 1) := by decide +kernel
theorem d_L_law_144 : decode code 144 = .ok (.aload_n 0, 1) := by decide +kernel
theorem d_L_law_145 : decode code 145 = .ok (.iload 4, 2) := by decide +kernel
theorem d_L_law_147 : decode code 147 = .ok (.iconst 4, 1) := by decide +kernel
theorem d_L_law_148 : decode code 148 = .ok (.iadd, 1) := by decide +kernel
theorem d_L_law_149 : decode code 149 = .ok (.iaload, 1) := by decide +kernel
theorem d_L_law_150 : decode code 150 = .ok (.aload_n 0, 1) := by decide +kernel
theorem d_L_law_151 : decode code 151 = .ok (.iload 4, 2) := by decide +kernel
theorem d_L_law_153 : decode code 153 = .ok (.iconst 5, 1) := by decide +kernel
theorem d_L_law_154 : decode code 154 = .ok (.iadd, 1) := by decide +kernel
theorem d_L_law_155 : decode code 155 = .ok (.iaload, 1) := by decide +kernel
theorem d_L_law_156 : decode code 156 = .ok (.invokevirtual 45, 3) := by decide +kernel
theorem d_L_law_159 : decode code 159 = .ok (.istore 6, 2) := by decide +kernel
theorem d_L_law_161 : decode code 161 = .ok (.aload_n 2, 1) := by decide +kernel
theorem d_L_law_162 : decode code 162 = .ok (.invokevirtual 46, 3) := by decide +kernel
theorem d_L_law_165 : decode code 165 = .ok (.iload 5, 2) := by decide +kernel
theorem d_L_law_167 : decode code 167 = .ok (.if_icmp .eq 5, 3) := by decide +kernel
theorem d_L_law_170 : decode code 170 = .ok (.iconst 0, 1) := by decide +kernel
theorem d_L_law_171 : decode code 171 = .ok (.ireturn, 1) := by decide +kernel
theorem d_L_law_172 : decode code 172 = .ok (.iload 5, 2) := by decide +kernel
theorem d_L_law_174 : decode code 174 = .ok (.ifCond .ne 15, 3) := by decide +kernel
theorem d_L_law_177 : decode code 177 = .ok (.aload_n 3, 1) := by decide +kernel
theorem d_L_law_178 : decode code 178 = .ok (.iconst 0, 1) := by decide +kernel
theorem d_L_law_179 : decode code 179 = .ok (.laload, 1) := by decide +kernel
theorem d_L_law_180 : decode code 180 = .ok (.iload 6, 2) := by decide +kernel
theorem d_L_law_182 : decode code 182 = .ok (.i2l, 1) := by decide +kernel
theorem d_L_law_183 : decode code 183 = .ok (.lcmp, 1) := by decide +kernel
theorem d_L_law_184 : decode code 184 = .ok (.ifCond .eq 5, 3) := by decide +kernel
theorem d_L_law_187 : decode code 187 = .ok (.iconst 0, 1) := by decide +kernel
theorem d_L_law_188 : decode code 188 = .ok (.ireturn, 1) := by decide +kernel
theorem d_L_law_189 : decode code 189 = .ok (.goto 345, 3) := by decide +kernel
theorem d_L_law_192 : decode code 192 = .ok (.aload_n 1, 1) := by decide +kernel
theorem d_L_law_193 : decode code 193 = .ok (.aload_n 0, 1) := by decide +kernel
theorem d_L_law_194 : decode code 194 = .ok (.iload 4, 2) := by decide +kernel
theorem d_L_law_196 : decode code 196 = .ok (.iconst 1, 1) := by decide +kernel
theorem d_L_law_197 : decode code 197 = .ok (.iadd, 1) := by decide +kernel
theorem d_L_law_198 : decode code 198 = .ok (.iaload, 1) := by decide +kernel
theorem d_L_law_199 : decode code 199 = .ok (.aload_n 3, 1) := by decide +kernel
theorem d_L_law_200 : decode code 200 = .ok (.invokestatic 50, 3) := by decide +kernel
theorem d_L_law_203 : decode code 203 = .ok (.istore 5, 2) := by decide +kernel
theorem d_L_law_205 : decode code 205 = .ok (.aload_n 2, 1) := by decide +kernel
theorem d_L_law_206 : decode code 206 = .ok (.aload_n 0, 1) := by decide +kernel
theorem d_L_law_207 : decode code 207 = .ok (.iload 4, 2) := by decide +kernel
theorem d_L_law_209 : decode code 209 = .ok (.iconst 1, 1) := by decide +kernel
theorem d_L_law_210 : decode code 210 = .ok (.iadd, 1) := by decide +kernel
theorem d_L_law_211 : decode code 211 = .ok (.iaload, 1) := by decide +kernel
theorem d_L_law_212 : decode code 212 = .ok (.invokevirtual 53, 3) := by decide +kernel
theorem d_L_law_215 : decode code 215 = .ok (.istore 6, 2) := by decide +kernel
theorem d_L_law_217 : decode code 217 = .ok (.aload_n 2, 1) := by decide +kernel
theorem d_L_law_218 : decode code 218 = .ok (.invokevirtual 46, 3) := by decide +kernel
theorem d_L_law_221 : decode code 221 = .ok (.iload 5, 2) := by decide +kernel
theorem d_L_law_223 : decode code 223 = .ok (.if_icmp .eq 5, 3) := by decide +kernel
theorem d_L_law_226 : decode code 226 = .ok (.iconst 0, 1) := by decide +kernel
theorem d_L_law_227 : decode code 227 = .ok (.ireturn, 1) := by decide +kernel
theorem d_L_law_228 : decode code 228 = .ok (.iload 5, 2) := by decide +kernel
theorem d_L_law_230 : decode code 230 = .ok (.ifCond .ne 15, 3) := by decide +kernel
theorem d_L_law_233 : decode code 233 = .ok (.aload_n 3, 1) := by decide +kernel
theorem d_L_law_234 : decode code 234 = .ok (.iconst 0, 1) := by decide +kernel
theorem d_L_law_235 : decode code 235 = .ok (.laload, 1) := by decide +kernel
theorem d_L_law_236 : decode code 236 = .ok (.iload 6, 2) := by decide +kernel
theorem d_L_law_238 : decode code 238 = .ok (.i2l, 1) := by decide +kernel
theorem d_L_law_239 : decode code 239 = .ok (.lcmp, 1) := by decide +kernel
theorem d_L_law_240 : decode code 240 = .ok (.ifCond .eq 5, 3) := by decide +kernel
theorem d_L_law_243 : decode code 243 = .ok (.iconst 0, 1) := by decide +kernel
theorem d_L_law_244 : decode code 244 = .ok (.ireturn, 1) := by decide +kernel
theorem d_L_law_245 : decode code 245 = .ok (.goto 289, 3) := by decide +kernel
theorem d_L_law_248 : decode code 248 = .ok (.aload_n 1, 1) := by decide +kernel
theorem d_L_law_249 : decode code 249 = .ok (.invokevirtual 54, 3) := by decide +kernel
theorem d_L_law_252 : decode code 252 = .ok (.aload_n 2, 1) := by decide +kernel
theorem d_L_law_253 : decode code 253 = .ok (.invokevirtual 57, 3) := by decide +kernel
theorem d_L_law_256 : decode code 256 = .ok (.if_icmp .eq 278, 3) := by decide +kernel
theorem d_L_law_259 : decode code 259 = .ok (.iconst 0, 1) := by decide +kernel
theorem d_L_law_260 : decode code 260 = .ok (.ireturn, 1) := by decide +kernel
theorem d_L_law_261 : decode code 261 = .ok (.aload_n 1, 1) := by decide +kernel
theorem d_L_law_262 : decode code 262 = .ok (.aload_n 0, 1) := by decide +kernel
theorem d_L_law_263 : decode code 263 = .ok (.iload 4, 2) := by decide +kernel
theorem d_L_law_265 : decode code 265 = .ok (.iconst 1, 1) := by decide +kernel
