theorem d_M_sortOf_159 : decode b_M_sortOf 159 = .ok (.iload_n 0, 1) := by decide +kernel
theorem d_M_sortOf_160 : decode b_M_sortOf 160 = .ok (.bipush 39, 2) := by decide +kernel
theorem d_M_sortOf_162 : decode b_M_sortOf 162 = .ok (.if_icmp .eq 16, 3) := by decide +kernel
theorem d_M_sortOf_165 : decode b_M_sortOf 165 = .ok (.iload_n 0, 1) := by decide +kernel
theorem d_M_sortOf_166 : decode b_M_sortOf 166 = .ok (.bipush 46, 2) := by decide +kernel
theorem d_M_sortOf_168 : decode b_M_sortOf 168 = .ok (.if_icmp .eq 10, 3) := by decide +kernel
theorem d_M_sortOf_171 : decode b_M_sortOf 171 = .ok (.iload_n 0, 1) := by decide +kernel
theorem d_M_sortOf_172 : decode b_M_sortOf 172 = .ok (.sipush 8217, 3) := by decide +kernel
theorem d_M_sortOf_175 : decode b_M_sortOf 175 = .ok (.if_icmp .ne 8, 3) := by decide +kernel
theorem d_M_sortOf_178 : decode b_M_sortOf 178 = .ok (.bipush 6, 2) := by decide +kernel
theorem d_M_sortOf_180 : decode b_M_sortOf 180 = .ok (.goto 4, 3) := by decide +kernel
theorem d_M_sortOf_183 : decode b_M_sortOf 183 = .ok (.iconst 0, 1) := by decide +kernel
theorem d_M_sortOf_184 : decode b_M_sortOf 184 = .ok (.ireturn, 1) := by decide +kernel
theorem d_M_inWord_0 : decode b_M_inWord 0 = .ok (.iload_n 0, 1) := by decide +kernel
theorem d_M_inWord_1 : decode b_M_inWord 1 = .ok (.iconst 1, 1) := by decide +kernel
theorem d_M_inWord_2 : decode b_M_inWord 2 = .ok (.if_icmp .eq 13, 3) := by decide +kernel
theorem d_M_inWord_5 : decode b_M_inWord 5 = .ok (.iload_n 0, 1) := by decide +kernel
theorem d_M_inWord_6 : decode b_M_inWord 6 = .ok (.iconst 2, 1) := by decide +kernel
theorem d_M_inWord_7 : decode b_M_inWord 7 = .ok (.if_icmp .eq 8, 3) := by decide +kernel
theorem d_M_inWord_10 : decode b_M_inWord 10 = .ok (.iload_n 0, 1) := by decide +kernel
theorem d_M_inWord_11 : decode b_M_inWord 11 = .ok (.iconst 3, 1) := by decide +kernel
theorem d_M_inWord_12 : decode b_M_inWord 12 = .ok (.if_icmp .ne 7, 3) := by decide +kernel
theorem d_M_inWord_15 : decode b_M_inWord 15 = .ok (.iconst 1, 1) := by decide +kernel
theorem d_M_inWord_16 : decode b_M_inWord 16 = .ok (.goto 4, 3) := by decide +kernel
theorem d_M_inWord_19 : decode b_M_inWord 19 = .ok (.iconst 0, 1) := by decide +kernel
theorem d_M_inWord_20 : decode b_M_inWord 20 = .ok (.ireturn, 1) := by decide +kernel
theorem d_M_further_0 : decode b_M_further 0 = .ok (.aload_n 0, 1) := by decide +kernel
theorem d_M_further_1 : decode b_M_further 1 = .ok (.iload_n 1, 1) := by decide +kernel
theorem d_M_further_2 : decode b_M_further 2 = .ok (.iaload, 1) := by decide +kernel
theorem d_M_further_3 : decode b_M_further 3 = .ok (.invokestatic 227, 3) := by decide +kernel
theorem d_M_further_6 : decode b_M_further 6 = .ok (.istore_n 3, 1) := by decide +kernel
theorem d_M_further_7 : decode b_M_further 7 = .ok (.iload_n 1, 1) := by decide +kernel
theorem d_M_further_8 : decode b_M_further 8 = .ok (.iconst 1, 1) := by decide +kernel
theorem d_M_further_9 : decode b_M_further 9 = .ok (.iadd, 1) := by decide +kernel
theorem d_M_further_10 : decode b_M_further 10 = .ok (.iload_n 2, 1) := by decide +kernel
theorem d_M_further_11 : decode b_M_further 11 = .ok (.if_icmp .ge 14, 3) := by decide +kernel
theorem d_M_further_14 : decode b_M_further 14 = .ok (.aload_n 0, 1) := by decide +kernel
theorem d_M_further_15 : decode b_M_further 15 = .ok (.iload_n 1, 1) := by decide +kernel
theorem d_M_further_16 : decode b_M_further 16 = .ok (.iconst 1, 1) := by decide +kernel
theorem d_M_further_17 : decode b_M_further 17 = .ok (.iadd, 1) := by decide +kernel
theorem d_M_further_18 : decode b_M_further 18 = .ok (.iaload, 1) := by decide +kernel
theorem d_M_further_19 : decode b_M_further 19 = .ok (.invokestatic 227, 3) := by decide +kernel
theorem d_M_further_22 : decode b_M_further 22 = .ok (.goto 4, 3) := by decide +kernel
theorem d_M_further_25 : decode b_M_further 25 = .ok (.iconst 0, 1) := by decide +kernel
theorem d_M_further_26 : decode b_M_further 26 = .ok (.istore 4, 2) := by decide +kernel
theorem d_M_further_28 : decode b_M_further 28 = .ok (.iload_n 1, 1) := by decide +kernel
theorem d_M_further_29 : decode b_M_further 29 = .ok (.iconst 2, 1) := by decide +kernel
theorem d_M_further_30 : decode b_M_further 30 = .ok (.iadd, 1) := by decide +kernel
theorem d_M_further_31 : decode b_M_further 31 = .ok (.iload_n 2, 1) := by decide +kernel
theorem d_M_further_32 : decode b_M_further 32 = .ok (.if_icmp .ge 14, 3) := by decide +kernel
theorem d_M_further_35 : decode b_M_further 35 = .ok (.aload_n 0, 1) := by decide +kernel
theorem d_M_further_36 : decode b_M_further 36 = .ok (.iload_n 1, 1) := by decide +kernel
theorem d_M_further_37 : decode b_M_further 37 = .ok (.iconst 2, 1) := by decide +kernel
theorem d_M_further_38 : decode b_M_further 38 = .ok (.iadd, 1) := by decide +kernel
theorem d_M_further_39 : decode b_M_further 39 = .ok (.iaload, 1) := by decide +kernel
theorem d_M_further_40 : decode b_M_further 40 = .ok (.invokestatic 227, 3) := by decide +kernel
theorem d_M_further_43 : decode b_M_further 43 = .ok (.goto 4, 3) := by decide +kernel
theorem d_M_further_46 : decode b_M_further 46 = .ok (.iconst 0, 1) := by decide +kernel
theorem d_M_further_47 : decode b_M_further 47 = .ok (.istore 5, 2) := by decide +kernel
theorem d_M_further_49 : decode b_M_further 49 = .ok (.iload_n 3, 1) := by decide +kernel
theorem d_M_further_50 : decode b_M_further 50 = .ok (.invokestatic 231, 3) := by decide +kernel
theorem d_M_further_53 : decode b_M_further 53 = .ok (.ifCond .eq 13, 3) := by decide +kernel
theorem d_M_further_56 : decode b_M_further 56 = .ok (.iload 4, 2) := by decide +kernel
theorem d_M_further_58 : decode b_M_further 58 = .ok (.invokestatic 231, 3) := by decide +kernel
theorem d_M_further_61 : decode b_M_further 61 = .ok (.ifCond .eq 5, 3) := by decide +kernel
theorem d_M_further_64 : decode b_M_further 64 = .ok (.iconst 1, 1) := by decide +kernel
theorem d_M_further_65 : decode b_M_further 65 = .ok (.ireturn, 1) := by decide +kernel
theorem d_M_further_66 : decode b_M_further 66 = .ok (.iload_n 3, 1) := by decide +kernel
theorem d_M_further_67 : decode b_M_further 67 = .ok (.iconst 1, 1) := by decide +kernel
theorem d_M_further_68 : decode b_M_further 68 = .ok (.if_icmp .ne 24, 3) := by decide +kernel
theorem d_M_further_71 : decode b_M_further 71 = .ok (.iload 5, 2) := by decide +kernel
theorem d_M_further_73 : decode b_M_further 73 = .ok (.iconst 1, 1) := by decide +kernel
theorem d_M_further_74 : decode b_M_further 74 = .ok (.if_icmp .ne 18, 3) := by decide +kernel
theorem d_M_further_77 : decode b_M_further 77 = .ok (.iload 4, 2) := by decide +kernel
theorem d_M_further_79 : decode b_M_further 79 = .ok (.iconst 4, 1) := by decide +kernel
theorem d_M_further_80 : decode b_M_further 80 = .ok (.if_icmp .eq 10, 3) := by decide +kernel
theorem d_M_further_83 : decode b_M_further 83 = .ok (.iload 4, 2) := by decide +kernel
theorem d_M_further_85 : decode b_M_further 85 = .ok (.bipush 6, 2) := by decide +kernel
theorem d_M_further_87 : decode b_M_further 87 = .ok (.if_icmp .ne 5, 3) := by decide +kernel
theorem d_M_further_90 : decode b_M_further 90 = .ok (.iconst 2, 1) := by decide +kernel
theorem d_M_further_91 : decode b_M_further 91 = .ok (.ireturn, 1) := by decide +kernel
theorem d_M_further_92 : decode b_M_further 92 = .ok (.iload_n 3, 1) := by decide +kernel
theorem d_M_further_93 : decode b_M_further 93 = .ok (.iconst 2, 1) := by decide +kernel
theorem d_M_further_94 : decode b_M_further 94 = .ok (.if_icmp .ne 24, 3) := by decide +kernel
theorem d_M_further_97 : decode b_M_further 97 = .ok (.iload 5, 2) := by decide +kernel
theorem d_M_further_99 : decode b_M_further 99 = .ok (.iconst 2, 1) := by decide +kernel
theorem d_M_further_100 : decode b_M_further 100 = .ok (.if_icmp .ne 18, 3) := by decide +kernel
theorem d_M_further_103 : decode b_M_further 103 = .ok (.iload 4, 2) := by decide +kernel
theorem d_M_further_105 : decode b_M_further 105 = .ok (.iconst 5, 1) := by decide +kernel
theorem d_M_further_106 : decode b_M_further 106 = .ok (.if_icmp .eq 10, 3) := by decide +kernel
theorem d_M_further_109 : decode b_M_further 109 = .ok (.iload 4, 2) := by decide +kernel
theorem d_M_further_111 : decode b_M_further 111 = .ok (.bipush 6, 2) := by decide +kernel
theorem d_M_further_113 : decode b_M_further 113 = .ok (.if_icmp .ne 5, 3) := by decide +kernel
theorem d_M_further_116 : decode b_M_further 116 = .ok (.iconst 2, 1) := by decide +kernel
theorem d_M_further_117 : decode b_M_further 117 = .ok (.ireturn, 1) := by decide +kernel
theorem d_M_further_118 : decode b_M_further 118 = .ok (.iconst 0, 1) := by decide +kernel
theorem d_M_further_119 : decode b_M_further 119 = .ok (.ireturn, 1) := by decide +kernel
theorem d_M_token_aIII_0 : decode b_M_token_aIII 0 = .ok (.aload_n 0, 1) := by decide +kernel
theorem d_M_token_aIII_1 : decode b_M_token_aIII 1 = .ok (.iload_n 3, 1) := by decide +kernel
theorem d_M_token_aIII_2 : decode b_M_token_aIII 2 = .ok (.iload_n 2, 1) := by decide +kernel
theorem d_M_token_aIII_3 : decode b_M_token_aIII 3 = .ok (.isub, 1) := by decide +kernel
theorem d_M_token_aIII_4 : decode b_M_token_aIII 4 = .ok (.putfield 254, 3) := by decide +kernel
theorem d_M_token_aIII_7 : decode b_M_token_aIII 7 = .ok (.iconst 0, 1) := by decide +kernel
theorem d_M_token_aIII_8 : decode b_M_token_aIII 8 = .ok (.istore 4, 2) := by decide +kernel
theorem d_M_token_aIII_10 : decode b_M_token_aIII 10 = .ok (.iload 4, 2) := by decide +kernel
theorem d_M_token_aIII_12 : decode b_M_token_aIII 12 = .ok (.aload_n 0, 1) := by decide +kernel
theorem d_M_token_aIII_13 : decode b_M_token_aIII 13 = .ok (.getfield 254, 3) := by decide +kernel
theorem d_M_token_aIII_16 : decode b_M_token_aIII 16 = .ok (.if_icmp .ge 22, 3) := by decide +kernel
theorem d_M_token_aIII_19 : decode b_M_token_aIII 19 = .ok (.aload_n 0, 1) := by decide +kernel
theorem d_M_token_aIII_20 : decode b_M_token_aIII 20 = .ok (.getfield 207, 3) := by decide +kernel
theorem d_M_token_aIII_23 : decode b_M_token_aIII 23 = .ok (.iload 4, 2) := by decide +kernel
theorem d_M_token_aIII_25 : decode b_M_token_aIII 25 = .ok (.aload_n 1, 1) := by decide +kernel
theorem d_M_token_aIII_26 : decode b_M_token_aIII 26 = .ok (.iload_n 2, 1) := by decide +kernel
theorem d_M_token_aIII_27 : decode b_M_token_aIII 27 = .ok (.iload 4, 2) := by decide +kernel
theorem d_M_token_aIII_29 : decode b_M_token_aIII 29 = .ok (.iadd, 1) := by decide +kernel
theorem d_M_token_aIII_30 : decode b_M_token_aIII 30 = .ok (.iaload, 1) := by decide +kernel
theorem d_M_token_aIII_31 : decode b_M_token_aIII 31 = .ok (.iastore, 1) := by decide +kernel
theorem d_M_token_aIII_32 : decode b_M_token_aIII 32 = .ok (.iinc 4 1, 3) := by decide +kernel
theorem d_M_token_aIII_35 : decode b_M_token_aIII 35 = .ok (.goto (-25), 3) := by decide +kernel
theorem d_M_token_aIII_38 : decode b_M_token_aIII 38 = .ok (.aload_n 0, 1) := by decide +kernel
theorem d_M_token_aIII_39 : decode b_M_token_aIII 39 = .ok (.getfield 237, 3) := by decide +kernel
theorem d_M_token_aIII_42 : decode b_M_token_aIII 42 = .ok (.istore 4, 2) := by decide +kernel
theorem d_M_token_aIII_44 : decode b_M_token_aIII 44 = .ok (.aload_n 0, 1) := by decide +kernel
theorem d_M_token_aIII_45 : decode b_M_token_aIII 45 = .ok (.dup, 1) := by decide +kernel
theorem d_M_token_aIII_46 : decode b_M_token_aIII 46 = .ok (.getfield 237, 3) := by decide +kernel
theorem d_M_token_aIII_49 : decode b_M_token_aIII 49 = .ok (.iconst 1, 1) := by decide +kernel
theorem d_M_token_aIII_50 : decode b_M_token_aIII 50 = .ok (.iadd, 1) := by decide +kernel
theorem d_M_token_aIII_51 : decode b_M_token_aIII 51 = .ok (.putfield 237, 3) := by decide +kernel
theorem d_M_token_aIII_54 : decode b_M_token_aIII 54 = .ok (.aload_n 0, 1) := by decide +kernel
theorem d_M_token_aIII_55 : decode b_M_token_aIII 55 = .ok (.getfield 254, 3) := by decide +kernel
theorem d_M_token_aIII_58 : decode b_M_token_aIII 58 = .ok (.iconst 2, 1) := by decide +kernel
theorem d_M_token_aIII_59 : decode b_M_token_aIII 59 = .ok (.if_icmp .le 78, 3) := by decide +kernel
theorem d_M_token_aIII_62 : decode b_M_token_aIII 62 = .ok (.aload_n 0, 1) := by decide +kernel
theorem d_M_token_aIII_63 : decode b_M_token_aIII 63 = .ok (.getfield 207, 3) := by decide +kernel
theorem d_M_token_aIII_66 : decode b_M_token_aIII 66 = .ok (.aload_n 0, 1) := by decide +kernel
theorem d_M_token_aIII_67 : decode b_M_token_aIII 67 = .ok (.getfield 254, 3) := by decide +kernel
theorem d_M_token_aIII_70 : decode b_M_token_aIII 70 = .ok (.iconst 1, 1) := by decide +kernel
theorem d_M_token_aIII_71 : decode b_M_token_aIII 71 = .ok (.isub, 1) := by decide +kernel
theorem d_M_token_aIII_72 : decode b_M_token_aIII 72 = .ok (.iaload, 1) := by decide +kernel
theorem d_M_token_aIII_73 : decode b_M_token_aIII 73 = .ok (.bipush 115, 2) := by decide +kernel
theorem d_M_token_aIII_75 : decode b_M_token_aIII 75 = .ok (.if_icmp .eq 19, 3) := by decide +kernel
theorem d_M_token_aIII_78 : decode b_M_token_aIII 78 = .ok (.aload_n 0, 1) := by decide +kernel
theorem d_M_token_aIII_79 : decode b_M_token_aIII 79 = .ok (.getfield 207, 3) := by decide +kernel
theorem d_M_token_aIII_82 : decode b_M_token_aIII 82 = .ok (.aload_n 0, 1) := by decide +kernel
theorem d_M_token_aIII_83 : decode b_M_token_aIII 83 = .ok (.getfield 254, 3) := by decide +kernel
theorem d_M_token_aIII_86 : decode b_M_token_aIII 86 = .ok (.iconst 1, 1) := by decide +kernel
theorem d_M_token_aIII_87 : decode b_M_token_aIII 87 = .ok (.isub, 1) := by decide +kernel
theorem d_M_token_aIII_88 : decode b_M_token_aIII 88 = .ok (.iaload, 1) := by decide +kernel
theorem d_M_token_aIII_89 : decode b_M_token_aIII 89 = .ok (.bipush 83, 2) := by decide +kernel
theorem d_M_token_aIII_91 : decode b_M_token_aIII 91 = .ok (.if_icmp .ne 46, 3) := by decide +kernel
theorem d_M_token_aIII_94 : decode b_M_token_aIII 94 = .ok (.aload_n 0, 1) := by decide +kernel
theorem d_M_token_aIII_95 : decode b_M_token_aIII 95 = .ok (.getfield 207, 3) := by decide +kernel
theorem d_M_token_aIII_98 : decode b_M_token_aIII 98 = .ok (.aload_n 0, 1) := by decide +kernel
theorem d_M_token_aIII_99 : decode b_M_token_aIII 99 = .ok (.getfield 254, 3) := by decide +kernel
theorem d_M_token_aIII_102 : decode b_M_token_aIII 102 = .ok (.iconst 2, 1) := by decide +kernel
theorem d_M_token_aIII_103 : decode b_M_token_aIII 103 = .ok (.isub, 1) := by decide +kernel
theorem d_M_token_aIII_104 : decode b_M_token_aIII 104 = .ok (.iaload, 1) := by decide +kernel
theorem d_M_token_aIII_105 : decode b_M_token_aIII 105 = .ok (.bipush 39, 2) := by decide +kernel
theorem d_M_token_aIII_107 : decode b_M_token_aIII 107 = .ok (.if_icmp .eq 20, 3) := by decide +kernel
theorem d_M_token_aIII_110 : decode b_M_token_aIII 110 = .ok (.aload_n 0, 1) := by decide +kernel
theorem d_M_token_aIII_111 : decode b_M_token_aIII 111 = .ok (.getfield 207, 3) := by decide +kernel
theorem d_M_token_aIII_114 : decode b_M_token_aIII 114 = .ok (.aload_n 0, 1) := by decide +kernel
theorem d_M_token_aIII_115 : decode b_M_token_aIII 115 = .ok (.getfield 254, 3) := by decide +kernel
theorem d_M_token_aIII_118 : decode b_M_token_aIII 118 = .ok (.iconst 2, 1) := by decide +kernel
theorem d_M_token_aIII_119 : decode b_M_token_aIII 119 = .ok (.isub, 1) := by decide +kernel
theorem d_M_token_aIII_120 : decode b_M_token_aIII 120 = .ok (.iaload, 1) := by decide +kernel
theorem d_M_token_aIII_121 : decode b_M_token_aIII 121 = .ok (.sipush 8217, 3) := by decide +kernel
theorem d_M_token_aIII_124 : decode b_M_token_aIII 124 = .ok (.if_icmp .ne 13, 3) := by decide +kernel
theorem d_M_token_aIII_127 : decode b_M_token_aIII 127 = .ok (.aload_n 0, 1) := by decide +kernel
theorem d_M_token_aIII_128 : decode b_M_token_aIII 128 = .ok (.dup, 1) := by decide +kernel
theorem d_M_token_aIII_129 : decode b_M_token_aIII 129 = .ok (.getfield 254, 3) := by decide +kernel
theorem d_M_token_aIII_132 : decode b_M_token_aIII 132 = .ok (.iconst 2, 1) := by decide +kernel
theorem d_M_token_aIII_133 : decode b_M_token_aIII 133 = .ok (.isub, 1) := by decide +kernel
theorem d_M_token_aIII_134 : decode b_M_token_aIII 134 = .ok (.putfield 254, 3) := by decide +kernel
theorem d_M_token_aIII_137 : decode b_M_token_aIII 137 = .ok (.iconst 1, 1) := by decide +kernel
theorem d_M_token_aIII_138 : decode b_M_token_aIII 138 = .ok (.istore 5, 2) := by decide +kernel
theorem d_M_token_aIII_140 : decode b_M_token_aIII 140 = .ok (.iconst 0, 1) := by decide +kernel
theorem d_M_token_aIII_141 : decode b_M_token_aIII 141 = .ok (.istore 6, 2) := by decide +kernel
theorem d_M_token_aIII_143 : decode b_M_token_aIII 143 = .ok (.iload 6, 2) := by decide +kernel
theorem d_M_token_aIII_145 : decode b_M_token_aIII 145 = .ok (.aload_n 0, 1) := by decide +kernel
theorem d_M_token_aIII_146 : decode b_M_token_aIII 146 = .ok (.getfield 254, 3) := by decide +kernel
theorem d_M_token_aIII_149 : decode b_M_token_aIII 149 = .ok (.if_icmp .ge 53, 3) := by decide +kernel
theorem d_M_token_aIII_152 : decode b_M_token_aIII 152 = .ok (.aload_n 0, 1) := by decide +kernel
theorem d_M_token_aIII_153 : decode b_M_token_aIII 153 = .ok (.getfield 207, 3) := by decide +kernel
theorem d_M_token_aIII_156 : decode b_M_token_aIII 156 = .ok (.iload 6, 2) := by decide +kernel
theorem d_M_token_aIII_158 : decode b_M_token_aIII 158 = .ok (.aload_n 0, 1) := by decide +kernel
theorem d_M_token_aIII_159 : decode b_M_token_aIII 159 = .ok (.getfield 207, 3) := by decide +kernel
theorem d_M_token_aIII_162 : decode b_M_token_aIII 162 = .ok (.iload 6, 2) := by decide +kernel
theorem d_M_token_aIII_164 : decode b_M_token_aIII 164 = .ok (.iaload, 1) := by decide +kernel
theorem d_M_token_aIII_165 : decode b_M_token_aIII 165 = .ok (.invokestatic 257, 3) := by decide +kernel
theorem d_M_token_aIII_168 : decode b_M_token_aIII 168 = .ok (.iastore, 1) := by decide +kernel
theorem d_M_token_aIII_169 : decode b_M_token_aIII 169 = .ok (.aload_n 0, 1) := by decide +kernel
theorem d_M_token_aIII_170 : decode b_M_token_aIII 170 = .ok (.getfield 207, 3) := by decide +kernel
theorem d_M_token_aIII_173 : decode b_M_token_aIII 173 = .ok (.iload 6, 2) := by decide +kernel
theorem d_M_token_aIII_175 : decode b_M_token_aIII 175 = .ok (.iaload, 1) := by decide +kernel
theorem d_M_token_aIII_176 : decode b_M_token_aIII 176 = .ok (.bipush 97, 2) := by decide +kernel
theorem d_M_token_aIII_178 : decode b_M_token_aIII 178 = .ok (.if_icmp .lt 15, 3) := by decide +kernel
theorem d_M_token_aIII_181 : decode b_M_token_aIII 181 = .ok (.aload_n 0, 1) := by decide +kernel
theorem d_M_token_aIII_182 : decode b_M_token_aIII 182 = .ok (.getfield 207, 3) := by decide +kernel
theorem d_M_token_aIII_185 : decode b_M_token_aIII 185 = .ok (.iload 6, 2) := by decide +kernel
theorem d_M_token_aIII_187 : decode b_M_token_aIII 187 = .ok (.iaload, 1) := by decide +kernel
theorem d_M_token_aIII_188 : decode b_M_token_aIII 188 = .ok (.bipush 122, 2) := by decide +kernel
theorem d_M_token_aIII_190 : decode b_M_token_aIII 190 = .ok (.if_icmp .le 6, 3) := by decide +kernel
theorem d_M_token_aIII_193 : decode b_M_token_aIII 193 = .ok (.iconst 0, 1) := by decide +kernel
theorem d_M_token_aIII_194 : decode b_M_token_aIII 194 = .ok (.istore 5, 2) := by decide +kernel
theorem d_M_token_aIII_196 : decode b_M_token_aIII 196 = .ok (.iinc 6 1, 3) := by decide +kernel
theorem d_M_token_aIII_199 : decode b_M_token_aIII 199 = .ok (.goto (-56), 3) := by decide +kernel
theorem d_M_token_aIII_202 : decode b_M_token_aIII 202 = .ok (.aload_n 0, 1) := by decide +kernel
theorem d_M_token_aIII_203 : decode b_M_token_aIII 203 = .ok (.getfield 75, 3) := by decide +kernel
theorem d_M_token_aIII_206 : decode b_M_token_aIII 206 = .ok (.astore 6, 2) := by decide +kernel
theorem d_M_token_aIII_208 : decode b_M_token_aIII 208 = .ok (.aload 6, 2) := by decide +kernel
theorem d_M_token_aIII_210 : decode b_M_token_aIII 210 = .ok (.arraylength, 1) := by decide +kernel
theorem d_M_token_aIII_211 : decode b_M_token_aIII 211 = .ok (.istore 7, 2) := by decide +kernel
theorem d_M_token_aIII_213 : decode b_M_token_aIII 213 = .ok (.iconst 0, 1) := by decide +kernel
theorem d_M_token_aIII_214 : decode b_M_token_aIII 214 = .ok (.istore 8, 2) := by decide +kernel
theorem d_M_token_aIII_216 : decode b_M_token_aIII 216 = .ok (.iload 8, 2) := by decide +kernel
theorem d_M_token_aIII_218 : decode b_M_token_aIII 218 = .ok (.iload 7, 2) := by decide +kernel
theorem d_M_token_aIII_220 : decode b_M_token_aIII 220 = .ok (.if_icmp .ge 26, 3) := by decide +kernel
theorem d_M_token_aIII_223 : decode b_M_token_aIII 223 = .ok (.aload 6, 2) := by decide +kernel
theorem d_M_token_aIII_225 : decode b_M_token_aIII 225 = .ok (.iload 8, 2) := by decide +kernel
theorem d_M_token_aIII_227 : decode b_M_token_aIII 227 = .ok (.aaload, 1) := by decide +kernel
theorem d_M_token_aIII_228 : decode b_M_token_aIII 228 = .ok (.astore 9, 2) := by decide +kernel
theorem d_M_token_aIII_230 : decode b_M_token_aIII 230 = .ok (.aload_n 0, 1) := by decide +kernel
theorem d_M_token_aIII_231 : decode b_M_token_aIII 231 = .ok (.aload 9, 2) := by decide +kernel
theorem d_M_token_aIII_233 : decode b_M_token_aIII 233 = .ok (.invokevirtual 260, 3) := by decide +kernel
theorem d_M_token_aIII_236 : decode b_M_token_aIII 236 = .ok (.ifCond .eq 4, 3) := by decide +kernel
theorem d_M_token_aIII_239 : decode b_M_token_aIII 239 = .ok (.return_, 1) := by decide +kernel
theorem d_M_token_aIII_240 : decode b_M_token_aIII 240 = .ok (.iinc 8 1, 3) := by decide +kernel
theorem d_M_token_aIII_243 : decode b_M_token_aIII 243 = .ok (.goto (-27), 3) := by decide +kernel
theorem d_M_token_aIII_246 : decode b_M_token_aIII 246 = .ok (.iload 5, 2) := by decide +kernel
theorem d_M_token_aIII_248 : decode b_M_token_aIII 248 = .ok (.ifCond .eq 15, 3) := by decide +kernel
theorem d_M_token_aIII_251 : decode b_M_token_aIII 251 = .ok (.aload_n 0, 1) := by decide +kernel
theorem d_M_token_aIII_252 : decode b_M_token_aIII 252 = .ok (.getfield 254, 3) := by decide +kernel
theorem d_M_token_aIII_255 : decode b_M_token_aIII 255 = .ok (.iconst 2, 1) := by decide +kernel
theorem d_M_token_aIII_256 : decode b_M_token_aIII 256 = .ok (.if_icmp .le 7, 3) := by decide +kernel
theorem d_M_token_aIII_259 : decode b_M_token_aIII 259 = .ok (.aload_n 0, 1) := by decide +kernel
theorem d_M_token_aIII_260 : decode b_M_token_aIII 260 = .ok (.invokevirtual 263, 3) := by decide +kernel
theorem d_M_token_aIII_263 : decode b_M_token_aIII 263 = .ok (.aload_n 0, 1) := by decide +kernel
theorem d_M_token_aIII_264 : decode b_M_token_aIII 264 = .ok (.getfield 201, 3) := by decide +kernel
theorem d_M_token_aIII_267 : decode b_M_token_aIII 267 = .ok (.aload_n 0, 1) := by decide +kernel
theorem d_M_token_aIII_268 : decode b_M_token_aIII 268 = .ok (.getfield 234, 3) := by decide +kernel
theorem d_M_token_aIII_271 : decode b_M_token_aIII 271 = .ok (.iaload, 1) := by decide +kernel
theorem d_M_token_aIII_272 : decode b_M_token_aIII 272 = .ok (.istore 6, 2) := by decide +kernel
theorem d_M_token_aIII_274 : decode b_M_token_aIII 274 = .ok (.iconst 0, 1) := by decide +kernel
theorem d_M_token_aIII_275 : decode b_M_token_aIII 275 = .ok (.istore 7, 2) := by decide +kernel
theorem d_M_token_aIII_277 : decode b_M_token_aIII 277 = .ok (.iload 7, 2) := by decide +kernel
theorem d_M_token_aIII_279 : decode b_M_token_aIII 279 = .ok (.aload_n 0, 1) := by decide +kernel
theorem d_M_token_aIII_280 : decode b_M_token_aIII 280 = .ok (.getfield 254, 3) := by decide +kernel
theorem d_M_token_aIII_283 : decode b_M_token_aIII 283 = .ok (.if_icmp .ge 26, 3) := by decide +kernel
theorem d_M_token_aIII_286 : decode b_M_token_aIII 286 = .ok (.aload_n 0, 1) := by decide +kernel
theorem d_M_token_aIII_287 : decode b_M_token_aIII 287 = .ok (.getfield 198, 3) := by decide +kernel
theorem d_M_token_aIII_290 : decode b_M_token_aIII 290 = .ok (.iload 6, 2) := by decide +kernel
theorem d_M_token_aIII_292 : decode b_M_token_aIII 292 = .ok (.iload 7, 2) := by decide +kernel
theorem d_M_token_aIII_294 : decode b_M_token_aIII 294 = .ok (.iadd, 1) := by decide +kernel
theorem d_M_token_aIII_295 : decode b_M_token_aIII 295 = .ok (.aload_n 0, 1) := by decide +kernel
theorem d_M_token_aIII_296 : decode b_M_token_aIII 296 = .ok (.getfield 207, 3) := by decide +kernel
theorem d_M_token_aIII_299 : decode b_M_token_aIII 299 = .ok (.iload 7, 2) := by decide +kernel
theorem d_M_token_aIII_301 : decode b_M_token_aIII 301 = .ok (.iaload, 1) := by decide +kernel
theorem d_M_token_aIII_302 : decode b_M_token_aIII 302 = .ok (.iastore, 1) := by decide +kernel
theorem d_M_token_aIII_303 : decode b_M_token_aIII 303 = .ok (.iinc 7 1, 3) := by decide +kernel
theorem d_M_token_aIII_306 : decode b_M_token_aIII 306 = .ok (.goto (-29), 3) := by decide +kernel
theorem d_M_token_aIII_309 : decode b_M_token_aIII 309 = .ok (.aload_n 0, 1) := by decide +kernel
theorem d_M_token_aIII_310 : decode b_M_token_aIII 310 = .ok (.getfield 204, 3) := by decide +kernel
theorem d_M_token_aIII_313 : decode b_M_token_aIII 313 = .ok (.aload_n 0, 1) := by decide +kernel
theorem d_M_token_aIII_314 : decode b_M_token_aIII 314 = .ok (.getfield 234, 3) := by decide +kernel
theorem d_M_token_aIII_317 : decode b_M_token_aIII 317 = .ok (.iload 4, 2) := by decide +kernel
theorem d_M_token_aIII_319 : decode b_M_token_aIII 319 = .ok (.iastore, 1) := by decide +kernel
theorem d_M_token_aIII_320 : decode b_M_token_aIII 320 = .ok (.aload_n 0, 1) := by decide +kernel
theorem d_M_token_aIII_321 : decode b_M_token_aIII 321 = .ok (.dup, 1) := by decide +kernel
theorem d_M_token_aIII_322 : decode b_M_token_aIII 322 = .ok (.getfield 234, 3) := by decide +kernel
theorem d_M_token_aIII_325 : decode b_M_token_aIII 325 = .ok (.iconst 1, 1) := by decide +kernel
theorem d_M_token_aIII_326 : decode b_M_token_aIII 326 = .ok (.iadd, 1) := by decide +kernel
theorem d_M_token_aIII_327 : decode b_M_token_aIII 327 = .ok (.putfield 234, 3) := by decide +kernel
theorem d_M_token_aIII_330 : decode b_M_token_aIII 330 = .ok (.aload_n 0, 1) := by decide +kernel
theorem d_M_token_aIII_331 : decode b_M_token_aIII 331 = .ok (.getfield 201, 3) := by decide +kernel
theorem d_M_token_aIII_334 : decode b_M_token_aIII 334 = .ok (.aload_n 0, 1) := by decide +kernel
theorem d_M_token_aIII_335 : decode b_M_token_aIII 335 = .ok (.getfield 234, 3) := by decide +kernel
theorem d_M_token_aIII_338 : decode b_M_token_aIII 338 = .ok (.iload 6, 2) := by decide +kernel
theorem d_M_token_aIII_340 : decode b_M_token_aIII 340 = .ok (.aload_n 0, 1) := by decide +kernel
theorem d_M_token_aIII_341 : decode b_M_token_aIII 341 = .ok (.getfield 254, 3) := by decide +kernel
theorem d_M_token_aIII_344 : decode b_M_token_aIII 344 = .ok (.iadd, 1) := by decide +kernel
theorem d_M_token_aIII_345 : decode b_M_token_aIII 345 = .ok (.iastore, 1) := by decide +kernel
theorem d_M_token_aIII_346 : decode b_M_token_aIII 346 = .ok (.return_, 1) := by decide +kernel
theorem d_M_lowered_0 : decode b_M_lowered 0 = .ok (.iload_n 0, 1) := by decide +kernel
theorem d_M_lowered_1 : decode b_M_lowered 1 = .ok (.bipush 65, 2) := by decide +kernel
theorem d_M_lowered_3 : decode b_M_lowered 3 = .ok (.if_icmp .lt 14, 3) := by decide +kernel
theorem d_M_lowered_6 : decode b_M_lowered 6 = .ok (.iload_n 0, 1) := by decide +kernel
theorem d_M_lowered_7 : decode b_M_lowered 7 = .ok (.bipush 90, 2) := by decide +kernel
theorem d_M_lowered_9 : decode b_M_lowered 9 = .ok (.if_icmp .gt 8, 3) := by decide +kernel
theorem d_M_lowered_12 : decode b_M_lowered 12 = .ok (.iload_n 0, 1) := by decide +kernel
theorem d_M_lowered_13 : decode b_M_lowered 13 = .ok (.bipush 32, 2) := by decide +kernel
theorem d_M_lowered_15 : decode b_M_lowered 15 = .ok (.iadd, 1) := by decide +kernel
theorem d_M_lowered_16 : decode b_M_lowered 16 = .ok (.ireturn, 1) := by decide +kernel
theorem d_M_lowered_17 : decode b_M_lowered 17 = .ok (.iload_n 0, 1) := by decide +kernel
theorem d_M_lowered_18 : decode b_M_lowered 18 = .ok (.sipush 192, 3) := by decide +kernel
theorem d_M_lowered_21 : decode b_M_lowered 21 = .ok (.if_icmp .lt 22, 3) := by decide +kernel
theorem d_M_lowered_24 : decode b_M_lowered 24 = .ok (.iload_n 0, 1) := by decide +kernel
theorem d_M_lowered_25 : decode b_M_lowered 25 = .ok (.sipush 222, 3) := by decide +kernel
theorem d_M_lowered_28 : decode b_M_lowered 28 = .ok (.if_icmp .gt 15, 3) := by decide +kernel
theorem d_M_lowered_31 : decode b_M_lowered 31 = .ok (.iload_n 0, 1) := by decide +kernel
theorem d_M_lowered_32 : decode b_M_lowered 32 = .ok (.sipush 215, 3) := by decide +kernel
theorem d_M_lowered_35 : decode b_M_lowered 35 = .ok (.if_icmp .eq 8, 3) := by decide +kernel
theorem d_M_lowered_38 : decode b_M_lowered 38 = .ok (.iload_n 0, 1) := by decide +kernel
theorem d_M_lowered_39 : decode b_M_lowered 39 = .ok (.bipush 32, 2) := by decide +kernel
theorem d_M_lowered_41 : decode b_M_lowered 41 = .ok (.iadd, 1) := by decide +kernel
theorem d_M_lowered_42 : decode b_M_lowered 42 = .ok (.ireturn, 1) := by decide +kernel
theorem d_M_lowered_43 : decode b_M_lowered 43 = .ok (.iload_n 0, 1) := by decide +kernel
theorem d_M_lowered_44 : decode b_M_lowered 44 = .ok (.sipush 913, 3) := by decide +kernel
theorem d_M_lowered_47 : decode b_M_lowered 47 = .ok (.if_icmp .lt 22, 3) := by decide +kernel
theorem d_M_lowered_50 : decode b_M_lowered 50 = .ok (.iload_n 0, 1) := by decide +kernel
theorem d_M_lowered_51 : decode b_M_lowered 51 = .ok (.sipush 939, 3) := by decide +kernel
theorem d_M_lowered_54 : decode b_M_lowered 54 = .ok (.if_icmp .gt 15, 3) := by decide +kernel
theorem d_M_lowered_57 : decode b_M_lowered 57 = .ok (.iload_n 0, 1) := by decide +kernel
theorem d_M_lowered_58 : decode b_M_lowered 58 = .ok (.sipush 930, 3) := by decide +kernel
theorem d_M_lowered_61 : decode b_M_lowered 61 = .ok (.if_icmp .eq 8, 3) := by decide +kernel
theorem d_M_lowered_64 : decode b_M_lowered 64 = .ok (.iload_n 0, 1) := by decide +kernel
theorem d_M_lowered_65 : decode b_M_lowered 65 = .ok (.bipush 32, 2) := by decide +kernel
theorem d_M_lowered_67 : decode b_M_lowered 67 = .ok (.iadd, 1) := by decide +kernel
theorem d_M_lowered_68 : decode b_M_lowered 68 = .ok (.ireturn, 1) := by decide +kernel
theorem d_M_lowered_69 : decode b_M_lowered 69 = .ok (.iload_n 0, 1) := by decide +kernel
theorem d_M_lowered_70 : decode b_M_lowered 70 = .ok (.sipush 1040, 3) := by decide +kernel
theorem d_M_lowered_73 : decode b_M_lowered 73 = .ok (.if_icmp .lt 15, 3) := by decide +kernel
theorem d_M_lowered_76 : decode b_M_lowered 76 = .ok (.iload_n 0, 1) := by decide +kernel
theorem d_M_lowered_77 : decode b_M_lowered 77 = .ok (.sipush 1071, 3) := by decide +kernel
theorem d_M_lowered_80 : decode b_M_lowered 80 = .ok (.if_icmp .gt 8, 3) := by decide +kernel
theorem d_M_lowered_83 : decode b_M_lowered 83 = .ok (.iload_n 0, 1) := by decide +kernel
theorem d_M_lowered_84 : decode b_M_lowered 84 = .ok (.bipush 32, 2) := by decide +kernel
theorem d_M_lowered_86 : decode b_M_lowered 86 = .ok (.iadd, 1) := by decide +kernel
theorem d_M_lowered_87 : decode b_M_lowered 87 = .ok (.ireturn, 1) := by decide +kernel
theorem d_M_lowered_88 : decode b_M_lowered 88 = .ok (.iload_n 0, 1) := by decide +kernel
theorem d_M_lowered_89 : decode b_M_lowered 89 = .ok (.sipush 1024, 3) := by decide +kernel
theorem d_M_lowered_92 : decode b_M_lowered 92 = .ok (.if_icmp .lt 17, 3) := by decide +kernel
theorem d_M_lowered_95 : decode b_M_lowered 95 = .ok (.iload_n 0, 1) := by decide +kernel
theorem d_M_lowered_96 : decode b_M_lowered 96 = .ok (.sipush 1039, 3) := by decide +kernel
theorem d_M_lowered_99 : decode b_M_lowered 99 = .ok (.if_icmp .gt 10, 3) := by decide +kernel
theorem d_M_lowered_102 : decode b_M_lowered 102 = .ok (.iload_n 0, 1) := by decide +kernel
theorem d_M_lowered_103 : decode b_M_lowered 103 = .ok (.bipush 80, 2) := by decide +kernel
theorem d_M_lowered_105 : decode b_M_lowered 105 = .ok (.iadd, 1) := by decide +kernel
theorem d_M_lowered_106 : decode b_M_lowered 106 = .ok (.goto 4, 3) := by decide +kernel
theorem d_M_lowered_109 : decode b_M_lowered 109 = .ok (.iload_n 0, 1) := by decide +kernel
theorem d_M_lowered_110 : decode b_M_lowered 110 = .ok (.ireturn, 1) := by decide +kernel
theorem d_M_is_0 : decode b_M_is 0 = .ok (.aload_n 1, 1) := by decide +kernel
theorem d_M_is_1 : decode b_M_is 1 = .ok (.invokevirtual 266, 3) := by decide +kernel
theorem d_M_is_4 : decode b_M_is 4 = .ok (.aload_n 0, 1) := by decide +kernel
theorem d_M_is_5 : decode b_M_is 5 = .ok (.getfield 254, 3) := by decide +kernel
theorem d_M_is_8 : decode b_M_is 8 = .ok (.if_icmp .ne 15, 3) := by decide +kernel
theorem d_M_is_11 : decode b_M_is 11 = .ok (.aload_n 0, 1) := by decide +kernel
theorem d_M_is_12 : decode b_M_is 12 = .ok (.aload_n 1, 1) := by decide +kernel
theorem d_M_is_13 : decode b_M_is 13 = .ok (.invokevirtual 270, 3) := by decide +kernel
theorem d_M_is_16 : decode b_M_is 16 = .ok (.ifCond .eq 7, 3) := by decide +kernel
theorem d_M_is_19 : decode b_M_is 19 = .ok (.iconst 1, 1) := by decide +kernel
theorem d_M_is_20 : decode b_M_is 20 = .ok (.goto 4, 3) := by decide +kernel
theorem d_M_is_23 : decode b_M_is 23 = .ok (.iconst 0, 1) := by decide +kernel
theorem d_M_is_24 : decode b_M_is 24 = .ok (.ireturn, 1) := by decide +kernel
theorem d_M_ends_0 : decode b_M_ends 0 = .ok (.aload_n 1, 1) := by decide +kernel
theorem d_M_ends_1 : decode b_M_ends 1 = .ok (.invokevirtual 266, 3) := by decide +kernel
theorem d_M_ends_4 : decode b_M_ends 4 = .ok (.aload_n 0, 1) := by decide +kernel
theorem d_M_ends_5 : decode b_M_ends 5 = .ok (.getfield 254, 3) := by decide +kernel
theorem d_M_ends_8 : decode b_M_ends 8 = .ok (.if_icmp .le 5, 3) := by decide +kernel
theorem d_M_ends_11 : decode b_M_ends 11 = .ok (.iconst 0, 1) := by decide +kernel
theorem d_M_ends_12 : decode b_M_ends 12 = .ok (.ireturn, 1) := by decide +kernel
theorem d_M_ends_13 : decode b_M_ends 13 = .ok (.iconst 0, 1) := by decide +kernel
theorem d_M_ends_14 : decode b_M_ends 14 = .ok (.istore_n 2, 1) := by decide +kernel
theorem d_M_ends_15 : decode b_M_ends 15 = .ok (.iload_n 2, 1) := by decide +kernel
theorem d_M_ends_16 : decode b_M_ends 16 = .ok (.aload_n 1, 1) := by decide +kernel
theorem d_M_ends_17 : decode b_M_ends 17 = .ok (.invokevirtual 266, 3) := by decide +kernel
theorem d_M_ends_20 : decode b_M_ends 20 = .ok (.if_icmp .ge 35, 3) := by decide +kernel
theorem d_M_ends_23 : decode b_M_ends 23 = .ok (.aload_n 0, 1) := by decide +kernel
theorem d_M_ends_24 : decode b_M_ends 24 = .ok (.getfield 207, 3) := by decide +kernel
theorem d_M_ends_27 : decode b_M_ends 27 = .ok (.aload_n 0, 1) := by decide +kernel
theorem d_M_ends_28 : decode b_M_ends 28 = .ok (.getfield 254, 3) := by decide +kernel
theorem d_M_ends_31 : decode b_M_ends 31 = .ok (.aload_n 1, 1) := by decide +kernel
theorem d_M_ends_32 : decode b_M_ends 32 = .ok (.invokevirtual 266, 3) := by decide +kernel
theorem d_M_ends_35 : decode b_M_ends 35 = .ok (.isub, 1) := by decide +kernel
theorem d_M_ends_36 : decode b_M_ends 36 = .ok (.iload_n 2, 1) := by decide +kernel
theorem d_M_ends_37 : decode b_M_ends 37 = .ok (.iadd, 1) := by decide +kernel
theorem d_M_ends_38 : decode b_M_ends 38 = .ok (.iaload, 1) := by decide +kernel
theorem d_M_ends_39 : decode b_M_ends 39 = .ok (.aload_n 1, 1) := by decide +kernel
theorem d_M_ends_40 : decode b_M_ends 40 = .ok (.iload_n 2, 1) := by decide +kernel
theorem d_M_ends_41 : decode b_M_ends 41 = .ok (.invokevirtual 273, 3) := by decide +kernel
theorem d_M_ends_44 : decode b_M_ends 44 = .ok (.if_icmp .eq 5, 3) := by decide +kernel
theorem d_M_ends_47 : decode b_M_ends 47 = .ok (.iconst 0, 1) := by decide +kernel
theorem d_M_ends_48 : decode b_M_ends 48 = .ok (.ireturn, 1) := by decide +kernel
theorem d_M_ends_49 : decode b_M_ends 49 = .ok (.iinc 2 1, 3) := by decide +kernel
theorem d_M_ends_52 : decode b_M_ends 52 = .ok (.goto (-37), 3) := by decide +kernel
theorem d_M_ends_55 : decode b_M_ends 55 = .ok (.iconst 1, 1) := by decide +kernel
theorem d_M_ends_56 : decode b_M_ends 56 = .ok (.ireturn, 1) := by decide +kernel
theorem d_M_stem_0 : decode b_M_stem 0 = .ok (.aload_n 0, 1) := by decide +kernel
theorem d_M_stem_1 : decode b_M_stem 1 = .ok (.ldc_w 280, 3) := by decide +kernel
theorem d_M_stem_4 : decode b_M_stem 4 = .ok (.invokevirtual 270, 3) := by decide +kernel
theorem d_M_stem_7 : decode b_M_stem 7 = .ok (.ifCond .ne 13, 3) := by decide +kernel
theorem d_M_stem_10 : decode b_M_stem 10 = .ok (.aload_n 0, 1) := by decide +kernel
theorem d_M_stem_11 : decode b_M_stem 11 = .ok (.ldc_w 282, 3) := by decide +kernel
theorem d_M_stem_14 : decode b_M_stem 14 = .ok (.invokevirtual 270, 3) := by decide +kernel
theorem d_M_stem_17 : decode b_M_stem 17 = .ok (.ifCond .eq 16, 3) := by decide +kernel
theorem d_M_stem_20 : decode b_M_stem 20 = .ok (.aload_n 0, 1) := by decide +kernel
theorem d_M_stem_21 : decode b_M_stem 21 = .ok (.dup, 1) := by decide +kernel
theorem d_M_stem_22 : decode b_M_stem 22 = .ok (.getfield 254, 3) := by decide +kernel
theorem d_M_stem_25 : decode b_M_stem 25 = .ok (.iconst 2, 1) := by decide +kernel
theorem d_M_stem_26 : decode b_M_stem 26 = .ok (.isub, 1) := by decide +kernel
theorem d_M_stem_27 : decode b_M_stem 27 = .ok (.putfield 254, 3) := by decide +kernel
theorem d_M_stem_30 : decode b_M_stem 30 = .ok (.goto 33, 3) := by decide +kernel
theorem d_M_stem_33 : decode b_M_stem 33 = .ok (.aload_n 0, 1) := by decide +kernel
theorem d_M_stem_34 : decode b_M_stem 34 = .ok (.ldc_w 284, 3) := by decide +kernel
theorem d_M_stem_37 : decode b_M_stem 37 = .ok (.invokevirtual 270, 3) := by decide +kernel
theorem d_M_stem_40 : decode b_M_stem 40 = .ok (.ifCond .eq 23, 3) := by decide +kernel
theorem d_M_stem_43 : decode b_M_stem 43 = .ok (.aload_n 0, 1) := by decide +kernel
theorem d_M_stem_44 : decode b_M_stem 44 = .ok (.ldc_w 286, 3) := by decide +kernel
theorem d_M_stem_47 : decode b_M_stem 47 = .ok (.invokevirtual 270, 3) := by decide +kernel
theorem d_M_stem_50 : decode b_M_stem 50 = .ok (.ifCond .ne 13, 3) := by decide +kernel
theorem d_M_stem_53 : decode b_M_stem 53 = .ok (.aload_n 0, 1) := by decide +kernel
theorem d_M_stem_54 : decode b_M_stem 54 = .ok (.dup, 1) := by decide +kernel
theorem d_M_stem_55 : decode b_M_stem 55 = .ok (.getfield 254, 3) := by decide +kernel
theorem d_M_stem_58 : decode b_M_stem 58 = .ok (.iconst 1, 1) := by decide +kernel
theorem d_M_stem_59 : decode b_M_stem 59 = .ok (.isub, 1) := by decide +kernel
theorem d_M_stem_60 : decode b_M_stem 60 = .ok (.putfield 254, 3) := by decide +kernel
theorem d_M_stem_63 : decode b_M_stem 63 = .ok (.aload_n 0, 1) := by decide +kernel
theorem d_M_stem_64 : decode b_M_stem 64 = .ok (.invokevirtual 288, 3) := by decide +kernel
theorem d_M_stem_67 : decode b_M_stem 67 = .ok (.aload_n 0, 1) := by decide +kernel
theorem d_M_stem_68 : decode b_M_stem 68 = .ok (.ldc_w 291, 3) := by decide +kernel
theorem d_M_stem_71 : decode b_M_stem 71 = .ok (.invokevirtual 270, 3) := by decide +kernel
theorem d_M_stem_74 : decode b_M_stem 74 = .ok (.ifCond .eq 29, 3) := by decide +kernel
theorem d_M_stem_77 : decode b_M_stem 77 = .ok (.aload_n 0, 1) := by decide +kernel
theorem d_M_stem_78 : decode b_M_stem 78 = .ok (.aload_n 0, 1) := by decide +kernel
theorem d_M_stem_79 : decode b_M_stem 79 = .ok (.getfield 254, 3) := by decide +kernel
theorem d_M_stem_82 : decode b_M_stem 82 = .ok (.iconst 1, 1) := by decide +kernel
theorem d_M_stem_83 : decode b_M_stem 83 = .ok (.isub, 1) := by decide +kernel
theorem d_M_stem_84 : decode b_M_stem 84 = .ok (.invokevirtual 293, 3) := by decide +kernel
theorem d_M_stem_87 : decode b_M_stem 87 = .ok (.ifCond .eq 16, 3) := by decide +kernel
theorem d_M_stem_90 : decode b_M_stem 90 = .ok (.aload_n 0, 1) := by decide +kernel
theorem d_M_stem_91 : decode b_M_stem 91 = .ok (.getfield 207, 3) := by decide +kernel
theorem d_M_stem_94 : decode b_M_stem 94 = .ok (.aload_n 0, 1) := by decide +kernel
theorem d_M_stem_95 : decode b_M_stem 95 = .ok (.getfield 254, 3) := by decide +kernel
theorem d_M_stem_98 : decode b_M_stem 98 = .ok (.iconst 1, 1) := by decide +kernel
theorem d_M_stem_99 : decode b_M_stem 99 = .ok (.isub, 1) := by decide +kernel
theorem d_M_stem_100 : decode b_M_stem 100 = .ok (.bipush 105, 2) := by decide +kernel
theorem d_M_stem_102 : decode b_M_stem 102 = .ok (.iastore, 1) := by decide +kernel
theorem d_M_stem_103 : decode b_M_stem 103 = .ok (.aload_n 0, 1) := by decide +kernel
theorem d_M_stem_104 : decode b_M_stem 104 = .ok (.aload_n 0, 1) := by decide +kernel
theorem d_M_stem_105 : decode b_M_stem 105 = .ok (.getfield 147, 3) := by decide +kernel
theorem d_M_stem_108 : decode b_M_stem 108 = .ok (.invokevirtual 296, 3) := by decide +kernel
theorem d_M_stem_111 : decode b_M_stem 111 = .ok (.istore_n 1, 1) := by decide +kernel
theorem d_M_stem_112 : decode b_M_stem 112 = .ok (.iload_n 1, 1) := by decide +kernel
theorem d_M_stem_113 : decode b_M_stem 113 = .ok (.ifCond .lt 50, 3) := by decide +kernel
theorem d_M_stem_116 : decode b_M_stem 116 = .ok (.aload_n 0, 1) := by decide +kernel
theorem d_M_stem_117 : decode b_M_stem 117 = .ok (.aload_n 0, 1) := by decide +kernel
theorem d_M_stem_118 : decode b_M_stem 118 = .ok (.getfield 254, 3) := by decide +kernel
theorem d_M_stem_121 : decode b_M_stem 121 = .ok (.aload_n 0, 1) := by decide +kernel
theorem d_M_stem_122 : decode b_M_stem 122 = .ok (.getfield 147, 3) := by decide +kernel
theorem d_M_stem_125 : decode b_M_stem 125 = .ok (.iload_n 1, 1) := by decide +kernel
theorem d_M_stem_126 : decode b_M_stem 126 = .ok (.aaload, 1) := by decide +kernel
theorem d_M_stem_127 : decode b_M_stem 127 = .ok (.invokevirtual 266, 3) := by decide +kernel
theorem d_M_stem_130 : decode b_M_stem 130 = .ok (.isub, 1) := by decide +kernel
theorem d_M_stem_131 : decode b_M_stem 131 = .ok (.invokevirtual 300, 3) := by decide +kernel
theorem d_M_stem_134 : decode b_M_stem 134 = .ok (.ifCond .le 29, 3) := by decide +kernel
theorem d_M_stem_137 : decode b_M_stem 137 = .ok (.aload_n 0, 1) := by decide +kernel
theorem d_M_stem_138 : decode b_M_stem 138 = .ok (.aload_n 0, 1) := by decide +kernel
theorem d_M_stem_139 : decode b_M_stem 139 = .ok (.getfield 254, 3) := by decide +kernel
theorem d_M_stem_142 : decode b_M_stem 142 = .ok (.aload_n 0, 1) := by decide +kernel
theorem d_M_stem_143 : decode b_M_stem 143 = .ok (.getfield 147, 3) := by decide +kernel
theorem d_M_stem_146 : decode b_M_stem 146 = .ok (.iload_n 1, 1) := by decide +kernel
theorem d_M_stem_147 : decode b_M_stem 147 = .ok (.aaload, 1) := by decide +kernel
theorem d_M_stem_148 : decode b_M_stem 148 = .ok (.invokevirtual 266, 3) := by decide +kernel
theorem d_M_stem_151 : decode b_M_stem 151 = .ok (.isub, 1) := by decide +kernel
theorem d_M_stem_152 : decode b_M_stem 152 = .ok (.aload_n 0, 1) := by decide +kernel
theorem d_M_stem_153 : decode b_M_stem 153 = .ok (.getfield 147, 3) := by decide +kernel
theorem d_M_stem_156 : decode b_M_stem 156 = .ok (.iload_n 1, 1) := by decide +kernel
theorem d_M_stem_157 : decode b_M_stem 157 = .ok (.iconst 1, 1) := by decide +kernel
theorem d_M_stem_158 : decode b_M_stem 158 = .ok (.iadd, 1) := by decide +kernel
theorem d_M_stem_159 : decode b_M_stem 159 = .ok (.aaload, 1) := by decide +kernel
theorem d_M_stem_160 : decode b_M_stem 160 = .ok (.invokevirtual 303, 3) := by decide +kernel
theorem d_M_stem_163 : decode b_M_stem 163 = .ok (.aload_n 0, 1) := by decide +kernel
theorem d_M_stem_164 : decode b_M_stem 164 = .ok (.aload_n 0, 1) := by decide +kernel
theorem d_M_stem_165 : decode b_M_stem 165 = .ok (.getfield 166, 3) := by decide +kernel
theorem d_M_stem_168 : decode b_M_stem 168 = .ok (.invokevirtual 296, 3) := by decide +kernel
theorem d_M_stem_171 : decode b_M_stem 171 = .ok (.istore_n 1, 1) := by decide +kernel
theorem d_M_stem_172 : decode b_M_stem 172 = .ok (.iload_n 1, 1) := by decide +kernel
theorem d_M_stem_173 : decode b_M_stem 173 = .ok (.ifCond .lt 50, 3) := by decide +kernel
theorem d_M_stem_176 : decode b_M_stem 176 = .ok (.aload_n 0, 1) := by decide +kernel
theorem d_M_stem_177 : decode b_M_stem 177 = .ok (.aload_n 0, 1) := by decide +kernel
theorem d_M_stem_178 : decode b_M_stem 178 = .ok (.getfield 254, 3) := by decide +kernel
theorem d_M_stem_181 : decode b_M_stem 181 = .ok (.aload_n 0, 1) := by decide +kernel
theorem d_M_stem_182 : decode b_M_stem 182 = .ok (.getfield 166, 3) := by decide +kernel
theorem d_M_stem_185 : decode b_M_stem 185 = .ok (.iload_n 1, 1) := by decide +kernel
theorem d_M_stem_186 : decode b_M_stem 186 = .ok (.aaload, 1) := by decide +kernel
theorem d_M_stem_187 : decode b_M_stem 187 = .ok (.invokevirtual 266, 3) := by decide +kernel
theorem d_M_stem_190 : decode b_M_stem 190 = .ok (.isub, 1) := by decide +kernel
theorem d_M_stem_191 : decode b_M_stem 191 = .ok (.invokevirtual 300, 3) := by decide +kernel
theorem d_M_stem_194 : decode b_M_stem 194 = .ok (.ifCond .le 29, 3) := by decide +kernel
theorem d_M_stem_197 : decode b_M_stem 197 = .ok (.aload_n 0, 1) := by decide +kernel
theorem d_M_stem_198 : decode b_M_stem 198 = .ok (.aload_n 0, 1) := by decide +kernel
theorem d_M_stem_199 : decode b_M_stem 199 = .ok (.getfield 254, 3) := by decide +kernel
theorem d_M_stem_202 : decode b_M_stem 202 = .ok (.aload_n 0, 1) := by decide +kernel
theorem d_M_stem_203 : decode b_M_stem 203 = .ok (.getfield 166, 3) := by decide +kernel
theorem d_M_stem_206 : decode b_M_stem 206 = .ok (.iload_n 1, 1) := by decide +kernel
theorem d_M_stem_207 : decode b_M_stem 207 = .ok (.aaload, 1) := by decide +kernel
theorem d_M_stem_208 : decode b_M_stem 208 = .ok (.invokevirtual 266, 3) := by decide +kernel
theorem d_M_stem_211 : decode b_M_stem 211 = .ok (.isub, 1) := by decide +kernel
theorem d_M_stem_212 : decode b_M_stem 212 = .ok (.aload_n 0, 1) := by decide +kernel
theorem d_M_stem_213 : decode b_M_stem 213 = .ok (.getfield 166, 3) := by decide +kernel
theorem d_M_stem_216 : decode b_M_stem 216 = .ok (.iload_n 1, 1) := by decide +kernel
theorem d_M_stem_217 : decode b_M_stem 217 = .ok (.iconst 1, 1) := by decide +kernel
theorem d_M_stem_218 : decode b_M_stem 218 = .ok (.iadd, 1) := by decide +kernel
theorem d_M_stem_219 : decode b_M_stem 219 = .ok (.aaload, 1) := by decide +kernel
theorem d_M_stem_220 : decode b_M_stem 220 = .ok (.invokevirtual 303, 3) := by decide +kernel
theorem d_M_stem_223 : decode b_M_stem 223 = .ok (.aload_n 0, 1) := by decide +kernel
theorem d_M_stem_224 : decode b_M_stem 224 = .ok (.aload_n 0, 1) := by decide +kernel
theorem d_M_stem_225 : decode b_M_stem 225 = .ok (.getfield 187, 3) := by decide +kernel
theorem d_M_stem_228 : decode b_M_stem 228 = .ok (.invokevirtual 296, 3) := by decide +kernel
theorem d_M_stem_231 : decode b_M_stem 231 = .ok (.istore_n 1, 1) := by decide +kernel
theorem d_M_stem_232 : decode b_M_stem 232 = .ok (.iload_n 1, 1) := by decide +kernel
theorem d_M_stem_233 : decode b_M_stem 233 = .ok (.ifCond .lt 86, 3) := by decide +kernel
theorem d_M_stem_236 : decode b_M_stem 236 = .ok (.aload_n 0, 1) := by decide +kernel
theorem d_M_stem_237 : decode b_M_stem 237 = .ok (.getfield 254, 3) := by decide +kernel
theorem d_M_stem_240 : decode b_M_stem 240 = .ok (.aload_n 0, 1) := by decide +kernel
theorem d_M_stem_241 : decode b_M_stem 241 = .ok (.getfield 187, 3) := by decide +kernel
theorem d_M_stem_244 : decode b_M_stem 244 = .ok (.iload_n 1, 1) := by decide +kernel
theorem d_M_stem_245 : decode b_M_stem 245 = .ok (.aaload, 1) := by decide +kernel
theorem d_M_stem_246 : decode b_M_stem 246 = .ok (.invokevirtual 266, 3) := by decide +kernel
theorem d_M_stem_249 : decode b_M_stem 249 = .ok (.isub, 1) := by decide +kernel
theorem d_M_stem_250 : decode b_M_stem 250 = .ok (.istore_n 2, 1) := by decide +kernel
theorem d_M_stem_251 : decode b_M_stem 251 = .ok (.aload_n 0, 1) := by decide +kernel
theorem d_M_stem_252 : decode b_M_stem 252 = .ok (.getfield 187, 3) := by decide +kernel
theorem d_M_stem_255 : decode b_M_stem 255 = .ok (.iload_n 1, 1) := by decide +kernel
theorem d_M_stem_256 : decode b_M_stem 256 = .ok (.aaload, 1) := by decide +kernel
theorem d_M_stem_257 : decode b_M_stem 257 = .ok (.ldc 185, 2) := by decide +kernel
theorem d_M_stem_259 : decode b_M_stem 259 = .ok (.invokevirtual 307, 3) := by decide +kernel
theorem d_M_stem_262 : decode b_M_stem 262 = .ok (.ifCond .eq 33, 3) := by decide +kernel
theorem d_M_stem_265 : decode b_M_stem 265 = .ok (.iload_n 2, 1) := by decide +kernel
theorem d_M_stem_266 : decode b_M_stem 266 = .ok (.ifCond .le 33, 3) := by decide +kernel
theorem d_M_stem_269 : decode b_M_stem 269 = .ok (.aload_n 0, 1) := by decide +kernel
theorem d_M_stem_270 : decode b_M_stem 270 = .ok (.getfield 207, 3) := by decide +kernel
theorem d_M_stem_273 : decode b_M_stem 273 = .ok (.iload_n 2, 1) := by decide +kernel
theorem d_M_stem_274 : decode b_M_stem 274 = .ok (.iconst 1, 1) := by decide +kernel
theorem d_M_stem_275 : decode b_M_stem 275 = .ok (.isub, 1) := by decide +kernel
theorem d_M_stem_276 : decode b_M_stem 276 = .ok (.iaload, 1) := by decide +kernel
theorem d_M_stem_277 : decode b_M_stem 277 = .ok (.bipush 115, 2) := by decide +kernel
theorem d_M_stem_279 : decode b_M_stem 279 = .ok (.if_icmp .eq 16, 3) := by decide +kernel
theorem d_M_stem_282 : decode b_M_stem 282 = .ok (.aload_n 0, 1) := by decide +kernel
theorem d_M_stem_283 : decode b_M_stem 283 = .ok (.getfield 207, 3) := by decide +kernel
theorem d_M_stem_286 : decode b_M_stem 286 = .ok (.iload_n 2, 1) := by decide +kernel
theorem d_M_stem_287 : decode b_M_stem 287 = .ok (.iconst 1, 1) := by decide +kernel
theorem d_M_stem_288 : decode b_M_stem 288 = .ok (.isub, 1) := by decide +kernel
theorem d_M_stem_289 : decode b_M_stem 289 = .ok (.iaload, 1) := by decide +kernel
theorem d_M_stem_290 : decode b_M_stem 290 = .ok (.bipush 116, 2) := by decide +kernel
theorem d_M_stem_292 : decode b_M_stem 292 = .ok (.if_icmp .ne 7, 3) := by decide +kernel
theorem d_M_stem_295 : decode b_M_stem 295 = .ok (.iconst 1, 1) := by decide +kernel
theorem d_M_stem_296 : decode b_M_stem 296 = .ok (.goto 4, 3) := by decide +kernel
theorem d_M_stem_299 : decode b_M_stem 299 = .ok (.iconst 0, 1) := by decide +kernel
theorem d_M_stem_300 : decode b_M_stem 300 = .ok (.istore_n 3, 1) := by decide +kernel
theorem d_M_stem_301 : decode b_M_stem 301 = .ok (.iload_n 3, 1) := by decide +kernel
theorem d_M_stem_302 : decode b_M_stem 302 = .ok (.ifCond .eq 17, 3) := by decide +kernel
theorem d_M_stem_305 : decode b_M_stem 305 = .ok (.aload_n 0, 1) := by decide +kernel
theorem d_M_stem_306 : decode b_M_stem 306 = .ok (.iload_n 2, 1) := by decide +kernel
theorem d_M_stem_307 : decode b_M_stem 307 = .ok (.invokevirtual 300, 3) := by decide +kernel
theorem d_M_stem_310 : decode b_M_stem 310 = .ok (.iconst 1, 1) := by decide +kernel
theorem d_M_stem_311 : decode b_M_stem 311 = .ok (.if_icmp .le 8, 3) := by decide +kernel
theorem d_M_stem_314 : decode b_M_stem 314 = .ok (.aload_n 0, 1) := by decide +kernel
theorem d_M_stem_315 : decode b_M_stem 315 = .ok (.iload_n 2, 1) := by decide +kernel
theorem d_M_stem_316 : decode b_M_stem 316 = .ok (.putfield 254, 3) := by decide +kernel
theorem d_M_stem_319 : decode b_M_stem 319 = .ok (.aload_n 0, 1) := by decide +kernel
theorem d_M_stem_320 : decode b_M_stem 320 = .ok (.ldc 115, 2) := by decide +kernel
theorem d_M_stem_322 : decode b_M_stem 322 = .ok (.invokevirtual 270, 3) := by decide +kernel
theorem d_M_stem_325 : decode b_M_stem 325 = .ok (.ifCond .eq 47, 3) := by decide +kernel
theorem d_M_stem_328 : decode b_M_stem 328 = .ok (.aload_n 0, 1) := by decide +kernel
theorem d_M_stem_329 : decode b_M_stem 329 = .ok (.aload_n 0, 1) := by decide +kernel
theorem d_M_stem_330 : decode b_M_stem 330 = .ok (.getfield 254, 3) := by decide +kernel
theorem d_M_stem_333 : decode b_M_stem 333 = .ok (.iconst 1, 1) := by decide +kernel
theorem d_M_stem_334 : decode b_M_stem 334 = .ok (.isub, 1) := by decide +kernel
theorem d_M_stem_335 : decode b_M_stem 335 = .ok (.invokevirtual 300, 3) := by decide +kernel
theorem d_M_stem_338 : decode b_M_stem 338 = .ok (.istore_n 2, 1) := by decide +kernel
theorem d_M_stem_339 : decode b_M_stem 339 = .ok (.iload_n 2, 1) := by decide +kernel
theorem d_M_stem_340 : decode b_M_stem 340 = .ok (.iconst 1, 1) := by decide +kernel
theorem d_M_stem_341 : decode b_M_stem 341 = .ok (.if_icmp .gt 21, 3) := by decide +kernel
theorem d_M_stem_344 : decode b_M_stem 344 = .ok (.iload_n 2, 1) := by decide +kernel
theorem d_M_stem_345 : decode b_M_stem 345 = .ok (.iconst 1, 1) := by decide +kernel
theorem d_M_stem_346 : decode b_M_stem 346 = .ok (.if_icmp .ne 26, 3) := by decide +kernel
theorem d_M_stem_349 : decode b_M_stem 349 = .ok (.aload_n 0, 1) := by decide +kernel
theorem d_M_stem_350 : decode b_M_stem 350 = .ok (.aload_n 0, 1) := by decide +kernel
theorem d_M_stem_351 : decode b_M_stem 351 = .ok (.getfield 254, 3) := by decide +kernel
theorem d_M_stem_354 : decode b_M_stem 354 = .ok (.iconst 1, 1) := by decide +kernel
theorem d_M_stem_355 : decode b_M_stem 355 = .ok (.isub, 1) := by decide +kernel
theorem d_M_stem_356 : decode b_M_stem 356 = .ok (.invokevirtual 311, 3) := by decide +kernel
theorem d_M_stem_359 : decode b_M_stem 359 = .ok (.ifCond .ne 13, 3) := by decide +kernel
theorem d_M_stem_362 : decode b_M_stem 362 = .ok (.aload_n 0, 1) := by decide +kernel
theorem d_M_stem_363 : decode b_M_stem 363 = .ok (.dup, 1) := by decide +kernel
theorem d_M_stem_364 : decode b_M_stem 364 = .ok (.getfield 254, 3) := by decide +kernel
theorem d_M_stem_367 : decode b_M_stem 367 = .ok (.iconst 1, 1) := by decide +kernel
theorem d_M_stem_368 : decode b_M_stem 368 = .ok (.isub, 1) := by decide +kernel
theorem d_M_stem_369 : decode b_M_stem 369 = .ok (.putfield 254, 3) := by decide +kernel
theorem d_M_stem_372 : decode b_M_stem 372 = .ok (.aload_n 0, 1) := by decide +kernel
theorem d_M_stem_373 : decode b_M_stem 373 = .ok (.ldc_w 314, 3) := by decide +kernel
theorem d_M_stem_376 : decode b_M_stem 376 = .ok (.invokevirtual 270, 3) := by decide +kernel
theorem d_M_stem_379 : decode b_M_stem 379 = .ok (.ifCond .eq 25, 3) := by decide +kernel
theorem d_M_stem_382 : decode b_M_stem 382 = .ok (.aload_n 0, 1) := by decide +kernel
theorem d_M_stem_383 : decode b_M_stem 383 = .ok (.aload_n 0, 1) := by decide +kernel
theorem d_M_stem_384 : decode b_M_stem 384 = .ok (.getfield 254, 3) := by decide +kernel
theorem d_M_stem_387 : decode b_M_stem 387 = .ok (.invokevirtual 300, 3) := by decide +kernel
theorem d_M_stem_390 : decode b_M_stem 390 = .ok (.iconst 1, 1) := by decide +kernel
theorem d_M_stem_391 : decode b_M_stem 391 = .ok (.if_icmp .le 13, 3) := by decide +kernel
theorem d_M_stem_394 : decode b_M_stem 394 = .ok (.aload_n 0, 1) := by decide +kernel
theorem d_M_stem_395 : decode b_M_stem 395 = .ok (.dup, 1) := by decide +kernel
theorem d_M_stem_396 : decode b_M_stem 396 = .ok (.getfield 254, 3) := by decide +kernel
theorem d_M_stem_399 : decode b_M_stem 399 = .ok (.iconst 1, 1) := by decide +kernel
theorem d_M_stem_400 : decode b_M_stem 400 = .ok (.isub, 1) := by decide +kernel
theorem d_M_stem_401 : decode b_M_stem 401 = .ok (.putfield 254, 3) := by decide +kernel
theorem d_M_stem_404 : decode b_M_stem 404 = .ok (.return_, 1) := by decide +kernel
theorem d_M_stemOneB_0 : decode b_M_stemOneB 0 = .ok (.aload_n 0, 1) := by decide +kernel
theorem d_M_stemOneB_1 : decode b_M_stemOneB 1 = .ok (.ldc_w 316, 3) := by decide +kernel
theorem d_M_stemOneB_4 : decode b_M_stemOneB 4 = .ok (.invokevirtual 270, 3) := by decide +kernel
theorem d_M_stemOneB_7 : decode b_M_stemOneB 7 = .ok (.ifCond .eq 27, 3) := by decide +kernel
theorem d_M_stemOneB_10 : decode b_M_stemOneB 10 = .ok (.aload_n 0, 1) := by decide +kernel
theorem d_M_stemOneB_11 : decode b_M_stemOneB 11 = .ok (.aload_n 0, 1) := by decide +kernel
theorem d_M_stemOneB_12 : decode b_M_stemOneB 12 = .ok (.getfield 254, 3) := by decide +kernel
theorem d_M_stemOneB_15 : decode b_M_stemOneB 15 = .ok (.iconst 3, 1) := by decide +kernel
theorem d_M_stemOneB_16 : decode b_M_stemOneB 16 = .ok (.isub, 1) := by decide +kernel
theorem d_M_stemOneB_17 : decode b_M_stemOneB 17 = .ok (.invokevirtual 300, 3) := by decide +kernel
theorem d_M_stemOneB_20 : decode b_M_stemOneB 20 = .ok (.ifCond .le 13, 3) := by decide +kernel
theorem d_M_stemOneB_23 : decode b_M_stemOneB 23 = .ok (.aload_n 0, 1) := by decide +kernel
theorem d_M_stemOneB_24 : decode b_M_stemOneB 24 = .ok (.dup, 1) := by decide +kernel
theorem d_M_stemOneB_25 : decode b_M_stemOneB 25 = .ok (.getfield 254, 3) := by decide +kernel
theorem d_M_stemOneB_28 : decode b_M_stemOneB 28 = .ok (.iconst 1, 1) := by decide +kernel
theorem d_M_stemOneB_29 : decode b_M_stemOneB 29 = .ok (.isub, 1) := by decide +kernel
theorem d_M_stemOneB_30 : decode b_M_stemOneB 30 = .ok (.putfield 254, 3) := by decide +kernel
theorem d_M_stemOneB_33 : decode b_M_stemOneB 33 = .ok (.return_, 1) := by decide +kernel
theorem d_M_stemOneB_34 : decode b_M_stemOneB 34 = .ok (.aload_n 0, 1) := by decide +kernel
theorem d_M_stemOneB_35 : decode b_M_stemOneB 35 = .ok (.ldc_w 318, 3) := by decide +kernel
theorem d_M_stemOneB_38 : decode b_M_stemOneB 38 = .ok (.invokevirtual 270, 3) := by decide +kernel
theorem d_M_stemOneB_41 : decode b_M_stemOneB 41 = .ok (.ifCond .eq 12, 3) := by decide +kernel
theorem d_M_stemOneB_44 : decode b_M_stemOneB 44 = .ok (.aload_n 0, 1) := by decide +kernel
theorem d_M_stemOneB_45 : decode b_M_stemOneB 45 = .ok (.getfield 254, 3) := by decide +kernel
theorem d_M_stemOneB_48 : decode b_M_stemOneB 48 = .ok (.iconst 2, 1) := by decide +kernel
theorem d_M_stemOneB_49 : decode b_M_stemOneB 49 = .ok (.isub, 1) := by decide +kernel
theorem d_M_stemOneB_50 : decode b_M_stemOneB 50 = .ok (.goto 23, 3) := by decide +kernel
theorem d_M_stemOneB_53 : decode b_M_stemOneB 53 = .ok (.aload_n 0, 1) := by decide +kernel
theorem d_M_stemOneB_54 : decode b_M_stemOneB 54 = .ok (.ldc_w 320, 3) := by decide +kernel
theorem d_M_stemOneB_57 : decode b_M_stemOneB 57 = .ok (.invokevirtual 270, 3) := by decide +kernel
theorem d_M_stemOneB_60 : decode b_M_stemOneB 60 = .ok (.ifCond .eq 12, 3) := by decide +kernel
theorem d_M_stemOneB_63 : decode b_M_stemOneB 63 = .ok (.aload_n 0, 1) := by decide +kernel
theorem d_M_stemOneB_64 : decode b_M_stemOneB 64 = .ok (.getfield 254, 3) := by decide +kernel
theorem d_M_stemOneB_67 : decode b_M_stemOneB 67 = .ok (.iconst 3, 1) := by decide +kernel
theorem d_M_stemOneB_68 : decode b_M_stemOneB 68 = .ok (.isub, 1) := by decide +kernel
theorem d_M_stemOneB_69 : decode b_M_stemOneB 69 = .ok (.goto 4, 3) := by decide +kernel
theorem d_M_stemOneB_72 : decode b_M_stemOneB 72 = .ok (.iconst (-1), 1) := by decide +kernel
theorem d_M_stemOneB_73 : decode b_M_stemOneB 73 = .ok (.istore_n 1, 1) := by decide +kernel
theorem d_M_stemOneB_74 : decode b_M_stemOneB 74 = .ok (.iload_n 1, 1) := by decide +kernel
theorem d_M_stemOneB_75 : decode b_M_stemOneB 75 = .ok (.ifCond .lt 11, 3) := by decide +kernel
theorem d_M_stemOneB_78 : decode b_M_stemOneB 78 = .ok (.aload_n 0, 1) := by decide +kernel
theorem d_M_stemOneB_79 : decode b_M_stemOneB 79 = .ok (.iload_n 1, 1) := by decide +kernel
theorem d_M_stemOneB_80 : decode b_M_stemOneB 80 = .ok (.invokevirtual 293, 3) := by decide +kernel
theorem d_M_stemOneB_83 : decode b_M_stemOneB 83 = .ok (.ifCond .ne 4, 3) := by decide +kernel
theorem d_M_stemOneB_86 : decode b_M_stemOneB 86 = .ok (.return_, 1) := by decide +kernel
theorem d_M_stemOneB_87 : decode b_M_stemOneB 87 = .ok (.aload_n 0, 1) := by decide +kernel
theorem d_M_stemOneB_88 : decode b_M_stemOneB 88 = .ok (.iload_n 1, 1) := by decide +kernel
theorem d_M_stemOneB_89 : decode b_M_stemOneB 89 = .ok (.putfield 254, 3) := by decide +kernel
theorem d_M_stemOneB_92 : decode b_M_stemOneB 92 = .ok (.iload_n 1, 1) := by decide +kernel
theorem d_M_stemOneB_93 : decode b_M_stemOneB 93 = .ok (.iconst 1, 1) := by decide +kernel
theorem d_M_stemOneB_94 : decode b_M_stemOneB 94 = .ok (.if_icmp .le 36, 3) := by decide +kernel
theorem d_M_stemOneB_97 : decode b_M_stemOneB 97 = .ok (.aload_n 0, 1) := by decide +kernel
theorem d_M_stemOneB_98 : decode b_M_stemOneB 98 = .ok (.getfield 207, 3) := by decide +kernel
theorem d_M_stemOneB_101 : decode b_M_stemOneB 101 = .ok (.iload_n 1, 1) := by decide +kernel
theorem d_M_stemOneB_102 : decode b_M_stemOneB 102 = .ok (.iconst 1, 1) := by decide +kernel
theorem d_M_stemOneB_103 : decode b_M_stemOneB 103 = .ok (.isub, 1) := by decide +kernel
theorem d_M_stemOneB_104 : decode b_M_stemOneB 104 = .ok (.iaload, 1) := by decide +kernel
theorem d_M_stemOneB_105 : decode b_M_stemOneB 105 = .ok (.aload_n 0, 1) := by decide +kernel
theorem d_M_stemOneB_106 : decode b_M_stemOneB 106 = .ok (.getfield 207, 3) := by decide +kernel
theorem d_M_stemOneB_109 : decode b_M_stemOneB 109 = .ok (.iload_n 1, 1) := by decide +kernel
theorem d_M_stemOneB_110 : decode b_M_stemOneB 110 = .ok (.iconst 2, 1) := by decide +kernel
theorem d_M_stemOneB_111 : decode b_M_stemOneB 111 = .ok (.isub, 1) := by decide +kernel
theorem d_M_stemOneB_112 : decode b_M_stemOneB 112 = .ok (.iaload, 1) := by decide +kernel
theorem d_M_stemOneB_113 : decode b_M_stemOneB 113 = .ok (.if_icmp .ne 17, 3) := by decide +kernel
theorem d_M_stemOneB_116 : decode b_M_stemOneB 116 = .ok (.aload_n 0, 1) := by decide +kernel
theorem d_M_stemOneB_117 : decode b_M_stemOneB 117 = .ok (.iload_n 1, 1) := by decide +kernel
theorem d_M_stemOneB_118 : decode b_M_stemOneB 118 = .ok (.iconst 1, 1) := by decide +kernel
theorem d_M_stemOneB_119 : decode b_M_stemOneB 119 = .ok (.isub, 1) := by decide +kernel
theorem d_M_stemOneB_120 : decode b_M_stemOneB 120 = .ok (.invokevirtual 277, 3) := by decide +kernel
theorem d_M_stemOneB_123 : decode b_M_stemOneB 123 = .ok (.ifCond .ne 7, 3) := by decide +kernel
theorem d_M_stemOneB_126 : decode b_M_stemOneB 126 = .ok (.iconst 1, 1) := by decide +kernel
theorem d_M_stemOneB_127 : decode b_M_stemOneB 127 = .ok (.goto 4, 3) := by decide +kernel
theorem d_M_stemOneB_130 : decode b_M_stemOneB 130 = .ok (.iconst 0, 1) := by decide +kernel
theorem d_M_stemOneB_131 : decode b_M_stemOneB 131 = .ok (.istore_n 2, 1) := by decide +kernel
theorem d_M_stemOneB_132 : decode b_M_stemOneB 132 = .ok (.aload_n 0, 1) := by decide +kernel
theorem d_M_stemOneB_133 : decode b_M_stemOneB 133 = .ok (.ldc 19, 2) := by decide +kernel
theorem d_M_stemOneB_135 : decode b_M_stemOneB 135 = .ok (.invokevirtual 270, 3) := by decide +kernel
theorem d_M_stemOneB_138 : decode b_M_stemOneB 138 = .ok (.ifCond .ne 23, 3) := by decide +kernel
theorem d_M_stemOneB_141 : decode b_M_stemOneB 141 = .ok (.aload_n 0, 1) := by decide +kernel
theorem d_M_stemOneB_142 : decode b_M_stemOneB 142 = .ok (.ldc_w 322, 3) := by decide +kernel
theorem d_M_stemOneB_145 : decode b_M_stemOneB 145 = .ok (.invokevirtual 270, 3) := by decide +kernel
theorem d_M_stemOneB_148 : decode b_M_stemOneB 148 = .ok (.ifCond .ne 13, 3) := by decide +kernel
theorem d_M_stemOneB_151 : decode b_M_stemOneB 151 = .ok (.aload_n 0, 1) := by decide +kernel
theorem d_M_stemOneB_152 : decode b_M_stemOneB 152 = .ok (.ldc_w 324, 3) := by decide +kernel
theorem d_M_stemOneB_155 : decode b_M_stemOneB 155 = .ok (.invokevirtual 270, 3) := by decide +kernel
theorem d_M_stemOneB_158 : decode b_M_stemOneB 158 = .ok (.ifCond .eq 13, 3) := by decide +kernel
theorem d_M_stemOneB_161 : decode b_M_stemOneB 161 = .ok (.aload_n 0, 1) := by decide +kernel
theorem d_M_stemOneB_162 : decode b_M_stemOneB 162 = .ok (.iload_n 1, 1) := by decide +kernel
theorem d_M_stemOneB_163 : decode b_M_stemOneB 163 = .ok (.ldc 115, 2) := by decide +kernel
theorem d_M_stemOneB_165 : decode b_M_stemOneB 165 = .ok (.invokevirtual 303, 3) := by decide +kernel
theorem d_M_stemOneB_168 : decode b_M_stemOneB 168 = .ok (.goto 83, 3) := by decide +kernel
theorem d_M_stemOneB_171 : decode b_M_stemOneB 171 = .ok (.iload_n 2, 1) := by decide +kernel
theorem d_M_stemOneB_172 : decode b_M_stemOneB 172 = .ok (.ifCond .eq 55, 3) := by decide +kernel
