theorem dX5_valueOf_172 : decode cX5_valueOf 172 = .ok (.if_icmp .ne 9, 3) := by decide +kernel
theorem dX5_valueOf_175 : decode cX5_valueOf 175 = .ok (.iload 9, 2) := by decide +kernel
theorem dX5_valueOf_177 : decode cX5_valueOf 177 = .ok (.ineg, 1) := by decide +kernel
theorem dX5_valueOf_178 : decode cX5_valueOf 178 = .ok (.goto 16, 3) := by decide +kernel
theorem dX5_valueOf_181 : decode cX5_valueOf 181 = .ok (.iload 9, 2) := by decide +kernel
theorem dX5_valueOf_183 : decode cX5_valueOf 183 = .ok (.ifCond .ne 7, 3) := by decide +kernel
theorem dX5_valueOf_186 : decode cX5_valueOf 186 = .ok (.iconst 1, 1) := by decide +kernel
theorem dX5_valueOf_187 : decode cX5_valueOf 187 = .ok (.goto 4, 3) := by decide +kernel
theorem dX5_valueOf_190 : decode cX5_valueOf 190 = .ok (.iconst 0, 1) := by decide +kernel
theorem dX5_valueOf_191 : decode cX5_valueOf 191 = .ok (.invokestatic 24, 3) := by decide +kernel
theorem dX5_valueOf_194 : decode cX5_valueOf 194 = .ok (.iastore, 1) := by decide +kernel
theorem dX5_valueOf_195 : decode cX5_valueOf 195 = .ok (.goto 34, 3) := by decide +kernel
theorem dX5_valueOf_198 : decode cX5_valueOf 198 = .ok (.iload 6, 2) := by decide +kernel
theorem dX5_valueOf_200 : decode cX5_valueOf 200 = .ok (.iconst 2, 1) := by decide +kernel
theorem dX5_valueOf_201 : decode cX5_valueOf 201 = .ok (.if_icmp .lt 28, 3) := by decide +kernel
theorem dX5_valueOf_204 : decode cX5_valueOf 204 = .ok (.iinc 6 (-1), 3) := by decide +kernel
theorem dX5_valueOf_207 : decode cX5_valueOf 207 = .ok (.aload_n 3, 1) := by decide +kernel
theorem dX5_valueOf_208 : decode cX5_valueOf 208 = .ok (.iload 6, 2) := by decide +kernel
theorem dX5_valueOf_210 : decode cX5_valueOf 210 = .ok (.iconst 1, 1) := by decide +kernel
theorem dX5_valueOf_211 : decode cX5_valueOf 211 = .ok (.isub, 1) := by decide +kernel
theorem dX5_valueOf_212 : decode cX5_valueOf 212 = .ok (.iload 8, 2) := by decide +kernel
theorem dX5_valueOf_214 : decode cX5_valueOf 214 = .ok (.ineg, 1) := by decide +kernel
theorem dX5_valueOf_215 : decode cX5_valueOf 215 = .ok (.aload_n 3, 1) := by decide +kernel
theorem dX5_valueOf_216 : decode cX5_valueOf 216 = .ok (.iload 6, 2) := by decide +kernel
theorem dX5_valueOf_218 : decode cX5_valueOf 218 = .ok (.iconst 1, 1) := by decide +kernel
theorem dX5_valueOf_219 : decode cX5_valueOf 219 = .ok (.isub, 1) := by decide +kernel
theorem dX5_valueOf_220 : decode cX5_valueOf 220 = .ok (.iaload, 1) := by decide +kernel
theorem dX5_valueOf_221 : decode cX5_valueOf 221 = .ok (.aload_n 3, 1) := by decide +kernel
theorem dX5_valueOf_222 : decode cX5_valueOf 222 = .ok (.iload 6, 2) := by decide +kernel
theorem dX5_valueOf_224 : decode cX5_valueOf 224 = .ok (.iaload, 1) := by decide +kernel
theorem dX5_valueOf_225 : decode cX5_valueOf 225 = .ok (.invokestatic 28, 3) := by decide +kernel
theorem dX5_valueOf_228 : decode cX5_valueOf 228 = .ok (.iastore, 1) := by decide +kernel
theorem dX5_valueOf_229 : decode cX5_valueOf 229 = .ok (.iinc 7 1, 3) := by decide +kernel
theorem dX5_valueOf_232 : decode cX5_valueOf 232 = .ok (.goto (-169), 3) := by decide +kernel
theorem dX5_valueOf_235 : decode cX5_valueOf 235 = .ok (.iload 6, 2) := by decide +kernel
theorem dX5_valueOf_237 : decode cX5_valueOf 237 = .ok (.ifCond .le 12, 3) := by decide +kernel
theorem dX5_valueOf_240 : decode cX5_valueOf 240 = .ok (.aload_n 3, 1) := by decide +kernel
theorem dX5_valueOf_241 : decode cX5_valueOf 241 = .ok (.iload 6, 2) := by decide +kernel
theorem dX5_valueOf_243 : decode cX5_valueOf 243 = .ok (.iconst 1, 1) := by decide +kernel
theorem dX5_valueOf_244 : decode cX5_valueOf 244 = .ok (.isub, 1) := by decide +kernel
theorem dX5_valueOf_245 : decode cX5_valueOf 245 = .ok (.iaload, 1) := by decide +kernel
theorem dX5_valueOf_246 : decode cX5_valueOf 246 = .ok (.goto 4, 3) := by decide +kernel
theorem dX5_valueOf_249 : decode cX5_valueOf 249 = .ok (.iconst 0, 1) := by decide +kernel
theorem dX5_valueOf_250 : decode cX5_valueOf 250 = .ok (.ireturn, 1) := by decide +kernel
theorem dX5_joined_0 : decode cX5_joined 0 = .ok (.iload_n 0, 1) := by decide +kernel
theorem dX5_joined_1 : decode cX5_joined 1 = .ok (.lookupswitch 129 #[(9, 59), (10, 76), (43, 121), (45, 125), (60, 93), (61, 107)], 59) := by decide +kernel
theorem dX5_joined_60 : decode cX5_joined 60 = .ok (.iload_n 1, 1) := by decide +kernel
theorem dX5_joined_61 : decode cX5_joined 61 = .ok (.ifCond .ne 7, 3) := by decide +kernel
theorem dX5_joined_64 : decode cX5_joined 64 = .ok (.iload_n 2, 1) := by decide +kernel
theorem dX5_joined_65 : decode cX5_joined 65 = .ok (.ifCond .eq 7, 3) := by decide +kernel
theorem dX5_joined_68 : decode cX5_joined 68 = .ok (.iconst 1, 1) := by decide +kernel
theorem dX5_joined_69 : decode cX5_joined 69 = .ok (.goto 4, 3) := by decide +kernel
theorem dX5_joined_72 : decode cX5_joined 72 = .ok (.iconst 0, 1) := by decide +kernel
theorem dX5_joined_73 : decode cX5_joined 73 = .ok (.invokestatic 24, 3) := by decide +kernel
theorem dX5_joined_76 : decode cX5_joined 76 = .ok (.ireturn, 1) := by decide +kernel
theorem dX5_joined_77 : decode cX5_joined 77 = .ok (.iload_n 1, 1) := by decide +kernel
theorem dX5_joined_78 : decode cX5_joined 78 = .ok (.ifCond .eq 11, 3) := by decide +kernel
theorem dX5_joined_81 : decode cX5_joined 81 = .ok (.iload_n 2, 1) := by decide +kernel
theorem dX5_joined_82 : decode cX5_joined 82 = .ok (.ifCond .eq 7, 3) := by decide +kernel
theorem dX5_joined_85 : decode cX5_joined 85 = .ok (.iconst 1, 1) := by decide +kernel
theorem dX5_joined_86 : decode cX5_joined 86 = .ok (.goto 4, 3) := by decide +kernel
theorem dX5_joined_89 : decode cX5_joined 89 = .ok (.iconst 0, 1) := by decide +kernel
theorem dX5_joined_90 : decode cX5_joined 90 = .ok (.invokestatic 24, 3) := by decide +kernel
theorem dX5_joined_93 : decode cX5_joined 93 = .ok (.ireturn, 1) := by decide +kernel
theorem dX5_joined_94 : decode cX5_joined 94 = .ok (.iload_n 1, 1) := by decide +kernel
theorem dX5_joined_95 : decode cX5_joined 95 = .ok (.iload_n 2, 1) := by decide +kernel
theorem dX5_joined_96 : decode cX5_joined 96 = .ok (.if_icmp .ge 7, 3) := by decide +kernel
theorem dX5_joined_99 : decode cX5_joined 99 = .ok (.iconst 1, 1) := by decide +kernel
theorem dX5_joined_100 : decode cX5_joined 100 = .ok (.goto 4, 3) := by decide +kernel
theorem dX5_joined_103 : decode cX5_joined 103 = .ok (.iconst 0, 1) := by decide +kernel
theorem dX5_joined_104 : decode cX5_joined 104 = .ok (.invokestatic 24, 3) := by decide +kernel
theorem dX5_joined_107 : decode cX5_joined 107 = .ok (.ireturn, 1) := by decide +kernel
theorem dX5_joined_108 : decode cX5_joined 108 = .ok (.iload_n 1, 1) := by decide +kernel
theorem dX5_joined_109 : decode cX5_joined 109 = .ok (.iload_n 2, 1) := by decide +kernel
theorem dX5_joined_110 : decode cX5_joined 110 = .ok (.if_icmp .ne 7, 3) := by decide +kernel
theorem dX5_joined_113 : decode cX5_joined 113 = .ok (.iconst 1, 1) := by decide +kernel
theorem dX5_joined_114 : decode cX5_joined 114 = .ok (.goto 4, 3) := by decide +kernel
theorem dX5_joined_117 : decode cX5_joined 117 = .ok (.iconst 0, 1) := by decide +kernel
theorem dX5_joined_118 : decode cX5_joined 118 = .ok (.invokestatic 24, 3) := by decide +kernel
theorem dX5_joined_121 : decode cX5_joined 121 = .ok (.ireturn, 1) := by decide +kernel
theorem dX5_joined_122 : decode cX5_joined 122 = .ok (.iload_n 1, 1) := by decide +kernel
theorem dX5_joined_123 : decode cX5_joined 123 = .ok (.iload_n 2, 1) := by decide +kernel
theorem dX5_joined_124 : decode cX5_joined 124 = .ok (.iadd, 1) := by decide +kernel
theorem dX5_joined_125 : decode cX5_joined 125 = .ok (.ireturn, 1) := by decide +kernel
theorem dX5_joined_126 : decode cX5_joined 126 = .ok (.iload_n 1, 1) := by decide +kernel
theorem dX5_joined_127 : decode cX5_joined 127 = .ok (.iload_n 2, 1) := by decide +kernel
theorem dX5_joined_128 : decode cX5_joined 128 = .ok (.isub, 1) := by decide +kernel
theorem dX5_joined_129 : decode cX5_joined 129 = .ok (.ireturn, 1) := by decide +kernel
theorem dX5_joined_130 : decode cX5_joined 130 = .ok (.iload_n 1, 1) := by decide +kernel
theorem dX5_joined_131 : decode cX5_joined 131 = .ok (.iload_n 2, 1) := by decide +kernel
theorem dX5_joined_132 : decode cX5_joined 132 = .ok (.imul, 1) := by decide +kernel
theorem dX5_joined_133 : decode cX5_joined 133 = .ok (.ireturn, 1) := by decide +kernel
theorem dX5_truth_0 : decode cX5_truth 0 = .ok (.iload_n 0, 1) := by decide +kernel
theorem dX5_truth_1 : decode cX5_truth 1 = .ok (.ifCond .eq 7, 3) := by decide +kernel
theorem dX5_truth_4 : decode cX5_truth 4 = .ok (.iconst 1, 1) := by decide +kernel
theorem dX5_truth_5 : decode cX5_truth 5 = .ok (.goto 4, 3) := by decide +kernel
theorem dX5_truth_8 : decode cX5_truth 8 = .ok (.iconst 0, 1) := by decide +kernel
theorem dX5_truth_9 : decode cX5_truth 9 = .ok (.ireturn, 1) := by decide +kernel
theorem dX6_init_0 : decode cX6_init 0 = .ok (.aload_n 0, 1) := by decide +kernel
theorem dX6_init_1 : decode cX6_init 1 = .ok (.invokespecial 3, 3) := by decide +kernel
theorem dX6_init_4 : decode cX6_init 4 = .ok (.aload_n 0, 1) := by decide +kernel
theorem dX6_init_5 : decode cX6_init 5 = .ok (.bipush 40, 2) := by decide +kernel
theorem dX6_init_7 : decode cX6_init 7 = .ok (.newarray .int, 2) := by decide +kernel
theorem dX6_init_9 : decode cX6_init 9 = .ok (.putfield 9, 3) := by decide +kernel
theorem dX6_init_12 : decode cX6_init 12 = .ok (.aload_n 0, 1) := by decide +kernel
theorem dX6_init_13 : decode cX6_init 13 = .ok (.iconst (-1), 1) := by decide +kernel
theorem dX6_init_14 : decode cX6_init 14 = .ok (.putfield 15, 3) := by decide +kernel
theorem dX6_init_17 : decode cX6_init 17 = .ok (.return_, 1) := by decide +kernel
theorem dX6_become_0 : decode cX6_become 0 = .ok (.aload_n 0, 1) := by decide +kernel
theorem dX6_become_1 : decode cX6_become 1 = .ok (.getfield 9, 3) := by decide +kernel
theorem dX6_become_4 : decode cX6_become 4 = .ok (.iconst 0, 1) := by decide +kernel
theorem dX6_become_5 : decode cX6_become 5 = .ok (.invokestatic 19, 3) := by decide +kernel
theorem dX6_become_8 : decode cX6_become 8 = .ok (.aload_n 0, 1) := by decide +kernel
theorem dX6_become_9 : decode cX6_become 9 = .ok (.iload_n 1, 1) := by decide +kernel
theorem dX6_become_10 : decode cX6_become 10 = .ok (.putfield 15, 3) := by decide +kernel
theorem dX6_become_13 : decode cX6_become 13 = .ok (.aload_n 0, 1) := by decide +kernel
theorem dX6_become_14 : decode cX6_become 14 = .ok (.iload_n 2, 1) := by decide +kernel
theorem dX6_become_15 : decode cX6_become 15 = .ok (.putfield 25, 3) := by decide +kernel
theorem dX6_become_18 : decode cX6_become 18 = .ok (.return_, 1) := by decide +kernel
theorem dX6_cut_0 : decode cX6_cut 0 = .ok (.aload_n 0, 1) := by decide +kernel
theorem dX6_cut_1 : decode cX6_cut 1 = .ok (.getfield 15, 3) := by decide +kernel
theorem dX6_cut_4 : decode cX6_cut 4 = .ok (.ifCond .ne 8, 3) := by decide +kernel
theorem dX6_cut_7 : decode cX6_cut 7 = .ok (.iload_n 1, 1) := by decide +kernel
theorem dX6_cut_8 : decode cX6_cut 8 = .ok (.i2b, 1) := by decide +kernel
theorem dX6_cut_9 : decode cX6_cut 9 = .ok (.goto 17, 3) := by decide +kernel
theorem dX6_cut_12 : decode cX6_cut 12 = .ok (.aload_n 0, 1) := by decide +kernel
theorem dX6_cut_13 : decode cX6_cut 13 = .ok (.getfield 15, 3) := by decide +kernel
theorem dX6_cut_16 : decode cX6_cut 16 = .ok (.iconst 1, 1) := by decide +kernel
theorem dX6_cut_17 : decode cX6_cut 17 = .ok (.if_icmp .ne 8, 3) := by decide +kernel
theorem dX6_cut_20 : decode cX6_cut 20 = .ok (.iload_n 1, 1) := by decide +kernel
theorem dX6_cut_21 : decode cX6_cut 21 = .ok (.i2s, 1) := by decide +kernel
theorem dX6_cut_22 : decode cX6_cut 22 = .ok (.goto 4, 3) := by decide +kernel
theorem dX6_cut_25 : decode cX6_cut 25 = .ok (.iload_n 1, 1) := by decide +kernel
theorem dX6_cut_26 : decode cX6_cut 26 = .ok (.ireturn, 1) := by decide +kernel
theorem dX6_has_0 : decode cX6_has 0 = .ok (.iload_n 1, 1) := by decide +kernel
theorem dX6_has_1 : decode cX6_has 1 = .ok (.ifCond .lt 21, 3) := by decide +kernel
theorem dX6_has_4 : decode cX6_has 4 = .ok (.iload_n 2, 1) := by decide +kernel
theorem dX6_has_5 : decode cX6_has 5 = .ok (.ifCond .lt 17, 3) := by decide +kernel
theorem dX6_has_8 : decode cX6_has 8 = .ok (.iload_n 1, 1) := by decide +kernel
theorem dX6_has_9 : decode cX6_has 9 = .ok (.aload_n 0, 1) := by decide +kernel
theorem dX6_has_10 : decode cX6_has 10 = .ok (.getfield 25, 3) := by decide +kernel
theorem dX6_has_13 : decode cX6_has 13 = .ok (.iload_n 2, 1) := by decide +kernel
theorem dX6_has_14 : decode cX6_has 14 = .ok (.isub, 1) := by decide +kernel
theorem dX6_has_15 : decode cX6_has 15 = .ok (.if_icmp .gt 7, 3) := by decide +kernel
theorem dX6_has_18 : decode cX6_has 18 = .ok (.iconst 1, 1) := by decide +kernel
theorem dX6_has_19 : decode cX6_has 19 = .ok (.goto 4, 3) := by decide +kernel
theorem dX6_has_22 : decode cX6_has 22 = .ok (.iconst 0, 1) := by decide +kernel
theorem dX6_has_23 : decode cX6_has 23 = .ok (.ireturn, 1) := by decide +kernel
theorem dX7_init_0 : decode cX7_init 0 = .ok (.aload_n 0, 1) := by decide +kernel
theorem dX7_init_1 : decode cX7_init 1 = .ok (.invokespecial 1, 3) := by decide +kernel
theorem dX7_init_4 : decode cX7_init 4 = .ok (.return_, 1) := by decide +kernel
theorem dX7_judge_0 : decode cX7_judge 0 = .ok (.aload_n 0, 1) := by decide +kernel
theorem dX7_judge_1 : decode cX7_judge 1 = .ok (.dup, 1) := by decide +kernel
theorem dX7_judge_2 : decode cX7_judge 2 = .ok (.getfield 7, 3) := by decide +kernel
theorem dX7_judge_5 : decode cX7_judge 5 = .ok (.iconst 1, 1) := by decide +kernel
theorem dX7_judge_6 : decode cX7_judge 6 = .ok (.iadd, 1) := by decide +kernel
theorem dX7_judge_7 : decode cX7_judge 7 = .ok (.putfield 7, 3) := by decide +kernel
theorem dX7_judge_10 : decode cX7_judge 10 = .ok (.iload_n 3, 1) := by decide +kernel
theorem dX7_judge_11 : decode cX7_judge 11 = .ok (.ifCond .ne 36, 3) := by decide +kernel
theorem dX7_judge_14 : decode cX7_judge 14 = .ok (.aload_n 0, 1) := by decide +kernel
theorem dX7_judge_15 : decode cX7_judge 15 = .ok (.dup, 1) := by decide +kernel
theorem dX7_judge_16 : decode cX7_judge 16 = .ok (.getfield 13, 3) := by decide +kernel
theorem dX7_judge_19 : decode cX7_judge 19 = .ok (.iconst 1, 1) := by decide +kernel
theorem dX7_judge_20 : decode cX7_judge 20 = .ok (.iadd, 1) := by decide +kernel
theorem dX7_judge_21 : decode cX7_judge 21 = .ok (.putfield 13, 3) := by decide +kernel
theorem dX7_judge_24 : decode cX7_judge 24 = .ok (.aload_n 0, 1) := by decide +kernel
theorem dX7_judge_25 : decode cX7_judge 25 = .ok (.dup, 1) := by decide +kernel
theorem dX7_judge_26 : decode cX7_judge 26 = .ok (.getfield 16, 3) := by decide +kernel
theorem dX7_judge_29 : decode cX7_judge 29 = .ok (.iload 4, 2) := by decide +kernel
theorem dX7_judge_31 : decode cX7_judge 31 = .ok (.iload_n 1, 1) := by decide +kernel
theorem dX7_judge_32 : decode cX7_judge 32 = .ok (.if_icmp .ne 7, 3) := by decide +kernel
theorem dX7_judge_35 : decode cX7_judge 35 = .ok (.iconst 1, 1) := by decide +kernel
theorem dX7_judge_36 : decode cX7_judge 36 = .ok (.goto 4, 3) := by decide +kernel
theorem dX7_judge_39 : decode cX7_judge 39 = .ok (.iconst 0, 1) := by decide +kernel
theorem dX7_judge_40 : decode cX7_judge 40 = .ok (.iadd, 1) := by decide +kernel
theorem dX7_judge_41 : decode cX7_judge 41 = .ok (.putfield 16, 3) := by decide +kernel
theorem dX7_judge_44 : decode cX7_judge 44 = .ok (.goto 38, 3) := by decide +kernel
theorem dX7_judge_47 : decode cX7_judge 47 = .ok (.iload_n 1, 1) := by decide +kernel
theorem dX7_judge_48 : decode cX7_judge 48 = .ok (.iload_n 2, 1) := by decide +kernel
theorem dX7_judge_49 : decode cX7_judge 49 = .ok (.if_icmp .eq 33, 3) := by decide +kernel
theorem dX7_judge_52 : decode cX7_judge 52 = .ok (.aload_n 0, 1) := by decide +kernel
theorem dX7_judge_53 : decode cX7_judge 53 = .ok (.dup, 1) := by decide +kernel
theorem dX7_judge_54 : decode cX7_judge 54 = .ok (.getfield 19, 3) := by decide +kernel
theorem dX7_judge_57 : decode cX7_judge 57 = .ok (.iconst 1, 1) := by decide +kernel
theorem dX7_judge_58 : decode cX7_judge 58 = .ok (.iadd, 1) := by decide +kernel
theorem dX7_judge_59 : decode cX7_judge 59 = .ok (.putfield 19, 3) := by decide +kernel
theorem dX7_judge_62 : decode cX7_judge 62 = .ok (.aload_n 0, 1) := by decide +kernel
theorem dX7_judge_63 : decode cX7_judge 63 = .ok (.dup, 1) := by decide +kernel
theorem dX7_judge_64 : decode cX7_judge 64 = .ok (.getfield 22, 3) := by decide +kernel
theorem dX7_judge_67 : decode cX7_judge 67 = .ok (.iload 4, 2) := by decide +kernel
theorem dX7_judge_69 : decode cX7_judge 69 = .ok (.iload_n 2, 1) := by decide +kernel
theorem dX7_judge_70 : decode cX7_judge 70 = .ok (.if_icmp .ne 7, 3) := by decide +kernel
theorem dX7_judge_73 : decode cX7_judge 73 = .ok (.iconst 1, 1) := by decide +kernel
theorem dX7_judge_74 : decode cX7_judge 74 = .ok (.goto 4, 3) := by decide +kernel
theorem dX7_judge_77 : decode cX7_judge 77 = .ok (.iconst 0, 1) := by decide +kernel
theorem dX7_judge_78 : decode cX7_judge 78 = .ok (.iadd, 1) := by decide +kernel
theorem dX7_judge_79 : decode cX7_judge 79 = .ok (.putfield 22, 3) := by decide +kernel
theorem dX7_judge_82 : decode cX7_judge 82 = .ok (.return_, 1) := by decide +kernel
theorem dX8_init_0 : decode cX8_init 0 = .ok (.aload_n 0, 1) := by decide +kernel
theorem dX8_init_1 : decode cX8_init 1 = .ok (.invokespecial 1, 3) := by decide +kernel
theorem dX8_init_4 : decode cX8_init 4 = .ok (.aload_n 0, 1) := by decide +kernel
theorem dX8_init_5 : decode cX8_init 5 = .ok (.iload_n 1, 1) := by decide +kernel
theorem dX8_init_6 : decode cX8_init 6 = .ok (.putfield 7, 3) := by decide +kernel
theorem dX8_init_9 : decode cX8_init 9 = .ok (.aload_n 0, 1) := by decide +kernel
theorem dX8_init_10 : decode cX8_init 10 = .ok (.iload_n 2, 1) := by decide +kernel
theorem dX8_init_11 : decode cX8_init 11 = .ok (.putfield 13, 3) := by decide +kernel
theorem dX8_init_14 : decode cX8_init 14 = .ok (.aload_n 0, 1) := by decide +kernel
theorem dX8_init_15 : decode cX8_init 15 = .ok (.iload_n 3, 1) := by decide +kernel
theorem dX8_init_16 : decode cX8_init 16 = .ok (.putfield 16, 3) := by decide +kernel
theorem dX8_init_19 : decode cX8_init 19 = .ok (.aload_n 0, 1) := by decide +kernel
theorem dX8_init_20 : decode cX8_init 20 = .ok (.iload 4, 2) := by decide +kernel
theorem dX8_init_22 : decode cX8_init 22 = .ok (.putfield 19, 3) := by decide +kernel
theorem dX8_init_25 : decode cX8_init 25 = .ok (.aload_n 0, 1) := by decide +kernel
theorem dX8_init_26 : decode cX8_init 26 = .ok (.iload 5, 2) := by decide +kernel
theorem dX8_init_28 : decode cX8_init 28 = .ok (.putfield 22, 3) := by decide +kernel
theorem dX8_init_31 : decode cX8_init 31 = .ok (.return_, 1) := by decide +kernel
theorem dX8_taste_0 : decode cX8_taste 0 = .ok (.iload_n 1, 1) := by decide +kernel
theorem dX8_taste_1 : decode cX8_taste 1 = .ok (.ifCond .ne 14, 3) := by decide +kernel
theorem dX8_taste_4 : decode cX8_taste 4 = .ok (.aload_n 0, 1) := by decide +kernel
theorem dX8_taste_5 : decode cX8_taste 5 = .ok (.getfield 22, 3) := by decide +kernel
theorem dX8_taste_8 : decode cX8_taste 8 = .ok (.sipush 10000, 3) := by decide +kernel
theorem dX8_taste_11 : decode cX8_taste 11 = .ok (.idiv, 1) := by decide +kernel
theorem dX8_taste_12 : decode cX8_taste 12 = .ok (.goto 28, 3) := by decide +kernel
theorem dX8_taste_15 : decode cX8_taste 15 = .ok (.iload_n 1, 1) := by decide +kernel
theorem dX8_taste_16 : decode cX8_taste 16 = .ok (.iconst 1, 1) := by decide +kernel
theorem dX8_taste_17 : decode cX8_taste 17 = .ok (.if_icmp .ne 16, 3) := by decide +kernel
theorem dX8_taste_20 : decode cX8_taste 20 = .ok (.aload_n 0, 1) := by decide +kernel
theorem dX8_taste_21 : decode cX8_taste 21 = .ok (.getfield 22, 3) := by decide +kernel
theorem dX8_taste_24 : decode cX8_taste 24 = .ok (.bipush 100, 2) := by decide +kernel
theorem dX8_taste_26 : decode cX8_taste 26 = .ok (.idiv, 1) := by decide +kernel
theorem dX8_taste_27 : decode cX8_taste 27 = .ok (.bipush 100, 2) := by decide +kernel
theorem dX8_taste_29 : decode cX8_taste 29 = .ok (.irem, 1) := by decide +kernel
theorem dX8_taste_30 : decode cX8_taste 30 = .ok (.goto 10, 3) := by decide +kernel
theorem dX8_taste_33 : decode cX8_taste 33 = .ok (.aload_n 0, 1) := by decide +kernel
theorem dX8_taste_34 : decode cX8_taste 34 = .ok (.getfield 22, 3) := by decide +kernel
theorem dX8_taste_37 : decode cX8_taste 37 = .ok (.bipush 100, 2) := by decide +kernel
theorem dX8_taste_39 : decode cX8_taste 39 = .ok (.irem, 1) := by decide +kernel
theorem dX8_taste_40 : decode cX8_taste 40 = .ok (.ireturn, 1) := by decide +kernel
theorem dX8_remaining_0 : decode cX8_remaining 0 = .ok (.iconst 0, 1) := by decide +kernel
theorem dX8_remaining_1 : decode cX8_remaining 1 = .ok (.aload_n 0, 1) := by decide +kernel
theorem dX8_remaining_2 : decode cX8_remaining 2 = .ok (.getfield 16, 3) := by decide +kernel
theorem dX8_remaining_5 : decode cX8_remaining 5 = .ok (.aload_n 0, 1) := by decide +kernel
theorem dX8_remaining_6 : decode cX8_remaining 6 = .ok (.getfield 25, 3) := by decide +kernel
theorem dX8_remaining_9 : decode cX8_remaining 9 = .ok (.isub, 1) := by decide +kernel
theorem dX8_remaining_10 : decode cX8_remaining 10 = .ok (.invokestatic 28, 3) := by decide +kernel
theorem dX8_remaining_13 : decode cX8_remaining 13 = .ok (.ireturn, 1) := by decide +kernel
theorem dX9_init_0 : decode cX9_init 0 = .ok (.aload_n 0, 1) := by decide +kernel
theorem dX9_init_1 : decode cX9_init 1 = .ok (.invokespecial 1, 3) := by decide +kernel
theorem dX9_init_4 : decode cX9_init 4 = .ok (.aload_n 0, 1) := by decide +kernel
theorem dX9_init_5 : decode cX9_init 5 = .ok (.bipush 8, 2) := by decide +kernel
theorem dX9_init_7 : decode cX9_init 7 = .ok (.anewarray 9, 3) := by decide +kernel
theorem dX9_init_10 : decode cX9_init 10 = .ok (.putfield 11, 3) := by decide +kernel
theorem dX9_init_13 : decode cX9_init 13 = .ok (.aload_n 0, 1) := by decide +kernel
theorem dX9_init_14 : decode cX9_init 14 = .ok (.bipush 24, 2) := by decide +kernel
theorem dX9_init_16 : decode cX9_init 16 = .ok (.anewarray 15, 3) := by decide +kernel
theorem dX9_init_19 : decode cX9_init 19 = .ok (.putfield 17, 3) := by decide +kernel
theorem dX9_init_22 : decode cX9_init 22 = .ok (.aload_n 0, 1) := by decide +kernel
theorem dX9_init_23 : decode cX9_init 23 = .ok (.bipush 6, 2) := by decide +kernel
theorem dX9_init_25 : decode cX9_init 25 = .ok (.anewarray 21, 3) := by decide +kernel
theorem dX9_init_28 : decode cX9_init 28 = .ok (.putfield 23, 3) := by decide +kernel
theorem dX9_init_31 : decode cX9_init 31 = .ok (.aload_n 0, 1) := by decide +kernel
theorem dX9_init_32 : decode cX9_init 32 = .ok (.new 27, 3) := by decide +kernel
theorem dX9_init_35 : decode cX9_init 35 = .ok (.dup, 1) := by decide +kernel
theorem dX9_init_36 : decode cX9_init 36 = .ok (.invokespecial 29, 3) := by decide +kernel
theorem dX9_init_39 : decode cX9_init 39 = .ok (.putfield 30, 3) := by decide +kernel
theorem dX9_init_42 : decode cX9_init 42 = .ok (.aload_n 0, 1) := by decide +kernel
theorem dX9_init_43 : decode cX9_init 43 = .ok (.new 34, 3) := by decide +kernel
theorem dX9_init_46 : decode cX9_init 46 = .ok (.dup, 1) := by decide +kernel
theorem dX9_init_47 : decode cX9_init 47 = .ok (.invokespecial 36, 3) := by decide +kernel
theorem dX9_init_50 : decode cX9_init 50 = .ok (.putfield 37, 3) := by decide +kernel
theorem dX9_init_53 : decode cX9_init 53 = .ok (.aload_n 0, 1) := by decide +kernel
theorem dX9_init_54 : decode cX9_init 54 = .ok (.new 41, 3) := by decide +kernel
theorem dX9_init_57 : decode cX9_init 57 = .ok (.dup, 1) := by decide +kernel
theorem dX9_init_58 : decode cX9_init 58 = .ok (.invokespecial 43, 3) := by decide +kernel
theorem dX9_init_61 : decode cX9_init 61 = .ok (.putfield 44, 3) := by decide +kernel
theorem dX9_init_64 : decode cX9_init 64 = .ok (.aload_n 0, 1) := by decide +kernel
theorem dX9_init_65 : decode cX9_init 65 = .ok (.bipush 6, 2) := by decide +kernel
theorem dX9_init_67 : decode cX9_init 67 = .ok (.anewarray 48, 3) := by decide +kernel
theorem dX9_init_70 : decode cX9_init 70 = .ok (.putfield 50, 3) := by decide +kernel
theorem dX9_init_73 : decode cX9_init 73 = .ok (.aload_n 0, 1) := by decide +kernel
theorem dX9_init_74 : decode cX9_init 74 = .ok (.iconst 4, 1) := by decide +kernel
theorem dX9_init_75 : decode cX9_init 75 = .ok (.anewarray 54, 3) := by decide +kernel
theorem dX9_init_78 : decode cX9_init 78 = .ok (.putfield 56, 3) := by decide +kernel
theorem dX9_init_81 : decode cX9_init 81 = .ok (.aload_n 0, 1) := by decide +kernel
theorem dX9_init_82 : decode cX9_init 82 = .ok (.new 60, 3) := by decide +kernel
theorem dX9_init_85 : decode cX9_init 85 = .ok (.dup, 1) := by decide +kernel
theorem dX9_init_86 : decode cX9_init 86 = .ok (.invokespecial 62, 3) := by decide +kernel
theorem dX9_init_89 : decode cX9_init 89 = .ok (.putfield 63, 3) := by decide +kernel
theorem dX9_init_92 : decode cX9_init 92 = .ok (.aload_n 0, 1) := by decide +kernel
theorem dX9_init_93 : decode cX9_init 93 = .ok (.bipush 6, 2) := by decide +kernel
theorem dX9_init_95 : decode cX9_init 95 = .ok (.newarray .int, 2) := by decide +kernel
theorem dX9_init_97 : decode cX9_init 97 = .ok (.putfield 67, 3) := by decide +kernel
theorem dX9_init_100 : decode cX9_init 100 = .ok (.aload_n 0, 1) := by decide +kernel
theorem dX9_init_101 : decode cX9_init 101 = .ok (.sipush 160, 3) := by decide +kernel
theorem dX9_init_104 : decode cX9_init 104 = .ok (.newarray .int, 2) := by decide +kernel
theorem dX9_init_106 : decode cX9_init 106 = .ok (.putfield 71, 3) := by decide +kernel
theorem dX9_init_109 : decode cX9_init 109 = .ok (.aload_n 0, 1) := by decide +kernel
theorem dX9_init_110 : decode cX9_init 110 = .ok (.bipush 10, 2) := by decide +kernel
theorem dX9_init_112 : decode cX9_init 112 = .ok (.newarray .int, 2) := by decide +kernel
theorem dX9_init_114 : decode cX9_init 114 = .ok (.putfield 74, 3) := by decide +kernel
theorem dX9_init_117 : decode cX9_init 117 = .ok (.aload_n 0, 1) := by decide +kernel
theorem dX9_init_118 : decode cX9_init 118 = .ok (.bipush 10, 2) := by decide +kernel
theorem dX9_init_120 : decode cX9_init 120 = .ok (.newarray .int, 2) := by decide +kernel
theorem dX9_init_122 : decode cX9_init 122 = .ok (.putfield 77, 3) := by decide +kernel
theorem dX9_init_125 : decode cX9_init 125 = .ok (.iconst 0, 1) := by decide +kernel
theorem dX9_init_126 : decode cX9_init 126 = .ok (.istore_n 1, 1) := by decide +kernel
theorem dX9_init_127 : decode cX9_init 127 = .ok (.iload_n 1, 1) := by decide +kernel
theorem dX9_init_128 : decode cX9_init 128 = .ok (.bipush 6, 2) := by decide +kernel
theorem dX9_init_130 : decode cX9_init 130 = .ok (.if_icmp .ge 22, 3) := by decide +kernel
theorem dX9_init_133 : decode cX9_init 133 = .ok (.aload_n 0, 1) := by decide +kernel
theorem dX9_init_134 : decode cX9_init 134 = .ok (.getfield 50, 3) := by decide +kernel
theorem dX9_init_137 : decode cX9_init 137 = .ok (.iload_n 1, 1) := by decide +kernel
theorem dX9_init_138 : decode cX9_init 138 = .ok (.new 48, 3) := by decide +kernel
theorem dX9_init_141 : decode cX9_init 141 = .ok (.dup, 1) := by decide +kernel
theorem dX9_init_142 : decode cX9_init 142 = .ok (.invokespecial 80, 3) := by decide +kernel
theorem dX9_init_145 : decode cX9_init 145 = .ok (.aastore, 1) := by decide +kernel
theorem dX9_init_146 : decode cX9_init 146 = .ok (.iinc 1 1, 3) := by decide +kernel
theorem dX9_init_149 : decode cX9_init 149 = .ok (.goto (-22), 3) := by decide +kernel
theorem dX9_init_152 : decode cX9_init 152 = .ok (.iconst 0, 1) := by decide +kernel
theorem dX9_init_153 : decode cX9_init 153 = .ok (.istore_n 1, 1) := by decide +kernel
theorem dX9_init_154 : decode cX9_init 154 = .ok (.iload_n 1, 1) := by decide +kernel
theorem dX9_init_155 : decode cX9_init 155 = .ok (.iconst 4, 1) := by decide +kernel
theorem dX9_init_156 : decode cX9_init 156 = .ok (.if_icmp .ge 22, 3) := by decide +kernel
theorem dX9_init_159 : decode cX9_init 159 = .ok (.aload_n 0, 1) := by decide +kernel
theorem dX9_init_160 : decode cX9_init 160 = .ok (.getfield 56, 3) := by decide +kernel
theorem dX9_init_163 : decode cX9_init 163 = .ok (.iload_n 1, 1) := by decide +kernel
theorem dX9_init_164 : decode cX9_init 164 = .ok (.new 54, 3) := by decide +kernel
theorem dX9_init_167 : decode cX9_init 167 = .ok (.dup, 1) := by decide +kernel
theorem dX9_init_168 : decode cX9_init 168 = .ok (.invokespecial 81, 3) := by decide +kernel
theorem dX9_init_171 : decode cX9_init 171 = .ok (.aastore, 1) := by decide +kernel
theorem dX9_init_172 : decode cX9_init 172 = .ok (.iinc 1 1, 3) := by decide +kernel
theorem dX9_init_175 : decode cX9_init 175 = .ok (.goto (-21), 3) := by decide +kernel
theorem dX9_init_178 : decode cX9_init 178 = .ok (.iconst 0, 1) := by decide +kernel
theorem dX9_init_179 : decode cX9_init 179 = .ok (.istore_n 1, 1) := by decide +kernel
theorem dX9_init_180 : decode cX9_init 180 = .ok (.iload_n 1, 1) := by decide +kernel
theorem dX9_init_181 : decode cX9_init 181 = .ok (.ldc 82, 2) := by decide +kernel
theorem dX9_init_183 : decode cX9_init 183 = .ok (.invokevirtual 84, 3) := by decide +kernel
theorem dX9_init_186 : decode cX9_init 186 = .ok (.if_icmp .ge 22, 3) := by decide +kernel
theorem dX9_init_189 : decode cX9_init 189 = .ok (.aload_n 0, 1) := by decide +kernel
theorem dX9_init_190 : decode cX9_init 190 = .ok (.getfield 44, 3) := by decide +kernel
theorem dX9_init_193 : decode cX9_init 193 = .ok (.ldc 82, 2) := by decide +kernel
theorem dX9_init_195 : decode cX9_init 195 = .ok (.iload_n 1, 1) := by decide +kernel
theorem dX9_init_196 : decode cX9_init 196 = .ok (.invokevirtual 90, 3) := by decide +kernel
theorem dX9_init_199 : decode cX9_init 199 = .ok (.invokevirtual 94, 3) := by decide +kernel
theorem dX9_init_202 : decode cX9_init 202 = .ok (.iinc 1 1, 3) := by decide +kernel
theorem dX9_init_205 : decode cX9_init 205 = .ok (.goto (-25), 3) := by decide +kernel
theorem dX9_init_208 : decode cX9_init 208 = .ok (.aload_n 0, 1) := by decide +kernel
theorem dX9_init_209 : decode cX9_init 209 = .ok (.getfield 23, 3) := by decide +kernel
theorem dX9_init_212 : decode cX9_init 212 = .ok (.iconst 0, 1) := by decide +kernel
theorem dX9_init_213 : decode cX9_init 213 = .ok (.aload_n 0, 1) := by decide +kernel
theorem dX9_init_214 : decode cX9_init 214 = .ok (.getfield 44, 3) := by decide +kernel
theorem dX9_init_217 : decode cX9_init 217 = .ok (.invokevirtual 98, 3) := by decide +kernel
theorem dX9_init_220 : decode cX9_init 220 = .ok (.aastore, 1) := by decide +kernel
theorem dX9_init_221 : decode cX9_init 221 = .ok (.aload_n 0, 1) := by decide +kernel
theorem dX9_init_222 : decode cX9_init 222 = .ok (.iconst 1, 1) := by decide +kernel
theorem dX9_init_223 : decode cX9_init 223 = .ok (.putfield 102, 3) := by decide +kernel
theorem dX9_init_226 : decode cX9_init 226 = .ok (.return_, 1) := by decide +kernel
theorem dX9_wine_0 : decode cX9_wine 0 = .ok (.iload_n 1, 1) := by decide +kernel
theorem dX9_wine_1 : decode cX9_wine 1 = .ok (.bipush 99, 2) := by decide +kernel
theorem dX9_wine_3 : decode cX9_wine 3 = .ok (.invokestatic 106, 3) := by decide +kernel
theorem dX9_wine_6 : decode cX9_wine 6 = .ok (.ifCond .eq 30, 3) := by decide +kernel
theorem dX9_wine_9 : decode cX9_wine 9 = .ok (.iload_n 2, 1) := by decide +kernel
theorem dX9_wine_10 : decode cX9_wine 10 = .ok (.sipush 999, 3) := by decide +kernel
theorem dX9_wine_13 : decode cX9_wine 13 = .ok (.invokestatic 106, 3) := by decide +kernel
theorem dX9_wine_16 : decode cX9_wine 16 = .ok (.ifCond .eq 20, 3) := by decide +kernel
theorem dX9_wine_19 : decode cX9_wine 19 = .ok (.iload_n 3, 1) := by decide +kernel
theorem dX9_wine_20 : decode cX9_wine 20 = .ok (.invokestatic 110, 3) := by decide +kernel
theorem dX9_wine_23 : decode cX9_wine 23 = .ok (.ifCond .eq 13, 3) := by decide +kernel
theorem dX9_wine_26 : decode cX9_wine 26 = .ok (.iload 4, 2) := by decide +kernel
theorem dX9_wine_28 : decode cX9_wine 28 = .ok (.ldc 114, 2) := by decide +kernel
theorem dX9_wine_30 : decode cX9_wine 30 = .ok (.invokestatic 106, 3) := by decide +kernel
theorem dX9_wine_33 : decode cX9_wine 33 = .ok (.ifCond .ne 6, 3) := by decide +kernel
theorem dX9_wine_36 : decode cX9_wine 36 = .ok (.bipush (-2), 2) := by decide +kernel
theorem dX9_wine_38 : decode cX9_wine 38 = .ok (.ireturn, 1) := by decide +kernel
theorem dX9_wine_39 : decode cX9_wine 39 = .ok (.aload_n 0, 1) := by decide +kernel
theorem dX9_wine_40 : decode cX9_wine 40 = .ok (.getfield 115, 3) := by decide +kernel
theorem dX9_wine_43 : decode cX9_wine 43 = .ok (.bipush 8, 2) := by decide +kernel
theorem dX9_wine_45 : decode cX9_wine 45 = .ok (.if_icmp .lt 6, 3) := by decide +kernel
theorem dX9_wine_48 : decode cX9_wine 48 = .ok (.bipush (-4), 2) := by decide +kernel
theorem dX9_wine_50 : decode cX9_wine 50 = .ok (.ireturn, 1) := by decide +kernel
theorem dX9_wine_51 : decode cX9_wine 51 = .ok (.aload_n 0, 1) := by decide +kernel
theorem dX9_wine_52 : decode cX9_wine 52 = .ok (.getfield 11, 3) := by decide +kernel
theorem dX9_wine_55 : decode cX9_wine 55 = .ok (.aload_n 0, 1) := by decide +kernel
theorem dX9_wine_56 : decode cX9_wine 56 = .ok (.getfield 115, 3) := by decide +kernel
theorem dX9_wine_59 : decode cX9_wine 59 = .ok (.new 9, 3) := by decide +kernel
theorem dX9_wine_62 : decode cX9_wine 62 = .ok (.dup, 1) := by decide +kernel
theorem dX9_wine_63 : decode cX9_wine 63 = .ok (.aload_n 0, 1) := by decide +kernel
theorem dX9_wine_64 : decode cX9_wine 64 = .ok (.getfield 115, 3) := by decide +kernel
theorem dX9_wine_67 : decode cX9_wine 67 = .ok (.iload_n 1, 1) := by decide +kernel
theorem dX9_wine_68 : decode cX9_wine 68 = .ok (.iload_n 2, 1) := by decide +kernel
theorem dX9_wine_69 : decode cX9_wine 69 = .ok (.iload_n 3, 1) := by decide +kernel
theorem dX9_wine_70 : decode cX9_wine 70 = .ok (.iload 4, 2) := by decide +kernel
theorem dX9_wine_72 : decode cX9_wine 72 = .ok (.invokespecial 118, 3) := by decide +kernel
theorem dX9_wine_75 : decode cX9_wine 75 = .ok (.aastore, 1) := by decide +kernel
theorem dX9_wine_76 : decode cX9_wine 76 = .ok (.aload_n 0, 1) := by decide +kernel
theorem dX9_wine_77 : decode cX9_wine 77 = .ok (.dup, 1) := by decide +kernel
theorem dX9_wine_78 : decode cX9_wine 78 = .ok (.getfield 115, 3) := by decide +kernel
theorem dX9_wine_81 : decode cX9_wine 81 = .ok (.iconst 1, 1) := by decide +kernel
theorem dX9_wine_82 : decode cX9_wine 82 = .ok (.iadd, 1) := by decide +kernel
theorem dX9_wine_83 : decode cX9_wine 83 = .ok (.putfield 115, 3) := by decide +kernel
theorem dX9_wine_86 : decode cX9_wine 86 = .ok (.aload_n 0, 1) := by decide +kernel
theorem dX9_wine_87 : decode cX9_wine 87 = .ok (.getfield 115, 3) := by decide +kernel
theorem dX9_wine_90 : decode cX9_wine 90 = .ok (.iconst 1, 1) := by decide +kernel
theorem dX9_wine_91 : decode cX9_wine 91 = .ok (.isub, 1) := by decide +kernel
theorem dX9_wine_92 : decode cX9_wine 92 = .ok (.ireturn, 1) := by decide +kernel
theorem dX9_drunk_0 : decode cX9_drunk 0 = .ok (.aload_n 0, 1) := by decide +kernel
theorem dX9_drunk_1 : decode cX9_drunk 1 = .ok (.iload_n 1, 1) := by decide +kernel
theorem dX9_drunk_2 : decode cX9_drunk 2 = .ok (.invokevirtual 121, 3) := by decide +kernel
theorem dX9_drunk_5 : decode cX9_drunk 5 = .ok (.astore_n 3, 1) := by decide +kernel
theorem dX9_drunk_6 : decode cX9_drunk 6 = .ok (.aload_n 3, 1) := by decide +kernel
theorem dX9_drunk_7 : decode cX9_drunk 7 = .ok (.ifnull 13, 3) := by decide +kernel
theorem dX9_drunk_10 : decode cX9_drunk 10 = .ok (.iload_n 2, 1) := by decide +kernel
theorem dX9_drunk_11 : decode cX9_drunk 11 = .ok (.sipush 999, 3) := by decide +kernel
theorem dX9_drunk_14 : decode cX9_drunk 14 = .ok (.invokestatic 106, 3) := by decide +kernel
theorem dX9_drunk_17 : decode cX9_drunk 17 = .ok (.ifCond .ne 6, 3) := by decide +kernel
theorem dX9_drunk_20 : decode cX9_drunk 20 = .ok (.bipush (-2), 2) := by decide +kernel
theorem dX9_drunk_22 : decode cX9_drunk 22 = .ok (.ireturn, 1) := by decide +kernel
theorem dX9_drunk_23 : decode cX9_drunk 23 = .ok (.aload_n 3, 1) := by decide +kernel
theorem dX9_drunk_24 : decode cX9_drunk 24 = .ok (.getfield 125, 3) := by decide +kernel
theorem dX9_drunk_27 : decode cX9_drunk 27 = .ok (.istore 4, 2) := by decide +kernel
theorem dX9_drunk_29 : decode cX9_drunk 29 = .ok (.aload_n 3, 1) := by decide +kernel
theorem dX9_drunk_30 : decode cX9_drunk 30 = .ok (.iload_n 2, 1) := by decide +kernel
theorem dX9_drunk_31 : decode cX9_drunk 31 = .ok (.putfield 125, 3) := by decide +kernel
theorem dX9_drunk_34 : decode cX9_drunk 34 = .ok (.iload 4, 2) := by decide +kernel
theorem dX9_drunk_36 : decode cX9_drunk 36 = .ok (.ireturn, 1) := by decide +kernel
theorem dX9_book_0 : decode cX9_book 0 = .ok (.iload_n 1, 1) := by decide +kernel
theorem dX9_book_1 : decode cX9_book 1 = .ok (.iload_n 2, 1) := by decide +kernel
theorem dX9_book_2 : decode cX9_book 2 = .ok (.invokestatic 128, 3) := by decide +kernel
theorem dX9_book_5 : decode cX9_book 5 = .ok (.iconst (-1), 1) := by decide +kernel
theorem dX9_book_6 : decode cX9_book 6 = .ok (.if_icmp .eq 22, 3) := by decide +kernel
theorem dX9_book_9 : decode cX9_book 9 = .ok (.iload 4, 2) := by decide +kernel
theorem dX9_book_11 : decode cX9_book 11 = .ok (.bipush 99, 2) := by decide +kernel
theorem dX9_book_13 : decode cX9_book 13 = .ok (.invokestatic 106, 3) := by decide +kernel
theorem dX9_book_16 : decode cX9_book 16 = .ok (.ifCond .eq 12, 3) := by decide +kernel
theorem dX9_book_19 : decode cX9_book 19 = .ok (.iload_n 3, 1) := by decide +kernel
theorem dX9_book_20 : decode cX9_book 20 = .ok (.iload 4, 2) := by decide +kernel
theorem dX9_book_22 : decode cX9_book 22 = .ok (.invokestatic 106, 3) := by decide +kernel
theorem dX9_book_25 : decode cX9_book 25 = .ok (.ifCond .ne 6, 3) := by decide +kernel
theorem dX9_book_28 : decode cX9_book 28 = .ok (.bipush (-2), 2) := by decide +kernel
theorem dX9_book_30 : decode cX9_book 30 = .ok (.ireturn, 1) := by decide +kernel
theorem dX9_book_31 : decode cX9_book 31 = .ok (.aload_n 0, 1) := by decide +kernel
theorem dX9_book_32 : decode cX9_book 32 = .ok (.getfield 30, 3) := by decide +kernel
theorem dX9_book_35 : decode cX9_book 35 = .ok (.iload_n 1, 1) := by decide +kernel
theorem dX9_book_36 : decode cX9_book 36 = .ok (.iload_n 2, 1) := by decide +kernel
theorem dX9_book_37 : decode cX9_book 37 = .ok (.iload_n 3, 1) := by decide +kernel
theorem dX9_book_38 : decode cX9_book 38 = .ok (.iload 4, 2) := by decide +kernel
theorem dX9_book_40 : decode cX9_book 40 = .ok (.invokevirtual 132, 3) := by decide +kernel
theorem dX9_book_43 : decode cX9_book 43 = .ok (.iconst 1, 1) := by decide +kernel
theorem dX9_book_44 : decode cX9_book 44 = .ok (.ireturn, 1) := by decide +kernel
theorem dX9_test_0 : decode cX9_test 0 = .ok (.iload_n 1, 1) := by decide +kernel
theorem dX9_test_1 : decode cX9_test 1 = .ok (.iconst 3, 1) := by decide +kernel
theorem dX9_test_2 : decode cX9_test 2 = .ok (.invokestatic 136, 3) := by decide +kernel
theorem dX9_test_5 : decode cX9_test 5 = .ok (.ifCond .eq 12, 3) := by decide +kernel
theorem dX9_test_8 : decode cX9_test 8 = .ok (.iload_n 2, 1) := by decide +kernel
theorem dX9_test_9 : decode cX9_test 9 = .ok (.bipush 100, 2) := by decide +kernel
theorem dX9_test_11 : decode cX9_test 11 = .ok (.invokestatic 106, 3) := by decide +kernel
theorem dX9_test_14 : decode cX9_test 14 = .ok (.ifCond .ne 6, 3) := by decide +kernel
theorem dX9_test_17 : decode cX9_test 17 = .ok (.bipush (-2), 2) := by decide +kernel
theorem dX9_test_19 : decode cX9_test 19 = .ok (.ireturn, 1) := by decide +kernel
theorem dX9_test_20 : decode cX9_test 20 = .ok (.aload_n 0, 1) := by decide +kernel
theorem dX9_test_21 : decode cX9_test 21 = .ok (.getfield 30, 3) := by decide +kernel
theorem dX9_test_24 : decode cX9_test 24 = .ok (.getfield 139, 3) := by decide +kernel
theorem dX9_test_27 : decode cX9_test 27 = .ok (.iload_n 1, 1) := by decide +kernel
theorem dX9_test_28 : decode cX9_test 28 = .ok (.iaload, 1) := by decide +kernel
theorem dX9_test_29 : decode cX9_test 29 = .ok (.istore_n 3, 1) := by decide +kernel
theorem dX9_test_30 : decode cX9_test 30 = .ok (.aload_n 0, 1) := by decide +kernel
theorem dX9_test_31 : decode cX9_test 31 = .ok (.getfield 30, 3) := by decide +kernel
theorem dX9_test_34 : decode cX9_test 34 = .ok (.getfield 139, 3) := by decide +kernel
theorem dX9_test_37 : decode cX9_test 37 = .ok (.iload_n 1, 1) := by decide +kernel
theorem dX9_test_38 : decode cX9_test 38 = .ok (.iload_n 2, 1) := by decide +kernel
theorem dX9_test_39 : decode cX9_test 39 = .ok (.iastore, 1) := by decide +kernel
theorem dX9_test_40 : decode cX9_test 40 = .ok (.iload_n 3, 1) := by decide +kernel
theorem dX9_test_41 : decode cX9_test 41 = .ok (.ireturn, 1) := by decide +kernel
theorem dX9_bottle_0 : decode cX9_bottle 0 = .ok (.iload_n 2, 1) := by decide +kernel
theorem dX9_bottle_1 : decode cX9_bottle 1 = .ok (.ifCond .ge 7, 3) := by decide +kernel
theorem dX9_bottle_4 : decode cX9_bottle 4 = .ok (.aconst_null, 1) := by decide +kernel
theorem dX9_bottle_5 : decode cX9_bottle 5 = .ok (.goto 11, 3) := by decide +kernel
theorem dX9_bottle_8 : decode cX9_bottle 8 = .ok (.aload_n 0, 1) := by decide +kernel
theorem dX9_bottle_9 : decode cX9_bottle 9 = .ok (.iload_n 2, 1) := by decide +kernel
theorem dX9_bottle_10 : decode cX9_bottle 10 = .ok (.bipush 10, 2) := by decide +kernel
theorem dX9_bottle_12 : decode cX9_bottle 12 = .ok (.idiv, 1) := by decide +kernel
theorem dX9_bottle_13 : decode cX9_bottle 13 = .ok (.invokevirtual 121, 3) := by decide +kernel
theorem dX9_bottle_16 : decode cX9_bottle 16 = .ok (.astore 4, 2) := by decide +kernel
theorem dX9_bottle_18 : decode cX9_bottle 18 = .ok (.iload_n 2, 1) := by decide +kernel
theorem dX9_bottle_19 : decode cX9_bottle 19 = .ok (.ifCond .ge 7, 3) := by decide +kernel
theorem dX9_bottle_22 : decode cX9_bottle 22 = .ok (.aconst_null, 1) := by decide +kernel
theorem dX9_bottle_23 : decode cX9_bottle 23 = .ok (.goto 11, 3) := by decide +kernel
theorem dX9_bottle_26 : decode cX9_bottle 26 = .ok (.aload_n 0, 1) := by decide +kernel
theorem dX9_bottle_27 : decode cX9_bottle 27 = .ok (.iload_n 2, 1) := by decide +kernel
theorem dX9_bottle_28 : decode cX9_bottle 28 = .ok (.bipush 10, 2) := by decide +kernel
theorem dX9_bottle_30 : decode cX9_bottle 30 = .ok (.irem, 1) := by decide +kernel
theorem dX9_bottle_31 : decode cX9_bottle 31 = .ok (.invokevirtual 121, 3) := by decide +kernel
theorem dX9_bottle_34 : decode cX9_bottle 34 = .ok (.astore 5, 2) := by decide +kernel
theorem dX9_bottle_36 : decode cX9_bottle 36 = .ok (.iload_n 1, 1) := by decide +kernel
theorem dX9_bottle_37 : decode cX9_bottle 37 = .ok (.iconst 5, 1) := by decide +kernel
theorem dX9_bottle_38 : decode cX9_bottle 38 = .ok (.invokestatic 106, 3) := by decide +kernel
theorem dX9_bottle_41 : decode cX9_bottle 41 = .ok (.ifCond .eq 20, 3) := by decide +kernel
theorem dX9_bottle_44 : decode cX9_bottle 44 = .ok (.aload 4, 2) := by decide +kernel
theorem dX9_bottle_46 : decode cX9_bottle 46 = .ok (.ifnull 15, 3) := by decide +kernel
theorem dX9_bottle_49 : decode cX9_bottle 49 = .ok (.aload 5, 2) := by decide +kernel
theorem dX9_bottle_51 : decode cX9_bottle 51 = .ok (.ifnull 10, 3) := by decide +kernel
theorem dX9_bottle_54 : decode cX9_bottle 54 = .ok (.iload_n 3, 1) := by decide +kernel
theorem dX9_bottle_55 : decode cX9_bottle 55 = .ok (.invokestatic 110, 3) := by decide +kernel
theorem dX9_bottle_58 : decode cX9_bottle 58 = .ok (.ifCond .ne 6, 3) := by decide +kernel
theorem dX9_bottle_61 : decode cX9_bottle 61 = .ok (.bipush (-2), 2) := by decide +kernel
theorem dX9_bottle_63 : decode cX9_bottle 63 = .ok (.ireturn, 1) := by decide +kernel
theorem dX9_bottle_64 : decode cX9_bottle 64 = .ok (.aload_n 0, 1) := by decide +kernel
theorem dX9_bottle_65 : decode cX9_bottle 65 = .ok (.getfield 142, 3) := by decide +kernel
theorem dX9_bottle_68 : decode cX9_bottle 68 = .ok (.bipush 24, 2) := by decide +kernel
theorem dX9_bottle_70 : decode cX9_bottle 70 = .ok (.if_icmp .lt 6, 3) := by decide +kernel
theorem dX9_bottle_73 : decode cX9_bottle 73 = .ok (.bipush (-4), 2) := by decide +kernel
theorem dX9_bottle_75 : decode cX9_bottle 75 = .ok (.ireturn, 1) := by decide +kernel
theorem dX9_bottle_76 : decode cX9_bottle 76 = .ok (.aload_n 0, 1) := by decide +kernel
theorem dX9_bottle_77 : decode cX9_bottle 77 = .ok (.getfield 17, 3) := by decide +kernel
theorem dX9_bottle_80 : decode cX9_bottle 80 = .ok (.aload_n 0, 1) := by decide +kernel
theorem dX9_bottle_81 : decode cX9_bottle 81 = .ok (.getfield 142, 3) := by decide +kernel
theorem dX9_bottle_84 : decode cX9_bottle 84 = .ok (.new 15, 3) := by decide +kernel
theorem dX9_bottle_87 : decode cX9_bottle 87 = .ok (.dup, 1) := by decide +kernel
theorem dX9_bottle_88 : decode cX9_bottle 88 = .ok (.iload_n 1, 1) := by decide +kernel
theorem dX9_bottle_89 : decode cX9_bottle 89 = .ok (.aload 4, 2) := by decide +kernel
theorem dX9_bottle_91 : decode cX9_bottle 91 = .ok (.aload 5, 2) := by decide +kernel
theorem dX9_bottle_93 : decode cX9_bottle 93 = .ok (.iload_n 3, 1) := by decide +kernel
theorem dX9_bottle_94 : decode cX9_bottle 94 = .ok (.invokespecial 145, 3) := by decide +kernel
theorem dX9_bottle_97 : decode cX9_bottle 97 = .ok (.aastore, 1) := by decide +kernel
theorem dX9_bottle_98 : decode cX9_bottle 98 = .ok (.aload_n 0, 1) := by decide +kernel
theorem dX9_bottle_99 : decode cX9_bottle 99 = .ok (.dup, 1) := by decide +kernel
theorem dX9_bottle_100 : decode cX9_bottle 100 = .ok (.getfield 142, 3) := by decide +kernel
theorem dX9_bottle_103 : decode cX9_bottle 103 = .ok (.iconst 1, 1) := by decide +kernel
theorem dX9_bottle_104 : decode cX9_bottle 104 = .ok (.iadd, 1) := by decide +kernel
theorem dX9_bottle_105 : decode cX9_bottle 105 = .ok (.putfield 142, 3) := by decide +kernel
theorem dX9_bottle_108 : decode cX9_bottle 108 = .ok (.aload_n 0, 1) := by decide +kernel
theorem dX9_bottle_109 : decode cX9_bottle 109 = .ok (.getfield 142, 3) := by decide +kernel
theorem dX9_bottle_112 : decode cX9_bottle 112 = .ok (.iconst 1, 1) := by decide +kernel
theorem dX9_bottle_113 : decode cX9_bottle 113 = .ok (.isub, 1) := by decide +kernel
theorem dX9_bottle_114 : decode cX9_bottle 114 = .ok (.ireturn, 1) := by decide +kernel
theorem dX9_told_0 : decode cX9_told 0 = .ok (.aload_n 0, 1) := by decide +kernel
theorem dX9_told_1 : decode cX9_told 1 = .ok (.iload_n 1, 1) := by decide +kernel
theorem dX9_told_2 : decode cX9_told 2 = .ok (.invokevirtual 148, 3) := by decide +kernel
theorem dX9_told_5 : decode cX9_told 5 = .ok (.astore_n 3, 1) := by decide +kernel
theorem dX9_told_6 : decode cX9_told 6 = .ok (.aload_n 3, 1) := by decide +kernel
theorem dX9_told_7 : decode cX9_told 7 = .ok (.ifnonnull 6, 3) := by decide +kernel
theorem dX9_told_10 : decode cX9_told 10 = .ok (.bipush (-5), 2) := by decide +kernel
theorem dX9_told_12 : decode cX9_told 12 = .ok (.ireturn, 1) := by decide +kernel
theorem dX9_told_13 : decode cX9_told 13 = .ok (.iload_n 2, 1) := by decide +kernel
theorem dX9_told_14 : decode cX9_told 14 = .ok (.tableswitch 136 0 10 #[58, 63, 71, 77, 83, 97, 102, 110, 115, 122, 129], 58) := by decide +kernel
theorem dX9_told_72 : decode cX9_told 72 = .ok (.aload_n 3, 1) := by decide +kernel
theorem dX9_told_73 : decode cX9_told 73 = .ok (.getfield 152, 3) := by decide +kernel
theorem dX9_told_76 : decode cX9_told 76 = .ok (.ireturn, 1) := by decide +kernel
theorem dX9_told_77 : decode cX9_told 77 = .ok (.aload_n 3, 1) := by decide +kernel
theorem dX9_told_78 : decode cX9_told 78 = .ok (.getfield 155, 3) := by decide +kernel
theorem dX9_told_81 : decode cX9_told 81 = .ok (.getfield 159, 3) := by decide +kernel
theorem dX9_told_84 : decode cX9_told 84 = .ok (.ireturn, 1) := by decide +kernel
theorem dX9_told_85 : decode cX9_told 85 = .ok (.aload_n 0, 1) := by decide +kernel
theorem dX9_told_86 : decode cX9_told 86 = .ok (.aload_n 3, 1) := by decide +kernel
theorem dX9_told_87 : decode cX9_told 87 = .ok (.invokevirtual 162, 3) := by decide +kernel
theorem dX9_told_90 : decode cX9_told 90 = .ok (.ireturn, 1) := by decide +kernel
theorem dX9_told_91 : decode cX9_told 91 = .ok (.aload_n 0, 1) := by decide +kernel
theorem dX9_told_92 : decode cX9_told 92 = .ok (.aload_n 3, 1) := by decide +kernel
theorem dX9_told_93 : decode cX9_told 93 = .ok (.invokevirtual 166, 3) := by decide +kernel
theorem dX9_told_96 : decode cX9_told 96 = .ok (.ireturn, 1) := by decide +kernel
theorem dX9_told_97 : decode cX9_told 97 = .ok (.aload_n 0, 1) := by decide +kernel
theorem dX9_told_98 : decode cX9_told 98 = .ok (.aload_n 3, 1) := by decide +kernel
theorem dX9_told_99 : decode cX9_told 99 = .ok (.invokevirtual 169, 3) := by decide +kernel
theorem dX9_told_102 : decode cX9_told 102 = .ok (.ifCond .eq 7, 3) := by decide +kernel
theorem dX9_told_105 : decode cX9_told 105 = .ok (.iconst 1, 1) := by decide +kernel
theorem dX9_told_106 : decode cX9_told 106 = .ok (.goto 4, 3) := by decide +kernel
theorem dX9_told_109 : decode cX9_told 109 = .ok (.iconst 0, 1) := by decide +kernel
theorem dX9_told_110 : decode cX9_told 110 = .ok (.ireturn, 1) := by decide +kernel
theorem dX9_told_111 : decode cX9_told 111 = .ok (.aload_n 3, 1) := by decide +kernel
theorem dX9_told_112 : decode cX9_told 112 = .ok (.getfield 173, 3) := by decide +kernel
theorem dX9_told_115 : decode cX9_told 115 = .ok (.ireturn, 1) := by decide +kernel
theorem dX9_told_116 : decode cX9_told 116 = .ok (.aload_n 3, 1) := by decide +kernel
theorem dX9_told_117 : decode cX9_told 117 = .ok (.getfield 152, 3) := by decide +kernel
theorem dX9_told_120 : decode cX9_told 120 = .ok (.invokestatic 176, 3) := by decide +kernel
theorem dX9_told_123 : decode cX9_told 123 = .ok (.ireturn, 1) := by decide +kernel
theorem dX9_told_124 : decode cX9_told 124 = .ok (.aload_n 3, 1) := by decide +kernel
theorem dX9_told_125 : decode cX9_told 125 = .ok (.getfield 180, 3) := by decide +kernel
theorem dX9_told_128 : decode cX9_told 128 = .ok (.ireturn, 1) := by decide +kernel
theorem dX9_told_129 : decode cX9_told 129 = .ok (.aload_n 0, 1) := by decide +kernel
theorem dX9_told_130 : decode cX9_told 130 = .ok (.aload_n 3, 1) := by decide +kernel
theorem dX9_told_131 : decode cX9_told 131 = .ok (.iconst 0, 1) := by decide +kernel
theorem dX9_told_132 : decode cX9_told 132 = .ok (.invokevirtual 183, 3) := by decide +kernel
theorem dX9_told_135 : decode cX9_told 135 = .ok (.ireturn, 1) := by decide +kernel
theorem dX9_told_136 : decode cX9_told 136 = .ok (.aload_n 0, 1) := by decide +kernel
theorem dX9_told_137 : decode cX9_told 137 = .ok (.aload_n 3, 1) := by decide +kernel
theorem dX9_told_138 : decode cX9_told 138 = .ok (.iconst 1, 1) := by decide +kernel
theorem dX9_told_139 : decode cX9_told 139 = .ok (.invokevirtual 183, 3) := by decide +kernel
theorem dX9_told_142 : decode cX9_told 142 = .ok (.ireturn, 1) := by decide +kernel
theorem dX9_told_143 : decode cX9_told 143 = .ok (.aload_n 0, 1) := by decide +kernel
theorem dX9_told_144 : decode cX9_told 144 = .ok (.aload_n 3, 1) := by decide +kernel
theorem dX9_told_145 : decode cX9_told 145 = .ok (.iconst 2, 1) := by decide +kernel
theorem dX9_told_146 : decode cX9_told 146 = .ok (.invokevirtual 183, 3) := by decide +kernel
theorem dX9_told_149 : decode cX9_told 149 = .ok (.ireturn, 1) := by decide +kernel
theorem dX9_told_150 : decode cX9_told 150 = .ok (.bipush (-5), 2) := by decide +kernel
theorem dX9_told_152 : decode cX9_told 152 = .ok (.ireturn, 1) := by decide +kernel
theorem dX9_shows_0 : decode cX9_shows 0 = .ok (.aload_n 0, 1) := by decide +kernel
theorem dX9_shows_1 : decode cX9_shows 1 = .ok (.iload_n 1, 1) := by decide +kernel
theorem dX9_shows_2 : decode cX9_shows 2 = .ok (.invokevirtual 148, 3) := by decide +kernel
theorem dX9_shows_5 : decode cX9_shows 5 = .ok (.astore_n 3, 1) := by decide +kernel
theorem dX9_shows_6 : decode cX9_shows 6 = .ok (.aload_n 3, 1) := by decide +kernel
theorem dX9_shows_7 : decode cX9_shows 7 = .ok (.ifnull 12, 3) := by decide +kernel
theorem dX9_shows_10 : decode cX9_shows 10 = .ok (.iload_n 2, 1) := by decide +kernel
theorem dX9_shows_11 : decode cX9_shows 11 = .ok (.bipush 6, 2) := by decide +kernel
theorem dX9_shows_13 : decode cX9_shows 13 = .ok (.invokestatic 136, 3) := by decide +kernel
theorem dX9_shows_16 : decode cX9_shows 16 = .ok (.ifCond .ne 6, 3) := by decide +kernel
theorem dX9_shows_19 : decode cX9_shows 19 = .ok (.bipush (-2), 2) := by decide +kernel
theorem dX9_shows_21 : decode cX9_shows 21 = .ok (.ireturn, 1) := by decide +kernel
theorem dX9_shows_22 : decode cX9_shows 22 = .ok (.iload_n 2, 1) := by decide +kernel
theorem dX9_shows_23 : decode cX9_shows 23 = .ok (.iconst 3, 1) := by decide +kernel
theorem dX9_shows_24 : decode cX9_shows 24 = .ok (.if_icmp .ge 14, 3) := by decide +kernel
theorem dX9_shows_27 : decode cX9_shows 27 = .ok (.aload_n 3, 1) := by decide +kernel
theorem dX9_shows_28 : decode cX9_shows 28 = .ok (.getfield 187, 3) := by decide +kernel
theorem dX9_shows_31 : decode cX9_shows 31 = .ok (.iload_n 2, 1) := by decide +kernel
theorem dX9_shows_32 : decode cX9_shows 32 = .ok (.invokestatic 190, 3) := by decide +kernel
theorem dX9_shows_35 : decode cX9_shows 35 = .ok (.goto 10, 3) := by decide +kernel
theorem dX9_shows_38 : decode cX9_shows 38 = .ok (.aload_n 3, 1) := by decide +kernel
theorem dX9_shows_39 : decode cX9_shows 39 = .ok (.iload_n 2, 1) := by decide +kernel
theorem dX9_shows_40 : decode cX9_shows 40 = .ok (.iconst 3, 1) := by decide +kernel
theorem dX9_shows_41 : decode cX9_shows 41 = .ok (.isub, 1) := by decide +kernel
theorem dX9_shows_42 : decode cX9_shows 42 = .ok (.invokevirtual 193, 3) := by decide +kernel
theorem dX9_shows_45 : decode cX9_shows 45 = .ok (.ireturn, 1) := by decide +kernel
theorem dX9_sale_0 : decode cX9_sale 0 = .ok (.aload_n 0, 1) := by decide +kernel
theorem dX9_sale_1 : decode cX9_sale 1 = .ok (.iload_n 1, 1) := by decide +kernel
theorem dX9_sale_2 : decode cX9_sale 2 = .ok (.invokevirtual 148, 3) := by decide +kernel
theorem dX9_sale_5 : decode cX9_sale 5 = .ok (.astore 5, 2) := by decide +kernel
theorem dX9_sale_7 : decode cX9_sale 7 = .ok (.aload 5, 2) := by decide +kernel
theorem dX9_sale_9 : decode cX9_sale 9 = .ok (.ifnull 53, 3) := by decide +kernel
theorem dX9_sale_12 : decode cX9_sale 12 = .ok (.iload_n 2, 1) := by decide +kernel
theorem dX9_sale_13 : decode cX9_sale 13 = .ok (.bipush 99, 2) := by decide +kernel
theorem dX9_sale_15 : decode cX9_sale 15 = .ok (.invokestatic 106, 3) := by decide +kernel
theorem dX9_sale_18 : decode cX9_sale 18 = .ok (.ifCond .eq 44, 3) := by decide +kernel
theorem dX9_sale_21 : decode cX9_sale 21 = .ok (.iload_n 2, 1) := by decide +kernel
theorem dX9_sale_22 : decode cX9_sale 22 = .ok (.bipush 10, 2) := by decide +kernel
theorem dX9_sale_24 : decode cX9_sale 24 = .ok (.idiv, 1) := by decide +kernel
theorem dX9_sale_25 : decode cX9_sale 25 = .ok (.iload_n 2, 1) := by decide +kernel
theorem dX9_sale_26 : decode cX9_sale 26 = .ok (.bipush 10, 2) := by decide +kernel
theorem dX9_sale_28 : decode cX9_sale 28 = .ok (.irem, 1) := by decide +kernel
theorem dX9_sale_29 : decode cX9_sale 29 = .ok (.if_icmp .eq 33, 3) := by decide +kernel
theorem dX9_sale_32 : decode cX9_sale 32 = .ok (.iload_n 3, 1) := by decide +kernel
theorem dX9_sale_33 : decode cX9_sale 33 = .ok (.sipush 9999, 3) := by decide +kernel
theorem dX9_sale_36 : decode cX9_sale 36 = .ok (.invokestatic 106, 3) := by decide +kernel
theorem dX9_sale_39 : decode cX9_sale 39 = .ok (.ifCond .eq 23, 3) := by decide +kernel
theorem dX9_sale_42 : decode cX9_sale 42 = .ok (.iload 4, 2) := by decide +kernel
theorem dX9_sale_44 : decode cX9_sale 44 = .ok (.bipush 99, 2) := by decide +kernel
theorem dX9_sale_46 : decode cX9_sale 46 = .ok (.invokestatic 106, 3) := by decide +kernel
theorem dX9_sale_49 : decode cX9_sale 49 = .ok (.ifCond .eq 13, 3) := by decide +kernel
theorem dX9_sale_52 : decode cX9_sale 52 = .ok (.iload 4, 2) := by decide +kernel
theorem dX9_sale_54 : decode cX9_sale 54 = .ok (.aload 5, 2) := by decide +kernel
theorem dX9_sale_56 : decode cX9_sale 56 = .ok (.getfield 196, 3) := by decide +kernel
theorem dX9_sale_59 : decode cX9_sale 59 = .ok (.if_icmp .ge 6, 3) := by decide +kernel
theorem dX9_sale_62 : decode cX9_sale 62 = .ok (.bipush (-2), 2) := by decide +kernel
theorem dX9_sale_64 : decode cX9_sale 64 = .ok (.ireturn, 1) := by decide +kernel
theorem dX9_sale_65 : decode cX9_sale 65 = .ok (.aload_n 0, 1) := by decide +kernel
theorem dX9_sale_66 : decode cX9_sale 66 = .ok (.getfield 37, 3) := by decide +kernel
theorem dX9_sale_69 : decode cX9_sale 69 = .ok (.getfield 199, 3) := by decide +kernel
theorem dX9_sale_72 : decode cX9_sale 72 = .ok (.bipush 40, 2) := by decide +kernel
theorem dX9_sale_74 : decode cX9_sale 74 = .ok (.if_icmp .lt 6, 3) := by decide +kernel
theorem dX9_sale_77 : decode cX9_sale 77 = .ok (.bipush (-4), 2) := by decide +kernel
theorem dX9_sale_79 : decode cX9_sale 79 = .ok (.ireturn, 1) := by decide +kernel
theorem dX9_sale_80 : decode cX9_sale 80 = .ok (.aload_n 0, 1) := by decide +kernel
theorem dX9_sale_81 : decode cX9_sale 81 = .ok (.getfield 37, 3) := by decide +kernel
theorem dX9_sale_84 : decode cX9_sale 84 = .ok (.iload_n 1, 1) := by decide +kernel
theorem dX9_sale_85 : decode cX9_sale 85 = .ok (.iload_n 2, 1) := by decide +kernel
theorem dX9_sale_86 : decode cX9_sale 86 = .ok (.iload_n 3, 1) := by decide +kernel
theorem dX9_sale_87 : decode cX9_sale 87 = .ok (.iload 4, 2) := by decide +kernel
theorem dX9_sale_89 : decode cX9_sale 89 = .ok (.invokevirtual 202, 3) := by decide +kernel
theorem dX9_sale_92 : decode cX9_sale 92 = .ok (.istore 6, 2) := by decide +kernel
theorem dX9_sale_94 : decode cX9_sale 94 = .ok (.aload 5, 2) := by decide +kernel
theorem dX9_sale_96 : decode cX9_sale 96 = .ok (.iload_n 2, 1) := by decide +kernel
theorem dX9_sale_97 : decode cX9_sale 97 = .ok (.bipush 10, 2) := by decide +kernel
theorem dX9_sale_99 : decode cX9_sale 99 = .ok (.idiv, 1) := by decide +kernel
theorem dX9_sale_100 : decode cX9_sale 100 = .ok (.iload_n 2, 1) := by decide +kernel
theorem dX9_sale_101 : decode cX9_sale 101 = .ok (.bipush 10, 2) := by decide +kernel
theorem dX9_sale_103 : decode cX9_sale 103 = .ok (.irem, 1) := by decide +kernel
theorem dX9_sale_104 : decode cX9_sale 104 = .ok (.iload 4, 2) := by decide +kernel
theorem dX9_sale_106 : decode cX9_sale 106 = .ok (.invokevirtual 205, 3) := by decide +kernel
theorem dX9_sale_109 : decode cX9_sale 109 = .ok (.iload 6, 2) := by decide +kernel
theorem dX9_sale_111 : decode cX9_sale 111 = .ok (.ireturn, 1) := by decide +kernel
theorem dX9_feed_0 : decode cX9_feed 0 = .ok (.iload_n 1, 1) := by decide +kernel
theorem dX9_feed_1 : decode cX9_feed 1 = .ok (.iconst 1, 1) := by decide +kernel
theorem dX9_feed_2 : decode cX9_feed 2 = .ok (.if_icmp .lt 9, 3) := by decide +kernel
theorem dX9_feed_5 : decode cX9_feed 5 = .ok (.iload_n 1, 1) := by decide +kernel
theorem dX9_feed_6 : decode cX9_feed 6 = .ok (.bipush 8, 2) := by decide +kernel
theorem dX9_feed_8 : decode cX9_feed 8 = .ok (.if_icmp .le 6, 3) := by decide +kernel
theorem dX9_feed_11 : decode cX9_feed 11 = .ok (.bipush (-2), 2) := by decide +kernel
theorem dX9_feed_13 : decode cX9_feed 13 = .ok (.ireturn, 1) := by decide +kernel
theorem dX9_feed_14 : decode cX9_feed 14 = .ok (.iload_n 1, 1) := by decide +kernel
theorem dX9_feed_15 : decode cX9_feed 15 = .ok (.sipush 160, 3) := by decide +kernel
theorem dX9_feed_18 : decode cX9_feed 18 = .ok (.aload_n 0, 1) := by decide +kernel
theorem dX9_feed_19 : decode cX9_feed 19 = .ok (.getfield 44, 3) := by decide +kernel
theorem dX9_feed_22 : decode cX9_feed 22 = .ok (.getfield 209, 3) := by decide +kernel
theorem dX9_feed_25 : decode cX9_feed 25 = .ok (.isub, 1) := by decide +kernel
theorem dX9_feed_26 : decode cX9_feed 26 = .ok (.if_icmp .le 6, 3) := by decide +kernel
theorem dX9_feed_29 : decode cX9_feed 29 = .ok (.bipush (-4), 2) := by decide +kernel
theorem dX9_feed_31 : decode cX9_feed 31 = .ok (.ireturn, 1) := by decide +kernel
theorem dX9_feed_32 : decode cX9_feed 32 = .ok (.iconst 0, 1) := by decide +kernel
theorem dX9_feed_33 : decode cX9_feed 33 = .ok (.istore 4, 2) := by decide +kernel
theorem dX9_feed_35 : decode cX9_feed 35 = .ok (.iload 4, 2) := by decide +kernel
theorem dX9_feed_37 : decode cX9_feed 37 = .ok (.iload_n 1, 1) := by decide +kernel
theorem dX9_feed_38 : decode cX9_feed 38 = .ok (.if_icmp .ge 24, 3) := by decide +kernel
theorem dX9_feed_41 : decode cX9_feed 41 = .ok (.aload_n 0, 1) := by decide +kernel
theorem dX9_feed_42 : decode cX9_feed 42 = .ok (.getfield 44, 3) := by decide +kernel
theorem dX9_feed_45 : decode cX9_feed 45 = .ok (.lload_n 2, 1) := by decide +kernel
theorem dX9_feed_46 : decode cX9_feed 46 = .ok (.bipush 8, 2) := by decide +kernel
theorem dX9_feed_48 : decode cX9_feed 48 = .ok (.iload 4, 2) := by decide +kernel
theorem dX9_feed_50 : decode cX9_feed 50 = .ok (.imul, 1) := by decide +kernel
theorem dX9_feed_51 : decode cX9_feed 51 = .ok (.lushr, 1) := by decide +kernel
theorem dX9_feed_52 : decode cX9_feed 52 = .ok (.l2i, 1) := by decide +kernel
theorem dX9_feed_53 : decode cX9_feed 53 = .ok (.invokevirtual 94, 3) := by decide +kernel
theorem dX9_feed_56 : decode cX9_feed 56 = .ok (.iinc 4 1, 3) := by decide +kernel
theorem dX9_feed_59 : decode cX9_feed 59 = .ok (.goto (-24), 3) := by decide +kernel
theorem dX9_feed_62 : decode cX9_feed 62 = .ok (.aload_n 0, 1) := by decide +kernel
theorem dX9_feed_63 : decode cX9_feed 63 = .ok (.getfield 44, 3) := by decide +kernel
theorem dX9_feed_66 : decode cX9_feed 66 = .ok (.getfield 209, 3) := by decide +kernel
theorem dX9_feed_69 : decode cX9_feed 69 = .ok (.ireturn, 1) := by decide +kernel
theorem dX9_text_0 : decode cX9_text 0 = .ok (.aload_n 0, 1) := by decide +kernel
theorem dX9_text_1 : decode cX9_text 1 = .ok (.getfield 102, 3) := by decide +kernel
theorem dX9_text_4 : decode cX9_text 4 = .ok (.bipush 6, 2) := by decide +kernel
theorem dX9_text_6 : decode cX9_text 6 = .ok (.if_icmp .lt 6, 3) := by decide +kernel
theorem dX9_text_9 : decode cX9_text 9 = .ok (.bipush (-4), 2) := by decide +kernel
theorem dX9_text_11 : decode cX9_text 11 = .ok (.ireturn, 1) := by decide +kernel
theorem dX9_text_12 : decode cX9_text 12 = .ok (.aload_n 0, 1) := by decide +kernel
theorem dX9_text_13 : decode cX9_text 13 = .ok (.getfield 44, 3) := by decide +kernel
theorem dX9_text_16 : decode cX9_text 16 = .ok (.invokevirtual 98, 3) := by decide +kernel
theorem dX9_text_19 : decode cX9_text 19 = .ok (.astore_n 1, 1) := by decide +kernel
theorem dX9_text_20 : decode cX9_text 20 = .ok (.aload_n 1, 1) := by decide +kernel
theorem dX9_text_21 : decode cX9_text 21 = .ok (.ifnonnull 14, 3) := by decide +kernel
theorem dX9_text_24 : decode cX9_text 24 = .ok (.bipush (-100), 2) := by decide +kernel
theorem dX9_text_26 : decode cX9_text 26 = .ok (.aload_n 0, 1) := by decide +kernel
theorem dX9_text_27 : decode cX9_text 27 = .ok (.getfield 44, 3) := by decide +kernel
theorem dX9_text_30 : decode cX9_text 30 = .ok (.getfield 210, 3) := by decide +kernel
theorem dX9_text_33 : decode cX9_text 33 = .ok (.isub, 1) := by decide +kernel
theorem dX9_text_34 : decode cX9_text 34 = .ok (.ireturn, 1) := by decide +kernel
theorem dX9_text_35 : decode cX9_text 35 = .ok (.aload_n 0, 1) := by decide +kernel
theorem dX9_text_36 : decode cX9_text 36 = .ok (.getfield 23, 3) := by decide +kernel
theorem dX9_text_39 : decode cX9_text 39 = .ok (.aload_n 0, 1) := by decide +kernel
theorem dX9_text_40 : decode cX9_text 40 = .ok (.getfield 102, 3) := by decide +kernel
theorem dX9_text_43 : decode cX9_text 43 = .ok (.aload_n 1, 1) := by decide +kernel
theorem dX9_text_44 : decode cX9_text 44 = .ok (.aastore, 1) := by decide +kernel
theorem dX9_text_45 : decode cX9_text 45 = .ok (.aload_n 0, 1) := by decide +kernel
theorem dX9_text_46 : decode cX9_text 46 = .ok (.dup, 1) := by decide +kernel
theorem dX9_text_47 : decode cX9_text 47 = .ok (.getfield 102, 3) := by decide +kernel
theorem dX9_text_50 : decode cX9_text 50 = .ok (.iconst 1, 1) := by decide +kernel
theorem dX9_text_51 : decode cX9_text 51 = .ok (.iadd, 1) := by decide +kernel
theorem dX9_text_52 : decode cX9_text 52 = .ok (.putfield 102, 3) := by decide +kernel
theorem dX9_text_55 : decode cX9_text 55 = .ok (.aload_n 0, 1) := by decide +kernel
theorem dX9_text_56 : decode cX9_text 56 = .ok (.getfield 102, 3) := by decide +kernel
theorem dX9_text_59 : decode cX9_text 59 = .ok (.iconst 1, 1) := by decide +kernel
theorem dX9_text_60 : decode cX9_text 60 = .ok (.isub, 1) := by decide +kernel
theorem dX9_text_61 : decode cX9_text 61 = .ok (.ireturn, 1) := by decide +kernel
theorem dX9_force_0 : decode cX9_force 0 = .ok (.iload_n 1, 1) := by decide +kernel
theorem dX9_force_1 : decode cX9_force 1 = .ok (.aload_n 0, 1) := by decide +kernel
theorem dX9_force_2 : decode cX9_force 2 = .ok (.getfield 102, 3) := by decide +kernel
theorem dX9_force_5 : decode cX9_force 5 = .ok (.invokestatic 136, 3) := by decide +kernel
theorem dX9_force_8 : decode cX9_force 8 = .ok (.ifCond .ne 6, 3) := by decide +kernel
theorem dX9_force_11 : decode cX9_force 11 = .ok (.bipush (-2), 2) := by decide +kernel
theorem dX9_force_13 : decode cX9_force 13 = .ok (.ireturn, 1) := by decide +kernel
theorem dX9_force_14 : decode cX9_force 14 = .ok (.aload_n 0, 1) := by decide +kernel
theorem dX9_force_15 : decode cX9_force 15 = .ok (.getfield 213, 3) := by decide +kernel
theorem dX9_force_18 : decode cX9_force 18 = .ok (.istore_n 2, 1) := by decide +kernel
theorem dX9_force_19 : decode cX9_force 19 = .ok (.aload_n 0, 1) := by decide +kernel
theorem dX9_force_20 : decode cX9_force 20 = .ok (.iload_n 1, 1) := by decide +kernel
theorem dX9_force_21 : decode cX9_force 21 = .ok (.putfield 213, 3) := by decide +kernel
theorem dX9_force_24 : decode cX9_force 24 = .ok (.iload_n 2, 1) := by decide +kernel
theorem dX9_force_25 : decode cX9_force 25 = .ok (.ireturn, 1) := by decide +kernel
theorem dX9_left_0 : decode cX9_left 0 = .ok (.aload_n 0, 1) := by decide +kernel
theorem dX9_left_1 : decode cX9_left 1 = .ok (.iload_n 1, 1) := by decide +kernel
theorem dX9_left_2 : decode cX9_left 2 = .ok (.invokevirtual 121, 3) := by decide +kernel
theorem dX9_left_5 : decode cX9_left 5 = .ok (.astore_n 3, 1) := by decide +kernel
theorem dX9_left_6 : decode cX9_left 6 = .ok (.aload_n 3, 1) := by decide +kernel
theorem dX9_left_7 : decode cX9_left 7 = .ok (.ifnonnull 6, 3) := by decide +kernel
theorem dX9_left_10 : decode cX9_left 10 = .ok (.bipush (-2), 2) := by decide +kernel
theorem dX9_left_12 : decode cX9_left 12 = .ok (.ireturn, 1) := by decide +kernel
theorem dX9_left_13 : decode cX9_left 13 = .ok (.iload_n 2, 1) := by decide +kernel
theorem dX9_left_14 : decode cX9_left 14 = .ok (.tableswitch 52 0 2 #[26, 31, 46], 26) := by decide +kernel
theorem dX9_left_40 : decode cX9_left 40 = .ok (.aload_n 3, 1) := by decide +kernel
theorem dX9_left_41 : decode cX9_left 41 = .ok (.invokevirtual 216, 3) := by decide +kernel
theorem dX9_left_44 : decode cX9_left 44 = .ok (.ireturn, 1) := by decide +kernel
theorem dX9_left_45 : decode cX9_left 45 = .ok (.iconst 0, 1) := by decide +kernel
theorem dX9_left_46 : decode cX9_left 46 = .ok (.aload_n 0, 1) := by decide +kernel
theorem dX9_left_47 : decode cX9_left 47 = .ok (.iload_n 1, 1) := by decide +kernel
theorem dX9_left_48 : decode cX9_left 48 = .ok (.invokevirtual 219, 3) := by decide +kernel
theorem dX9_left_51 : decode cX9_left 51 = .ok (.aload_n 3, 1) := by decide +kernel
theorem dX9_left_52 : decode cX9_left 52 = .ok (.invokevirtual 216, 3) := by decide +kernel
theorem dX9_left_55 : decode cX9_left 55 = .ok (.isub, 1) := by decide +kernel
theorem dX9_left_56 : decode cX9_left 56 = .ok (.invokestatic 222, 3) := by decide +kernel
theorem dX9_left_59 : decode cX9_left 59 = .ok (.ireturn, 1) := by decide +kernel
theorem dX9_left_60 : decode cX9_left 60 = .ok (.aload_n 0, 1) := by decide +kernel
theorem dX9_left_61 : decode cX9_left 61 = .ok (.iload_n 1, 1) := by decide +kernel
theorem dX9_left_62 : decode cX9_left 62 = .ok (.invokevirtual 219, 3) := by decide +kernel
theorem dX9_left_65 : decode cX9_left 65 = .ok (.ireturn, 1) := by decide +kernel
theorem dX9_left_66 : decode cX9_left 66 = .ok (.bipush (-2), 2) := by decide +kernel
theorem dX9_left_68 : decode cX9_left 68 = .ok (.ireturn, 1) := by decide +kernel
theorem dX9_odds_0 : decode cX9_odds 0 = .ok (.aload_n 0, 1) := by decide +kernel
theorem dX9_odds_1 : decode cX9_odds 1 = .ok (.iload_n 1, 1) := by decide +kernel
theorem dX9_odds_2 : decode cX9_odds 2 = .ok (.invokevirtual 148, 3) := by decide +kernel
theorem dX9_odds_5 : decode cX9_odds 5 = .ok (.astore_n 3, 1) := by decide +kernel
theorem dX9_odds_6 : decode cX9_odds 6 = .ok (.aload_n 3, 1) := by decide +kernel
theorem dX9_odds_7 : decode cX9_odds 7 = .ok (.ifnull 11, 3) := by decide +kernel
theorem dX9_odds_10 : decode cX9_odds 10 = .ok (.iload_n 2, 1) := by decide +kernel
theorem dX9_odds_11 : decode cX9_odds 11 = .ok (.iconst 2, 1) := by decide +kernel
theorem dX9_odds_12 : decode cX9_odds 12 = .ok (.invokestatic 136, 3) := by decide +kernel
theorem dX9_odds_15 : decode cX9_odds 15 = .ok (.ifCond .ne 7, 3) := by decide +kernel
theorem dX9_odds_18 : decode cX9_odds 18 = .ok (.ldc2_w 227, 3) := by decide +kernel
theorem dX9_odds_21 : decode cX9_odds 21 = .ok (.lreturn, 1) := by decide +kernel
theorem dX9_odds_22 : decode cX9_odds 22 = .ok (.aload_n 0, 1) := by decide +kernel
theorem dX9_odds_23 : decode cX9_odds 23 = .ok (.aload_n 3, 1) := by decide +kernel
theorem dX9_odds_24 : decode cX9_odds 24 = .ok (.invokevirtual 169, 3) := by decide +kernel
theorem dX9_odds_27 : decode cX9_odds 27 = .ok (.ifCond .eq 6, 3) := by decide +kernel
theorem dX9_odds_30 : decode cX9_odds 30 = .ok (.iload_n 2, 1) := by decide +kernel
theorem dX9_odds_31 : decode cX9_odds 31 = .ok (.i2l, 1) := by decide +kernel
theorem dX9_odds_32 : decode cX9_odds 32 = .ok (.lreturn, 1) := by decide +kernel
theorem dX9_odds_33 : decode cX9_odds 33 = .ok (.aload_n 0, 1) := by decide +kernel
theorem dX9_odds_34 : decode cX9_odds 34 = .ok (.aload_n 3, 1) := by decide +kernel
theorem dX9_odds_35 : decode cX9_odds 35 = .ok (.iconst 0, 1) := by decide +kernel
theorem dX9_odds_36 : decode cX9_odds 36 = .ok (.invokevirtual 183, 3) := by decide +kernel
theorem dX9_odds_39 : decode cX9_odds 39 = .ok (.istore 4, 2) := by decide +kernel
theorem dX9_odds_41 : decode cX9_odds 41 = .ok (.iconst 1, 1) := by decide +kernel
theorem dX9_odds_42 : decode cX9_odds 42 = .ok (.invokestatic 176, 3) := by decide +kernel
theorem dX9_odds_45 : decode cX9_odds 45 = .ok (.bipush 100, 2) := by decide +kernel
theorem dX9_odds_47 : decode cX9_odds 47 = .ok (.iload 4, 2) := by decide +kernel
theorem dX9_odds_49 : decode cX9_odds 49 = .ok (.isub, 1) := by decide +kernel
theorem dX9_odds_50 : decode cX9_odds 50 = .ok (.imul, 1) := by decide +kernel
theorem dX9_odds_51 : decode cX9_odds 51 = .ok (.istore 5, 2) := by decide +kernel
theorem dX9_odds_53 : decode cX9_odds 53 = .ok (.aload_n 3, 1) := by decide +kernel
theorem dX9_odds_54 : decode cX9_odds 54 = .ok (.getfield 152, 3) := by decide +kernel
theorem dX9_odds_57 : decode cX9_odds 57 = .ok (.iconst 1, 1) := by decide +kernel
theorem dX9_odds_58 : decode cX9_odds 58 = .ok (.invokestatic 229, 3) := by decide +kernel
theorem dX9_odds_61 : decode cX9_odds 61 = .ok (.ifCond .eq 7, 3) := by decide +kernel
theorem dX9_odds_64 : decode cX9_odds 64 = .ok (.iconst 5, 1) := by decide +kernel
theorem dX9_odds_65 : decode cX9_odds 65 = .ok (.goto 7, 3) := by decide +kernel
theorem dX9_odds_68 : decode cX9_odds 68 = .ok (.aload_n 3, 1) := by decide +kernel
theorem dX9_odds_69 : decode cX9_odds 69 = .ok (.getfield 152, 3) := by decide +kernel
theorem dX9_odds_72 : decode cX9_odds 72 = .ok (.invokestatic 176, 3) := by decide +kernel
theorem dX9_odds_75 : decode cX9_odds 75 = .ok (.iload 4, 2) := by decide +kernel
theorem dX9_odds_77 : decode cX9_odds 77 = .ok (.iconst 1, 1) := by decide +kernel
theorem dX9_odds_78 : decode cX9_odds 78 = .ok (.iadd, 1) := by decide +kernel
theorem dX9_odds_79 : decode cX9_odds 79 = .ok (.imul, 1) := by decide +kernel
theorem dX9_odds_80 : decode cX9_odds 80 = .ok (.istore 6, 2) := by decide +kernel
theorem dX9_odds_82 : decode cX9_odds 82 = .ok (.iload 5, 2) := by decide +kernel
theorem dX9_odds_84 : decode cX9_odds 84 = .ok (.iload 5, 2) := by decide +kernel
theorem dX9_odds_86 : decode cX9_odds 86 = .ok (.iload 6, 2) := by decide +kernel
theorem dX9_odds_88 : decode cX9_odds 88 = .ok (.iadd, 1) := by decide +kernel
theorem dX9_odds_89 : decode cX9_odds 89 = .ok (.invokestatic 232, 3) := by decide +kernel
theorem dX9_odds_92 : decode cX9_odds 92 = .ok (.istore 7, 2) := by decide +kernel
theorem dX9_odds_94 : decode cX9_odds 94 = .ok (.iload 7, 2) := by decide +kernel
theorem dX9_odds_96 : decode cX9_odds 96 = .ok (.ifCond .ne 6, 3) := by decide +kernel
theorem dX9_odds_99 : decode cX9_odds 99 = .ok (.iload_n 2, 1) := by decide +kernel
theorem dX9_odds_100 : decode cX9_odds 100 = .ok (.i2l, 1) := by decide +kernel
theorem dX9_odds_101 : decode cX9_odds 101 = .ok (.lreturn, 1) := by decide +kernel
theorem dX9_odds_102 : decode cX9_odds 102 = .ok (.iload_n 2, 1) := by decide +kernel
theorem dX9_odds_103 : decode cX9_odds 103 = .ok (.ifCond .ne 8, 3) := by decide +kernel
theorem dX9_odds_106 : decode cX9_odds 106 = .ok (.iload 5, 2) := by decide +kernel
theorem dX9_odds_108 : decode cX9_odds 108 = .ok (.goto 8, 3) := by decide +kernel
theorem dX9_odds_111 : decode cX9_odds 111 = .ok (.iload 5, 2) := by decide +kernel
theorem dX9_odds_113 : decode cX9_odds 113 = .ok (.iload 6, 2) := by decide +kernel
theorem dX9_odds_115 : decode cX9_odds 115 = .ok (.iadd, 1) := by decide +kernel
theorem dX9_odds_116 : decode cX9_odds 116 = .ok (.iload 7, 2) := by decide +kernel
theorem dX9_odds_118 : decode cX9_odds 118 = .ok (.idiv, 1) := by decide +kernel
theorem dX9_odds_119 : decode cX9_odds 119 = .ok (.i2l, 1) := by decide +kernel
theorem dX9_odds_120 : decode cX9_odds 120 = .ok (.lreturn, 1) := by decide +kernel
theorem dX9_source_0 : decode cX9_source 0 = .ok (.iload_n 1, 1) := by decide +kernel
theorem dX9_source_1 : decode cX9_source 1 = .ok (.bipush 9, 2) := by decide +kernel
theorem dX9_source_3 : decode cX9_source 3 = .ok (.invokestatic 106, 3) := by decide +kernel
theorem dX9_source_6 : decode cX9_source 6 = .ok (.ifCond .eq 11, 3) := by decide +kernel
theorem dX9_source_9 : decode cX9_source 9 = .ok (.iload_n 2, 1) := by decide +kernel
theorem dX9_source_10 : decode cX9_source 10 = .ok (.iconst 2, 1) := by decide +kernel
theorem dX9_source_11 : decode cX9_source 11 = .ok (.invokestatic 136, 3) := by decide +kernel
theorem dX9_source_14 : decode cX9_source 14 = .ok (.ifCond .ne 6, 3) := by decide +kernel
theorem dX9_source_17 : decode cX9_source 17 = .ok (.bipush (-2), 2) := by decide +kernel
theorem dX9_source_19 : decode cX9_source 19 = .ok (.ireturn, 1) := by decide +kernel
theorem dX9_source_20 : decode cX9_source 20 = .ok (.aload_n 0, 1) := by decide +kernel
theorem dX9_source_21 : decode cX9_source 21 = .ok (.iload_n 1, 1) := by decide +kernel
theorem dX9_source_22 : decode cX9_source 22 = .ok (.iload_n 2, 1) := by decide +kernel
theorem dX9_source_23 : decode cX9_source 23 = .ok (.iconst 1, 1) := by decide +kernel
theorem dX9_source_24 : decode cX9_source 24 = .ok (.if_icmp .ne 7, 3) := by decide +kernel
theorem dX9_source_27 : decode cX9_source 27 = .ok (.iconst 1, 1) := by decide +kernel
theorem dX9_source_28 : decode cX9_source 28 = .ok (.goto 4, 3) := by decide +kernel
theorem dX9_source_31 : decode cX9_source 31 = .ok (.iconst 0, 1) := by decide +kernel
theorem dX9_source_32 : decode cX9_source 32 = .ok (.invokevirtual 235, 3) := by decide +kernel
theorem dX9_source_35 : decode cX9_source 35 = .ok (.ireturn, 1) := by decide +kernel
theorem dX9_worst_0 : decode cX9_worst 0 = .ok (.iconst (-1), 1) := by decide +kernel
theorem dX9_worst_1 : decode cX9_worst 1 = .ok (.istore_n 1, 1) := by decide +kernel
theorem dX9_worst_2 : decode cX9_worst 2 = .ok (.iconst 0, 1) := by decide +kernel
theorem dX9_worst_3 : decode cX9_worst 3 = .ok (.istore_n 2, 1) := by decide +kernel
theorem dX9_worst_4 : decode cX9_worst 4 = .ok (.iconst 0, 1) := by decide +kernel
theorem dX9_worst_5 : decode cX9_worst 5 = .ok (.istore_n 3, 1) := by decide +kernel
theorem dX9_worst_6 : decode cX9_worst 6 = .ok (.iconst 0, 1) := by decide +kernel
theorem dX9_worst_7 : decode cX9_worst 7 = .ok (.istore 4, 2) := by decide +kernel
theorem dX9_worst_9 : decode cX9_worst 9 = .ok (.iload 4, 2) := by decide +kernel
theorem dX9_worst_11 : decode cX9_worst 11 = .ok (.bipush 9, 2) := by decide +kernel
theorem dX9_worst_13 : decode cX9_worst 13 = .ok (.if_icmp .gt 73, 3) := by decide +kernel
theorem dX9_worst_16 : decode cX9_worst 16 = .ok (.aload_n 0, 1) := by decide +kernel
theorem dX9_worst_17 : decode cX9_worst 17 = .ok (.iload 4, 2) := by decide +kernel
theorem dX9_worst_19 : decode cX9_worst 19 = .ok (.iconst 0, 1) := by decide +kernel
theorem dX9_worst_20 : decode cX9_worst 20 = .ok (.invokevirtual 235, 3) := by decide +kernel
theorem dX9_worst_23 : decode cX9_worst 23 = .ok (.istore 5, 2) := by decide +kernel
theorem dX9_worst_25 : decode cX9_worst 25 = .ok (.aload_n 0, 1) := by decide +kernel
theorem dX9_worst_26 : decode cX9_worst 26 = .ok (.iload 4, 2) := by decide +kernel
theorem dX9_worst_28 : decode cX9_worst 28 = .ok (.iconst 1, 1) := by decide +kernel
theorem dX9_worst_29 : decode cX9_worst 29 = .ok (.invokevirtual 235, 3) := by decide +kernel
theorem dX9_worst_32 : decode cX9_worst 32 = .ok (.istore 6, 2) := by decide +kernel
theorem dX9_worst_34 : decode cX9_worst 34 = .ok (.iload 6, 2) := by decide +kernel
theorem dX9_worst_36 : decode cX9_worst 36 = .ok (.iload_n 2, 1) := by decide +kernel
theorem dX9_worst_37 : decode cX9_worst 37 = .ok (.imul, 1) := by decide +kernel
theorem dX9_worst_38 : decode cX9_worst 38 = .ok (.iload_n 3, 1) := by decide +kernel
theorem dX9_worst_39 : decode cX9_worst 39 = .ok (.iload 5, 2) := by decide +kernel
theorem dX9_worst_41 : decode cX9_worst 41 = .ok (.imul, 1) := by decide +kernel
theorem dX9_worst_42 : decode cX9_worst 42 = .ok (.isub, 1) := by decide +kernel
theorem dX9_worst_43 : decode cX9_worst 43 = .ok (.istore 7, 2) := by decide +kernel
theorem dX9_worst_45 : decode cX9_worst 45 = .ok (.iload 5, 2) := by decide +kernel
theorem dX9_worst_47 : decode cX9_worst 47 = .ok (.ifCond .le 33, 3) := by decide +kernel
theorem dX9_worst_50 : decode cX9_worst 50 = .ok (.iload_n 1, 1) := by decide +kernel
theorem dX9_worst_51 : decode cX9_worst 51 = .ok (.iconst (-1), 1) := by decide +kernel
theorem dX9_worst_52 : decode cX9_worst 52 = .ok (.if_icmp .eq 19, 3) := by decide +kernel
theorem dX9_worst_55 : decode cX9_worst 55 = .ok (.iload 7, 2) := by decide +kernel
theorem dX9_worst_57 : decode cX9_worst 57 = .ok (.ifCond .gt 14, 3) := by decide +kernel
theorem dX9_worst_60 : decode cX9_worst 60 = .ok (.iload 7, 2) := by decide +kernel
theorem dX9_worst_62 : decode cX9_worst 62 = .ok (.ifCond .ne 18, 3) := by decide +kernel
theorem dX9_worst_65 : decode cX9_worst 65 = .ok (.iload 5, 2) := by decide +kernel
theorem dX9_worst_67 : decode cX9_worst 67 = .ok (.iload_n 2, 1) := by decide +kernel
theorem dX9_worst_68 : decode cX9_worst 68 = .ok (.if_icmp .le 12, 3) := by decide +kernel
theorem dX9_worst_71 : decode cX9_worst 71 = .ok (.iload 4, 2) := by decide +kernel
theorem dX9_worst_73 : decode cX9_worst 73 = .ok (.istore_n 1, 1) := by decide +kernel
theorem dX9_worst_74 : decode cX9_worst 74 = .ok (.iload 5, 2) := by decide +kernel
theorem dX9_worst_76 : decode cX9_worst 76 = .ok (.istore_n 2, 1) := by decide +kernel
theorem dX9_worst_77 : decode cX9_worst 77 = .ok (.iload 6, 2) := by decide +kernel
theorem dX9_worst_79 : decode cX9_worst 79 = .ok (.istore_n 3, 1) := by decide +kernel
theorem dX9_worst_80 : decode cX9_worst 80 = .ok (.iinc 4 1, 3) := by decide +kernel
theorem dX9_worst_83 : decode cX9_worst 83 = .ok (.goto (-74), 3) := by decide +kernel
theorem dX9_worst_86 : decode cX9_worst 86 = .ok (.iload_n 1, 1) := by decide +kernel
theorem dX9_worst_87 : decode cX9_worst 87 = .ok (.ireturn, 1) := by decide +kernel
theorem dX9_mix_0 : decode cX9_mix 0 = .ok (.aload_n 0, 1) := by decide +kernel
theorem dX9_mix_1 : decode cX9_mix 1 = .ok (.iload_n 1, 1) := by decide +kernel
theorem dX9_mix_2 : decode cX9_mix 2 = .ok (.invokevirtual 121, 3) := by decide +kernel
theorem dX9_mix_5 : decode cX9_mix 5 = .ok (.astore 5, 2) := by decide +kernel
theorem dX9_mix_7 : decode cX9_mix 7 = .ok (.aload_n 0, 1) := by decide +kernel
theorem dX9_mix_8 : decode cX9_mix 8 = .ok (.iload_n 2, 1) := by decide +kernel
theorem dX9_mix_9 : decode cX9_mix 9 = .ok (.invokevirtual 121, 3) := by decide +kernel
theorem dX9_mix_12 : decode cX9_mix 12 = .ok (.astore 6, 2) := by decide +kernel
theorem dX9_mix_14 : decode cX9_mix 14 = .ok (.aload_n 0, 1) := by decide +kernel
theorem dX9_mix_15 : decode cX9_mix 15 = .ok (.iload_n 3, 1) := by decide +kernel
theorem dX9_mix_16 : decode cX9_mix 16 = .ok (.invokevirtual 121, 3) := by decide +kernel
theorem dX9_mix_19 : decode cX9_mix 19 = .ok (.astore 7, 2) := by decide +kernel
theorem dX9_mix_21 : decode cX9_mix 21 = .ok (.aload 5, 2) := by decide +kernel
theorem dX9_mix_23 : decode cX9_mix 23 = .ok (.ifnull 27, 3) := by decide +kernel
theorem dX9_mix_26 : decode cX9_mix 26 = .ok (.aload 6, 2) := by decide +kernel
theorem dX9_mix_28 : decode cX9_mix 28 = .ok (.ifnull 22, 3) := by decide +kernel
theorem dX9_mix_31 : decode cX9_mix 31 = .ok (.aload 7, 2) := by decide +kernel
theorem dX9_mix_33 : decode cX9_mix 33 = .ok (.ifnull 17, 3) := by decide +kernel
theorem dX9_mix_36 : decode cX9_mix 36 = .ok (.iload_n 1, 1) := by decide +kernel
theorem dX9_mix_37 : decode cX9_mix 37 = .ok (.iload_n 2, 1) := by decide +kernel
theorem dX9_mix_38 : decode cX9_mix 38 = .ok (.if_icmp .eq 12, 3) := by decide +kernel
theorem dX9_mix_41 : decode cX9_mix 41 = .ok (.iload 4, 2) := by decide +kernel
theorem dX9_mix_43 : decode cX9_mix 43 = .ok (.iconst 2, 1) := by decide +kernel
theorem dX9_mix_44 : decode cX9_mix 44 = .ok (.invokestatic 136, 3) := by decide +kernel
theorem dX9_mix_47 : decode cX9_mix 47 = .ok (.ifCond .ne 6, 3) := by decide +kernel
theorem dX9_mix_50 : decode cX9_mix 50 = .ok (.bipush (-2), 2) := by decide +kernel
theorem dX9_mix_52 : decode cX9_mix 52 = .ok (.ireturn, 1) := by decide +kernel
theorem dX9_mix_53 : decode cX9_mix 53 = .ok (.iconst 0, 1) := by decide +kernel
theorem dX9_mix_54 : decode cX9_mix 54 = .ok (.istore 8, 2) := by decide +kernel
theorem dX9_mix_56 : decode cX9_mix 56 = .ok (.aload 5, 2) := by decide +kernel
theorem dX9_mix_58 : decode cX9_mix 58 = .ok (.aload 6, 2) := by decide +kernel
theorem dX9_mix_60 : decode cX9_mix 60 = .ok (.iconst 0, 1) := by decide +kernel
theorem dX9_mix_61 : decode cX9_mix 61 = .ok (.aload 7, 2) := by decide +kernel
theorem dX9_mix_63 : decode cX9_mix 63 = .ok (.invokestatic 239, 3) := by decide +kernel
theorem dX9_mix_66 : decode cX9_mix 66 = .ok (.istore 9, 2) := by decide +kernel
theorem dX9_mix_68 : decode cX9_mix 68 = .ok (.iconst 1, 1) := by decide +kernel
theorem dX9_mix_69 : decode cX9_mix 69 = .ok (.istore 10, 2) := by decide +kernel
theorem dX9_mix_71 : decode cX9_mix 71 = .ok (.iload 10, 2) := by decide +kernel
theorem dX9_mix_73 : decode cX9_mix 73 = .ok (.bipush 10, 2) := by decide +kernel
theorem dX9_mix_75 : decode cX9_mix 75 = .ok (.if_icmp .gt 37, 3) := by decide +kernel
theorem dX9_mix_78 : decode cX9_mix 78 = .ok (.aload 5, 2) := by decide +kernel
theorem dX9_mix_80 : decode cX9_mix 80 = .ok (.aload 6, 2) := by decide +kernel
theorem dX9_mix_82 : decode cX9_mix 82 = .ok (.iload 10, 2) := by decide +kernel
theorem dX9_mix_84 : decode cX9_mix 84 = .ok (.aload 7, 2) := by decide +kernel
theorem dX9_mix_86 : decode cX9_mix 86 = .ok (.invokestatic 239, 3) := by decide +kernel
theorem dX9_mix_89 : decode cX9_mix 89 = .ok (.istore 11, 2) := by decide +kernel
theorem dX9_mix_91 : decode cX9_mix 91 = .ok (.iload 11, 2) := by decide +kernel
theorem dX9_mix_93 : decode cX9_mix 93 = .ok (.iload 9, 2) := by decide +kernel
theorem dX9_mix_95 : decode cX9_mix 95 = .ok (.if_icmp .ge 11, 3) := by decide +kernel
theorem dX9_mix_98 : decode cX9_mix 98 = .ok (.iload 10, 2) := by decide +kernel
theorem dX9_mix_100 : decode cX9_mix 100 = .ok (.istore 8, 2) := by decide +kernel
theorem dX9_mix_102 : decode cX9_mix 102 = .ok (.iload 11, 2) := by decide +kernel
theorem dX9_mix_104 : decode cX9_mix 104 = .ok (.istore 9, 2) := by decide +kernel
theorem dX9_mix_106 : decode cX9_mix 106 = .ok (.iinc 10 1, 3) := by decide +kernel
theorem dX9_mix_109 : decode cX9_mix 109 = .ok (.goto (-38), 3) := by decide +kernel
theorem dX9_mix_112 : decode cX9_mix 112 = .ok (.iload 4, 2) := by decide +kernel
theorem dX9_mix_114 : decode cX9_mix 114 = .ok (.ifCond .ne 8, 3) := by decide +kernel
theorem dX9_mix_117 : decode cX9_mix 117 = .ok (.iload 8, 2) := by decide +kernel
theorem dX9_mix_119 : decode cX9_mix 119 = .ok (.goto 5, 3) := by decide +kernel
theorem dX9_mix_122 : decode cX9_mix 122 = .ok (.iload 9, 2) := by decide +kernel
theorem dX9_mix_124 : decode cX9_mix 124 = .ok (.ireturn, 1) := by decide +kernel
theorem dX9_said_0 : decode cX9_said 0 = .ok (.aload_n 0, 1) := by decide +kernel
theorem dX9_said_1 : decode cX9_said 1 = .ok (.iload_n 1, 1) := by decide +kernel
theorem dX9_said_2 : decode cX9_said 2 = .ok (.invokevirtual 243, 3) := by decide +kernel
theorem dX9_said_5 : decode cX9_said 5 = .ok (.astore 5, 2) := by decide +kernel
theorem dX9_said_7 : decode cX9_said 7 = .ok (.aload_n 0, 1) := by decide +kernel
theorem dX9_said_8 : decode cX9_said 8 = .ok (.iload_n 2, 1) := by decide +kernel
theorem dX9_said_9 : decode cX9_said 9 = .ok (.invokevirtual 148, 3) := by decide +kernel
theorem dX9_said_12 : decode cX9_said 12 = .ok (.astore 6, 2) := by decide +kernel
theorem dX9_said_14 : decode cX9_said 14 = .ok (.aload 5, 2) := by decide +kernel
theorem dX9_said_16 : decode cX9_said 16 = .ok (.ifnull 28, 3) := by decide +kernel
theorem dX9_said_19 : decode cX9_said 19 = .ok (.aload 6, 2) := by decide +kernel
theorem dX9_said_21 : decode cX9_said 21 = .ok (.ifnull 23, 3) := by decide +kernel
theorem dX9_said_24 : decode cX9_said 24 = .ok (.iload_n 3, 1) := by decide +kernel
theorem dX9_said_25 : decode cX9_said 25 = .ok (.iconst 2, 1) := by decide +kernel
theorem dX9_said_26 : decode cX9_said 26 = .ok (.invokestatic 136, 3) := by decide +kernel
theorem dX9_said_29 : decode cX9_said 29 = .ok (.ifCond .eq 15, 3) := by decide +kernel
theorem dX9_said_32 : decode cX9_said 32 = .ok (.iload 4, 2) := by decide +kernel
theorem dX9_said_34 : decode cX9_said 34 = .ok (.aload_n 0, 1) := by decide +kernel
theorem dX9_said_35 : decode cX9_said 35 = .ok (.getfield 115, 3) := by decide +kernel
theorem dX9_said_38 : decode cX9_said 38 = .ok (.invokestatic 136, 3) := by decide +kernel
theorem dX9_said_41 : decode cX9_said 41 = .ok (.ifCond .ne 6, 3) := by decide +kernel
theorem dX9_said_44 : decode cX9_said 44 = .ok (.bipush (-2), 2) := by decide +kernel
theorem dX9_said_46 : decode cX9_said 46 = .ok (.ireturn, 1) := by decide +kernel
theorem dX9_said_47 : decode cX9_said 47 = .ok (.aload 5, 2) := by decide +kernel
theorem dX9_said_49 : decode cX9_said 49 = .ok (.getfield 247, 3) := by decide +kernel
theorem dX9_said_52 : decode cX9_said 52 = .ok (.bipush 12, 2) := by decide +kernel
theorem dX9_said_54 : decode cX9_said 54 = .ok (.if_icmp .lt 6, 3) := by decide +kernel
theorem dX9_said_57 : decode cX9_said 57 = .ok (.bipush (-4), 2) := by decide +kernel
theorem dX9_said_59 : decode cX9_said 59 = .ok (.ireturn, 1) := by decide +kernel
theorem dX9_said_60 : decode cX9_said 60 = .ok (.aload 5, 2) := by decide +kernel
theorem dX9_said_62 : decode cX9_said 62 = .ok (.aload 6, 2) := by decide +kernel
theorem dX9_said_64 : decode cX9_said 64 = .ok (.invokevirtual 250, 3) := by decide +kernel
theorem dX9_said_67 : decode cX9_said 67 = .ok (.getfield 159, 3) := by decide +kernel
theorem dX9_said_70 : decode cX9_said 70 = .ok (.aload 6, 2) := by decide +kernel
theorem dX9_said_72 : decode cX9_said 72 = .ok (.getfield 155, 3) := by decide +kernel
theorem dX9_said_75 : decode cX9_said 75 = .ok (.getfield 159, 3) := by decide +kernel
theorem dX9_said_78 : decode cX9_said 78 = .ok (.iload_n 3, 1) := by decide +kernel
theorem dX9_said_79 : decode cX9_said 79 = .ok (.iconst 1, 1) := by decide +kernel
theorem dX9_said_80 : decode cX9_said 80 = .ok (.if_icmp .ne 7, 3) := by decide +kernel
theorem dX9_said_83 : decode cX9_said 83 = .ok (.iconst 1, 1) := by decide +kernel
theorem dX9_said_84 : decode cX9_said 84 = .ok (.goto 4, 3) := by decide +kernel
theorem dX9_said_87 : decode cX9_said 87 = .ok (.iconst 0, 1) := by decide +kernel
theorem dX9_said_88 : decode cX9_said 88 = .ok (.iload 4, 2) := by decide +kernel
theorem dX9_said_90 : decode cX9_said 90 = .ok (.invokevirtual 254, 3) := by decide +kernel
theorem dX9_said_93 : decode cX9_said 93 = .ok (.aload 5, 2) := by decide +kernel
theorem dX9_said_95 : decode cX9_said 95 = .ok (.getfield 247, 3) := by decide +kernel
theorem dX9_said_98 : decode cX9_said 98 = .ok (.ireturn, 1) := by decide +kernel
theorem dX9_tongue_0 : decode cX9_tongue 0 = .ok (.aload_n 0, 1) := by decide +kernel
theorem dX9_tongue_1 : decode cX9_tongue 1 = .ok (.iload_n 1, 1) := by decide +kernel
theorem dX9_tongue_2 : decode cX9_tongue 2 = .ok (.invokevirtual 243, 3) := by decide +kernel
theorem dX9_tongue_5 : decode cX9_tongue 5 = .ok (.astore_n 3, 1) := by decide +kernel
theorem dX9_tongue_6 : decode cX9_tongue 6 = .ok (.aload_n 3, 1) := by decide +kernel
theorem dX9_tongue_7 : decode cX9_tongue 7 = .ok (.ifnonnull 6, 3) := by decide +kernel
theorem dX9_tongue_10 : decode cX9_tongue 10 = .ok (.bipush (-2), 2) := by decide +kernel
theorem dX9_tongue_12 : decode cX9_tongue 12 = .ok (.ireturn, 1) := by decide +kernel
theorem dX9_tongue_13 : decode cX9_tongue 13 = .ok (.iload_n 2, 1) := by decide +kernel
theorem dX9_tongue_14 : decode cX9_tongue 14 = .ok (.tableswitch 50 0 3 #[30, 35, 40, 45], 30) := by decide +kernel
theorem dX9_tongue_44 : decode cX9_tongue 44 = .ok (.aload_n 3, 1) := by decide +kernel
theorem dX9_tongue_45 : decode cX9_tongue 45 = .ok (.getfield 258, 3) := by decide +kernel
theorem dX9_tongue_48 : decode cX9_tongue 48 = .ok (.ireturn, 1) := by decide +kernel
theorem dX9_tongue_49 : decode cX9_tongue 49 = .ok (.aload_n 3, 1) := by decide +kernel
theorem dX9_tongue_50 : decode cX9_tongue 50 = .ok (.getfield 261, 3) := by decide +kernel
theorem dX9_tongue_53 : decode cX9_tongue 53 = .ok (.ireturn, 1) := by decide +kernel
theorem dX9_tongue_54 : decode cX9_tongue 54 = .ok (.aload_n 3, 1) := by decide +kernel
theorem dX9_tongue_55 : decode cX9_tongue 55 = .ok (.getfield 264, 3) := by decide +kernel
theorem dX9_tongue_58 : decode cX9_tongue 58 = .ok (.ireturn, 1) := by decide +kernel
theorem dX9_tongue_59 : decode cX9_tongue 59 = .ok (.aload_n 3, 1) := by decide +kernel
theorem dX9_tongue_60 : decode cX9_tongue 60 = .ok (.getfield 267, 3) := by decide +kernel
theorem dX9_tongue_63 : decode cX9_tongue 63 = .ok (.ireturn, 1) := by decide +kernel
theorem dX9_tongue_64 : decode cX9_tongue 64 = .ok (.bipush (-2), 2) := by decide +kernel
theorem dX9_tongue_66 : decode cX9_tongue 66 = .ok (.ireturn, 1) := by decide +kernel
theorem dX9_opened_0 : decode cX9_opened 0 = .ok (.iload_n 1, 1) := by decide +kernel
theorem dX9_opened_1 : decode cX9_opened 1 = .ok (.sipush 999, 3) := by decide +kernel
theorem dX9_opened_4 : decode cX9_opened 4 = .ok (.invokestatic 106, 3) := by decide +kernel
theorem dX9_opened_7 : decode cX9_opened 7 = .ok (.ifCond .eq 11, 3) := by decide +kernel
theorem dX9_opened_10 : decode cX9_opened 10 = .ok (.iload_n 2, 1) := by decide +kernel
theorem dX9_opened_11 : decode cX9_opened 11 = .ok (.iconst 3, 1) := by decide +kernel
theorem dX9_opened_12 : decode cX9_opened 12 = .ok (.invokestatic 136, 3) := by decide +kernel
theorem dX9_opened_15 : decode cX9_opened 15 = .ok (.ifCond .ne 6, 3) := by decide +kernel
theorem dX9_opened_18 : decode cX9_opened 18 = .ok (.bipush (-2), 2) := by decide +kernel
theorem dX9_opened_20 : decode cX9_opened 20 = .ok (.ireturn, 1) := by decide +kernel
theorem dX9_opened_21 : decode cX9_opened 21 = .ok (.aload_n 0, 1) := by decide +kernel
theorem dX9_opened_22 : decode cX9_opened 22 = .ok (.invokevirtual 270, 3) := by decide +kernel
theorem dX9_opened_25 : decode cX9_opened 25 = .ok (.istore_n 3, 1) := by decide +kernel
theorem dX9_opened_26 : decode cX9_opened 26 = .ok (.iconst 0, 1) := by decide +kernel
theorem dX9_opened_27 : decode cX9_opened 27 = .ok (.istore 4, 2) := by decide +kernel
theorem dX9_opened_29 : decode cX9_opened 29 = .ok (.iconst 0, 1) := by decide +kernel
theorem dX9_opened_30 : decode cX9_opened 30 = .ok (.istore 5, 2) := by decide +kernel
theorem dX9_opened_32 : decode cX9_opened 32 = .ok (.iconst 0, 1) := by decide +kernel
theorem dX9_opened_33 : decode cX9_opened 33 = .ok (.istore 6, 2) := by decide +kernel
theorem dX9_opened_35 : decode cX9_opened 35 = .ok (.iconst 0, 1) := by decide +kernel
theorem dX9_opened_36 : decode cX9_opened 36 = .ok (.istore 7, 2) := by decide +kernel
theorem dX9_opened_38 : decode cX9_opened 38 = .ok (.iconst 0, 1) := by decide +kernel
theorem dX9_opened_39 : decode cX9_opened 39 = .ok (.istore 8, 2) := by decide +kernel
theorem dX9_opened_41 : decode cX9_opened 41 = .ok (.iconst 1, 1) := by decide +kernel
theorem dX9_opened_42 : decode cX9_opened 42 = .ok (.istore 9, 2) := by decide +kernel
theorem dX9_opened_44 : decode cX9_opened 44 = .ok (.iload 9, 2) := by decide +kernel
theorem dX9_opened_46 : decode cX9_opened 46 = .ok (.iconst 1, 1) := by decide +kernel
theorem dX9_opened_47 : decode cX9_opened 47 = .ok (.iload_n 3, 1) := by decide +kernel
theorem dX9_opened_48 : decode cX9_opened 48 = .ok (.ishl, 1) := by decide +kernel
theorem dX9_opened_49 : decode cX9_opened 49 = .ok (.if_icmp .ge 99, 3) := by decide +kernel
theorem dX9_opened_52 : decode cX9_opened 52 = .ok (.iload 9, 2) := by decide +kernel
theorem dX9_opened_54 : decode cX9_opened 54 = .ok (.invokestatic 273, 3) := by decide +kernel
theorem dX9_opened_57 : decode cX9_opened 57 = .ok (.istore 10, 2) := by decide +kernel
theorem dX9_opened_59 : decode cX9_opened 59 = .ok (.iload 7, 2) := by decide +kernel
theorem dX9_opened_61 : decode cX9_opened 61 = .ok (.aload_n 0, 1) := by decide +kernel
theorem dX9_opened_62 : decode cX9_opened 62 = .ok (.getfield 74, 3) := by decide +kernel
