theorem dX9_opened_65 : decode cX9_opened 65 = .ok (.iload 10, 2) := by decide +kernel
theorem dX9_opened_67 : decode cX9_opened 67 = .ok (.iaload, 1) := by decide +kernel
theorem dX9_opened_68 : decode cX9_opened 68 = .ok (.aload_n 0, 1) := by decide +kernel
theorem dX9_opened_69 : decode cX9_opened 69 = .ok (.getfield 74, 3) := by decide +kernel
theorem dX9_opened_72 : decode cX9_opened 72 = .ok (.iload 10, 2) := by decide +kernel
theorem dX9_opened_74 : decode cX9_opened 74 = .ok (.invokestatic 276, 3) := by decide +kernel
theorem dX9_opened_77 : decode cX9_opened 77 = .ok (.isub, 1) := by decide +kernel
theorem dX9_opened_78 : decode cX9_opened 78 = .ok (.iadd, 1) := by decide +kernel
theorem dX9_opened_79 : decode cX9_opened 79 = .ok (.istore 7, 2) := by decide +kernel
theorem dX9_opened_81 : decode cX9_opened 81 = .ok (.iload 8, 2) := by decide +kernel
theorem dX9_opened_83 : decode cX9_opened 83 = .ok (.aload_n 0, 1) := by decide +kernel
theorem dX9_opened_84 : decode cX9_opened 84 = .ok (.getfield 77, 3) := by decide +kernel
theorem dX9_opened_87 : decode cX9_opened 87 = .ok (.iload 10, 2) := by decide +kernel
theorem dX9_opened_89 : decode cX9_opened 89 = .ok (.iaload, 1) := by decide +kernel
theorem dX9_opened_90 : decode cX9_opened 90 = .ok (.aload_n 0, 1) := by decide +kernel
theorem dX9_opened_91 : decode cX9_opened 91 = .ok (.getfield 77, 3) := by decide +kernel
theorem dX9_opened_94 : decode cX9_opened 94 = .ok (.iload 10, 2) := by decide +kernel
theorem dX9_opened_96 : decode cX9_opened 96 = .ok (.invokestatic 276, 3) := by decide +kernel
theorem dX9_opened_99 : decode cX9_opened 99 = .ok (.isub, 1) := by decide +kernel
theorem dX9_opened_100 : decode cX9_opened 100 = .ok (.iadd, 1) := by decide +kernel
theorem dX9_opened_101 : decode cX9_opened 101 = .ok (.istore 8, 2) := by decide +kernel
theorem dX9_opened_103 : decode cX9_opened 103 = .ok (.iload 8, 2) := by decide +kernel
theorem dX9_opened_105 : decode cX9_opened 105 = .ok (.iload_n 1, 1) := by decide +kernel
theorem dX9_opened_106 : decode cX9_opened 106 = .ok (.if_icmp .gt 36, 3) := by decide +kernel
theorem dX9_opened_109 : decode cX9_opened 109 = .ok (.iload 7, 2) := by decide +kernel
theorem dX9_opened_111 : decode cX9_opened 111 = .ok (.iload 5, 2) := by decide +kernel
theorem dX9_opened_113 : decode cX9_opened 113 = .ok (.if_icmp .gt 17, 3) := by decide +kernel
theorem dX9_opened_116 : decode cX9_opened 116 = .ok (.iload 7, 2) := by decide +kernel
theorem dX9_opened_118 : decode cX9_opened 118 = .ok (.iload 5, 2) := by decide +kernel
theorem dX9_opened_120 : decode cX9_opened 120 = .ok (.if_icmp .ne 22, 3) := by decide +kernel
theorem dX9_opened_123 : decode cX9_opened 123 = .ok (.iload 8, 2) := by decide +kernel
theorem dX9_opened_125 : decode cX9_opened 125 = .ok (.iload 6, 2) := by decide +kernel
theorem dX9_opened_127 : decode cX9_opened 127 = .ok (.if_icmp .ge 15, 3) := by decide +kernel
theorem dX9_opened_130 : decode cX9_opened 130 = .ok (.iload 9, 2) := by decide +kernel
theorem dX9_opened_132 : decode cX9_opened 132 = .ok (.istore 4, 2) := by decide +kernel
theorem dX9_opened_134 : decode cX9_opened 134 = .ok (.iload 7, 2) := by decide +kernel
theorem dX9_opened_136 : decode cX9_opened 136 = .ok (.istore 5, 2) := by decide +kernel
theorem dX9_opened_138 : decode cX9_opened 138 = .ok (.iload 8, 2) := by decide +kernel
theorem dX9_opened_140 : decode cX9_opened 140 = .ok (.istore 6, 2) := by decide +kernel
theorem dX9_opened_142 : decode cX9_opened 142 = .ok (.iinc 9 1, 3) := by decide +kernel
theorem dX9_opened_145 : decode cX9_opened 145 = .ok (.goto (-101), 3) := by decide +kernel
theorem dX9_opened_148 : decode cX9_opened 148 = .ok (.iload_n 2, 1) := by decide +kernel
theorem dX9_opened_149 : decode cX9_opened 149 = .ok (.ifCond .ne 8, 3) := by decide +kernel
theorem dX9_opened_152 : decode cX9_opened 152 = .ok (.iload 4, 2) := by decide +kernel
theorem dX9_opened_154 : decode cX9_opened 154 = .ok (.goto 15, 3) := by decide +kernel
theorem dX9_opened_157 : decode cX9_opened 157 = .ok (.iload_n 2, 1) := by decide +kernel
theorem dX9_opened_158 : decode cX9_opened 158 = .ok (.iconst 1, 1) := by decide +kernel
theorem dX9_opened_159 : decode cX9_opened 159 = .ok (.if_icmp .ne 8, 3) := by decide +kernel
theorem dX9_opened_162 : decode cX9_opened 162 = .ok (.iload 5, 2) := by decide +kernel
theorem dX9_opened_164 : decode cX9_opened 164 = .ok (.goto 5, 3) := by decide +kernel
theorem dX9_opened_167 : decode cX9_opened 167 = .ok (.iload 6, 2) := by decide +kernel
theorem dX9_opened_169 : decode cX9_opened 169 = .ok (.ireturn, 1) := by decide +kernel
theorem dX9_owed_0 : decode cX9_owed 0 = .ok (.iload_n 1, 1) := by decide +kernel
theorem dX9_owed_1 : decode cX9_owed 1 = .ok (.bipush 9, 2) := by decide +kernel
theorem dX9_owed_3 : decode cX9_owed 3 = .ok (.invokestatic 106, 3) := by decide +kernel
theorem dX9_owed_6 : decode cX9_owed 6 = .ok (.ifCond .ne 7, 3) := by decide +kernel
theorem dX9_owed_9 : decode cX9_owed 9 = .ok (.ldc2_w 227, 3) := by decide +kernel
theorem dX9_owed_12 : decode cX9_owed 12 = .ok (.lreturn, 1) := by decide +kernel
theorem dX9_owed_13 : decode cX9_owed 13 = .ok (.lconst 0, 1) := by decide +kernel
theorem dX9_owed_14 : decode cX9_owed 14 = .ok (.lstore_n 2, 1) := by decide +kernel
theorem dX9_owed_15 : decode cX9_owed 15 = .ok (.iconst 0, 1) := by decide +kernel
theorem dX9_owed_16 : decode cX9_owed 16 = .ok (.istore 4, 2) := by decide +kernel
theorem dX9_owed_18 : decode cX9_owed 18 = .ok (.iload 4, 2) := by decide +kernel
theorem dX9_owed_20 : decode cX9_owed 20 = .ok (.aload_n 0, 1) := by decide +kernel
theorem dX9_owed_21 : decode cX9_owed 21 = .ok (.getfield 37, 3) := by decide +kernel
theorem dX9_owed_24 : decode cX9_owed 24 = .ok (.getfield 199, 3) := by decide +kernel
theorem dX9_owed_27 : decode cX9_owed 27 = .ok (.if_icmp .ge 116, 3) := by decide +kernel
theorem dX9_owed_30 : decode cX9_owed 30 = .ok (.aload_n 0, 1) := by decide +kernel
theorem dX9_owed_31 : decode cX9_owed 31 = .ok (.getfield 37, 3) := by decide +kernel
theorem dX9_owed_34 : decode cX9_owed 34 = .ok (.getfield 280, 3) := by decide +kernel
theorem dX9_owed_37 : decode cX9_owed 37 = .ok (.iload 4, 2) := by decide +kernel
theorem dX9_owed_39 : decode cX9_owed 39 = .ok (.iaload, 1) := by decide +kernel
theorem dX9_owed_40 : decode cX9_owed 40 = .ok (.iload_n 1, 1) := by decide +kernel
theorem dX9_owed_41 : decode cX9_owed 41 = .ok (.if_icmp .ne 7, 3) := by decide +kernel
theorem dX9_owed_44 : decode cX9_owed 44 = .ok (.iconst 1, 1) := by decide +kernel
theorem dX9_owed_45 : decode cX9_owed 45 = .ok (.goto 4, 3) := by decide +kernel
theorem dX9_owed_48 : decode cX9_owed 48 = .ok (.iconst 0, 1) := by decide +kernel
theorem dX9_owed_49 : decode cX9_owed 49 = .ok (.istore 5, 2) := by decide +kernel
theorem dX9_owed_51 : decode cX9_owed 51 = .ok (.aload_n 0, 1) := by decide +kernel
theorem dX9_owed_52 : decode cX9_owed 52 = .ok (.getfield 37, 3) := by decide +kernel
theorem dX9_owed_55 : decode cX9_owed 55 = .ok (.getfield 283, 3) := by decide +kernel
theorem dX9_owed_58 : decode cX9_owed 58 = .ok (.iload 4, 2) := by decide +kernel
theorem dX9_owed_60 : decode cX9_owed 60 = .ok (.iaload, 1) := by decide +kernel
theorem dX9_owed_61 : decode cX9_owed 61 = .ok (.iload_n 1, 1) := by decide +kernel
theorem dX9_owed_62 : decode cX9_owed 62 = .ok (.if_icmp .ne 7, 3) := by decide +kernel
theorem dX9_owed_65 : decode cX9_owed 65 = .ok (.iconst 1, 1) := by decide +kernel
theorem dX9_owed_66 : decode cX9_owed 66 = .ok (.goto 4, 3) := by decide +kernel
theorem dX9_owed_69 : decode cX9_owed 69 = .ok (.iconst 0, 1) := by decide +kernel
theorem dX9_owed_70 : decode cX9_owed 70 = .ok (.istore 6, 2) := by decide +kernel
theorem dX9_owed_72 : decode cX9_owed 72 = .ok (.iload 5, 2) := by decide +kernel
theorem dX9_owed_74 : decode cX9_owed 74 = .ok (.ifCond .ne 8, 3) := by decide +kernel
theorem dX9_owed_77 : decode cX9_owed 77 = .ok (.iload 6, 2) := by decide +kernel
theorem dX9_owed_79 : decode cX9_owed 79 = .ok (.ifCond .eq 58, 3) := by decide +kernel
theorem dX9_owed_82 : decode cX9_owed 82 = .ok (.aload_n 0, 1) := by decide +kernel
theorem dX9_owed_83 : decode cX9_owed 83 = .ok (.aload_n 0, 1) := by decide +kernel
theorem dX9_owed_84 : decode cX9_owed 84 = .ok (.aload_n 0, 1) := by decide +kernel
theorem dX9_owed_85 : decode cX9_owed 85 = .ok (.getfield 37, 3) := by decide +kernel
theorem dX9_owed_88 : decode cX9_owed 88 = .ok (.getfield 286, 3) := by decide +kernel
theorem dX9_owed_91 : decode cX9_owed 91 = .ok (.iload 4, 2) := by decide +kernel
theorem dX9_owed_93 : decode cX9_owed 93 = .ok (.iaload, 1) := by decide +kernel
theorem dX9_owed_94 : decode cX9_owed 94 = .ok (.invokevirtual 148, 3) := by decide +kernel
theorem dX9_owed_97 : decode cX9_owed 97 = .ok (.invokevirtual 169, 3) := by decide +kernel
theorem dX9_owed_100 : decode cX9_owed 100 = .ok (.ifCond .eq 37, 3) := by decide +kernel
theorem dX9_owed_103 : decode cX9_owed 103 = .ok (.lload_n 2, 1) := by decide +kernel
theorem dX9_owed_104 : decode cX9_owed 104 = .ok (.iload 6, 2) := by decide +kernel
theorem dX9_owed_106 : decode cX9_owed 106 = .ok (.ifCond .eq 17, 3) := by decide +kernel
theorem dX9_owed_109 : decode cX9_owed 109 = .ok (.aload_n 0, 1) := by decide +kernel
theorem dX9_owed_110 : decode cX9_owed 110 = .ok (.getfield 37, 3) := by decide +kernel
theorem dX9_owed_113 : decode cX9_owed 113 = .ok (.getfield 289, 3) := by decide +kernel
theorem dX9_owed_116 : decode cX9_owed 116 = .ok (.iload 4, 2) := by decide +kernel
theorem dX9_owed_118 : decode cX9_owed 118 = .ok (.iaload, 1) := by decide +kernel
theorem dX9_owed_119 : decode cX9_owed 119 = .ok (.i2l, 1) := by decide +kernel
theorem dX9_owed_120 : decode cX9_owed 120 = .ok (.goto 15, 3) := by decide +kernel
theorem dX9_owed_123 : decode cX9_owed 123 = .ok (.aload_n 0, 1) := by decide +kernel
theorem dX9_owed_124 : decode cX9_owed 124 = .ok (.getfield 37, 3) := by decide +kernel
theorem dX9_owed_127 : decode cX9_owed 127 = .ok (.getfield 289, 3) := by decide +kernel
theorem dX9_owed_130 : decode cX9_owed 130 = .ok (.iload 4, 2) := by decide +kernel
theorem dX9_owed_132 : decode cX9_owed 132 = .ok (.iaload, 1) := by decide +kernel
theorem dX9_owed_133 : decode cX9_owed 133 = .ok (.ineg, 1) := by decide +kernel
theorem dX9_owed_134 : decode cX9_owed 134 = .ok (.i2l, 1) := by decide +kernel
theorem dX9_owed_135 : decode cX9_owed 135 = .ok (.ladd, 1) := by decide +kernel
theorem dX9_owed_136 : decode cX9_owed 136 = .ok (.lstore_n 2, 1) := by decide +kernel
theorem dX9_owed_137 : decode cX9_owed 137 = .ok (.iinc 4 1, 3) := by decide +kernel
theorem dX9_owed_140 : decode cX9_owed 140 = .ok (.goto (-122), 3) := by decide +kernel
theorem dX9_owed_143 : decode cX9_owed 143 = .ok (.lload_n 2, 1) := by decide +kernel
theorem dX9_owed_144 : decode cX9_owed 144 = .ok (.lreturn, 1) := by decide +kernel
theorem dX9_chain_0 : decode cX9_chain 0 = .ok (.aload_n 0, 1) := by decide +kernel
theorem dX9_chain_1 : decode cX9_chain 1 = .ok (.iload_n 1, 1) := by decide +kernel
theorem dX9_chain_2 : decode cX9_chain 2 = .ok (.invokevirtual 148, 3) := by decide +kernel
theorem dX9_chain_5 : decode cX9_chain 5 = .ok (.astore_n 2, 1) := by decide +kernel
theorem dX9_chain_6 : decode cX9_chain 6 = .ok (.aload_n 2, 1) := by decide +kernel
theorem dX9_chain_7 : decode cX9_chain 7 = .ok (.ifnonnull 8, 3) := by decide +kernel
theorem dX9_chain_10 : decode cX9_chain 10 = .ok (.bipush (-2), 2) := by decide +kernel
theorem dX9_chain_12 : decode cX9_chain 12 = .ok (.goto 7, 3) := by decide +kernel
theorem dX9_chain_15 : decode cX9_chain 15 = .ok (.aload_n 2, 1) := by decide +kernel
theorem dX9_chain_16 : decode cX9_chain 16 = .ok (.getfield 292, 3) := by decide +kernel
theorem dX9_chain_19 : decode cX9_chain 19 = .ok (.ireturn, 1) := by decide +kernel
theorem dX9_falls_0 : decode cX9_falls 0 = .ok (.aload_n 0, 1) := by decide +kernel
theorem dX9_falls_1 : decode cX9_falls 1 = .ok (.iload_n 1, 1) := by decide +kernel
theorem dX9_falls_2 : decode cX9_falls 2 = .ok (.invokevirtual 148, 3) := by decide +kernel
theorem dX9_falls_5 : decode cX9_falls 5 = .ok (.astore_n 3, 1) := by decide +kernel
theorem dX9_falls_6 : decode cX9_falls 6 = .ok (.aload_n 3, 1) := by decide +kernel
theorem dX9_falls_7 : decode cX9_falls 7 = .ok (.ifnull 12, 3) := by decide +kernel
theorem dX9_falls_10 : decode cX9_falls 10 = .ok (.iload_n 2, 1) := by decide +kernel
theorem dX9_falls_11 : decode cX9_falls 11 = .ok (.bipush 100, 2) := by decide +kernel
theorem dX9_falls_13 : decode cX9_falls 13 = .ok (.invokestatic 106, 3) := by decide +kernel
theorem dX9_falls_16 : decode cX9_falls 16 = .ok (.ifCond .ne 7, 3) := by decide +kernel
theorem dX9_falls_19 : decode cX9_falls 19 = .ok (.ldc2_w 227, 3) := by decide +kernel
theorem dX9_falls_22 : decode cX9_falls 22 = .ok (.lreturn, 1) := by decide +kernel
theorem dX9_falls_23 : decode cX9_falls 23 = .ok (.aload_n 0, 1) := by decide +kernel
theorem dX9_falls_24 : decode cX9_falls 24 = .ok (.getfield 37, 3) := by decide +kernel
theorem dX9_falls_27 : decode cX9_falls 27 = .ok (.aload_n 0, 1) := by decide +kernel
theorem dX9_falls_28 : decode cX9_falls 28 = .ok (.getfield 37, 3) := by decide +kernel
theorem dX9_falls_31 : decode cX9_falls 31 = .ok (.iload_n 1, 1) := by decide +kernel
theorem dX9_falls_32 : decode cX9_falls 32 = .ok (.invokevirtual 295, 3) := by decide +kernel
theorem dX9_falls_35 : decode cX9_falls 35 = .ok (.invokevirtual 298, 3) := by decide +kernel
theorem dX9_falls_38 : decode cX9_falls 38 = .ok (.istore 4, 2) := by decide +kernel
theorem dX9_falls_40 : decode cX9_falls 40 = .ok (.lconst 0, 1) := by decide +kernel
theorem dX9_falls_41 : decode cX9_falls 41 = .ok (.lstore 5, 2) := by decide +kernel
theorem dX9_falls_43 : decode cX9_falls 43 = .ok (.iconst 0, 1) := by decide +kernel
theorem dX9_falls_44 : decode cX9_falls 44 = .ok (.istore 7, 2) := by decide +kernel
theorem dX9_falls_46 : decode cX9_falls 46 = .ok (.iload 7, 2) := by decide +kernel
theorem dX9_falls_48 : decode cX9_falls 48 = .ok (.aload_n 0, 1) := by decide +kernel
theorem dX9_falls_49 : decode cX9_falls 49 = .ok (.getfield 142, 3) := by decide +kernel
theorem dX9_falls_52 : decode cX9_falls 52 = .ok (.if_icmp .ge 74, 3) := by decide +kernel
theorem dX9_falls_55 : decode cX9_falls 55 = .ok (.aload_n 0, 1) := by decide +kernel
theorem dX9_falls_56 : decode cX9_falls 56 = .ok (.getfield 17, 3) := by decide +kernel
theorem dX9_falls_59 : decode cX9_falls 59 = .ok (.iload 7, 2) := by decide +kernel
theorem dX9_falls_61 : decode cX9_falls 61 = .ok (.aaload, 1) := by decide +kernel
theorem dX9_falls_62 : decode cX9_falls 62 = .ok (.astore 8, 2) := by decide +kernel
theorem dX9_falls_64 : decode cX9_falls 64 = .ok (.aload 8, 2) := by decide +kernel
theorem dX9_falls_66 : decode cX9_falls 66 = .ok (.ifnull 54, 3) := by decide +kernel
theorem dX9_falls_69 : decode cX9_falls 69 = .ok (.aload 8, 2) := by decide +kernel
theorem dX9_falls_71 : decode cX9_falls 71 = .ok (.getfield 155, 3) := by decide +kernel
theorem dX9_falls_74 : decode cX9_falls 74 = .ok (.getfield 159, 3) := by decide +kernel
theorem dX9_falls_77 : decode cX9_falls 77 = .ok (.aload_n 3, 1) := by decide +kernel
theorem dX9_falls_78 : decode cX9_falls 78 = .ok (.getfield 155, 3) := by decide +kernel
theorem dX9_falls_81 : decode cX9_falls 81 = .ok (.getfield 159, 3) := by decide +kernel
theorem dX9_falls_84 : decode cX9_falls 84 = .ok (.if_icmp .eq 14, 3) := by decide +kernel
theorem dX9_falls_87 : decode cX9_falls 87 = .ok (.iload 4, 2) := by decide +kernel
theorem dX9_falls_89 : decode cX9_falls 89 = .ok (.iload 7, 2) := by decide +kernel
theorem dX9_falls_91 : decode cX9_falls 91 = .ok (.ishr, 1) := by decide +kernel
theorem dX9_falls_92 : decode cX9_falls 92 = .ok (.iconst 1, 1) := by decide +kernel
theorem dX9_falls_93 : decode cX9_falls 93 = .ok (.iand, 1) := by decide +kernel
theorem dX9_falls_94 : decode cX9_falls 94 = .ok (.iconst 1, 1) := by decide +kernel
theorem dX9_falls_95 : decode cX9_falls 95 = .ok (.if_icmp .ne 25, 3) := by decide +kernel
theorem dX9_falls_98 : decode cX9_falls 98 = .ok (.aload_n 0, 1) := by decide +kernel
theorem dX9_falls_99 : decode cX9_falls 99 = .ok (.aload 8, 2) := by decide +kernel
theorem dX9_falls_101 : decode cX9_falls 101 = .ok (.invokevirtual 169, 3) := by decide +kernel
theorem dX9_falls_104 : decode cX9_falls 104 = .ok (.ifCond .ne 16, 3) := by decide +kernel
theorem dX9_falls_107 : decode cX9_falls 107 = .ok (.lload 5, 2) := by decide +kernel
theorem dX9_falls_109 : decode cX9_falls 109 = .ok (.aload_n 0, 1) := by decide +kernel
theorem dX9_falls_110 : decode cX9_falls 110 = .ok (.aload 8, 2) := by decide +kernel
theorem dX9_falls_112 : decode cX9_falls 112 = .ok (.iconst 1, 1) := by decide +kernel
theorem dX9_falls_113 : decode cX9_falls 113 = .ok (.invokevirtual 183, 3) := by decide +kernel
theorem dX9_falls_116 : decode cX9_falls 116 = .ok (.i2l, 1) := by decide +kernel
theorem dX9_falls_117 : decode cX9_falls 117 = .ok (.ladd, 1) := by decide +kernel
theorem dX9_falls_118 : decode cX9_falls 118 = .ok (.lstore 5, 2) := by decide +kernel
theorem dX9_falls_120 : decode cX9_falls 120 = .ok (.iinc 7 1, 3) := by decide +kernel
theorem dX9_falls_123 : decode cX9_falls 123 = .ok (.goto (-77), 3) := by decide +kernel
theorem dX9_falls_126 : decode cX9_falls 126 = .ok (.lload 5, 2) := by decide +kernel
theorem dX9_falls_128 : decode cX9_falls 128 = .ok (.iload_n 2, 1) := by decide +kernel
theorem dX9_falls_129 : decode cX9_falls 129 = .ok (.i2l, 1) := by decide +kernel
theorem dX9_falls_130 : decode cX9_falls 130 = .ok (.lmul, 1) := by decide +kernel
theorem dX9_falls_131 : decode cX9_falls 131 = .ok (.ldc2_w 301, 3) := by decide +kernel
theorem dX9_falls_134 : decode cX9_falls 134 = .ok (.ldiv, 1) := by decide +kernel
theorem dX9_falls_135 : decode cX9_falls 135 = .ok (.lreturn, 1) := by decide +kernel
theorem dX9_saw_0 : decode cX9_saw 0 = .ok (.iload_n 1, 1) := by decide +kernel
theorem dX9_saw_1 : decode cX9_saw 1 = .ok (.aload_n 0, 1) := by decide +kernel
theorem dX9_saw_2 : decode cX9_saw 2 = .ok (.getfield 37, 3) := by decide +kernel
theorem dX9_saw_5 : decode cX9_saw 5 = .ok (.getfield 199, 3) := by decide +kernel
theorem dX9_saw_8 : decode cX9_saw 8 = .ok (.invokestatic 136, 3) := by decide +kernel
theorem dX9_saw_11 : decode cX9_saw 11 = .ok (.ifCond .ne 6, 3) := by decide +kernel
theorem dX9_saw_14 : decode cX9_saw 14 = .ok (.bipush (-2), 2) := by decide +kernel
theorem dX9_saw_16 : decode cX9_saw 16 = .ok (.ireturn, 1) := by decide +kernel
theorem dX9_saw_17 : decode cX9_saw 17 = .ok (.aload_n 0, 1) := by decide +kernel
theorem dX9_saw_18 : decode cX9_saw 18 = .ok (.aload_n 0, 1) := by decide +kernel
theorem dX9_saw_19 : decode cX9_saw 19 = .ok (.getfield 37, 3) := by decide +kernel
theorem dX9_saw_22 : decode cX9_saw 22 = .ok (.getfield 286, 3) := by decide +kernel
theorem dX9_saw_25 : decode cX9_saw 25 = .ok (.iload_n 1, 1) := by decide +kernel
theorem dX9_saw_26 : decode cX9_saw 26 = .ok (.iaload, 1) := by decide +kernel
theorem dX9_saw_27 : decode cX9_saw 27 = .ok (.invokevirtual 148, 3) := by decide +kernel
theorem dX9_saw_30 : decode cX9_saw 30 = .ok (.astore_n 2, 1) := by decide +kernel
theorem dX9_saw_31 : decode cX9_saw 31 = .ok (.iconst 0, 1) := by decide +kernel
theorem dX9_saw_32 : decode cX9_saw 32 = .ok (.istore_n 3, 1) := by decide +kernel
theorem dX9_saw_33 : decode cX9_saw 33 = .ok (.iload_n 3, 1) := by decide +kernel
theorem dX9_saw_34 : decode cX9_saw 34 = .ok (.iconst 3, 1) := by decide +kernel
theorem dX9_saw_35 : decode cX9_saw 35 = .ok (.if_icmp .ge 48, 3) := by decide +kernel
theorem dX9_saw_38 : decode cX9_saw 38 = .ok (.aload_n 2, 1) := by decide +kernel
theorem dX9_saw_39 : decode cX9_saw 39 = .ok (.ifnull 38, 3) := by decide +kernel
theorem dX9_saw_42 : decode cX9_saw 42 = .ok (.aload_n 0, 1) := by decide +kernel
theorem dX9_saw_43 : decode cX9_saw 43 = .ok (.getfield 30, 3) := by decide +kernel
theorem dX9_saw_46 : decode cX9_saw 46 = .ok (.aload_n 2, 1) := by decide +kernel
theorem dX9_saw_47 : decode cX9_saw 47 = .ok (.iload_n 3, 1) := by decide +kernel
theorem dX9_saw_48 : decode cX9_saw 48 = .ok (.invokevirtual 303, 3) := by decide +kernel
theorem dX9_saw_51 : decode cX9_saw 51 = .ok (.ifCond .eq 26, 3) := by decide +kernel
theorem dX9_saw_54 : decode cX9_saw 54 = .ok (.aload_n 0, 1) := by decide +kernel
theorem dX9_saw_55 : decode cX9_saw 55 = .ok (.getfield 30, 3) := by decide +kernel
theorem dX9_saw_58 : decode cX9_saw 58 = .ok (.getfield 139, 3) := by decide +kernel
theorem dX9_saw_61 : decode cX9_saw 61 = .ok (.iload_n 3, 1) := by decide +kernel
theorem dX9_saw_62 : decode cX9_saw 62 = .ok (.iaload, 1) := by decide +kernel
theorem dX9_saw_63 : decode cX9_saw 63 = .ok (.aload_n 0, 1) := by decide +kernel
theorem dX9_saw_64 : decode cX9_saw 64 = .ok (.getfield 37, 3) := by decide +kernel
theorem dX9_saw_67 : decode cX9_saw 67 = .ok (.getfield 307, 3) := by decide +kernel
theorem dX9_saw_70 : decode cX9_saw 70 = .ok (.iload_n 1, 1) := by decide +kernel
theorem dX9_saw_71 : decode cX9_saw 71 = .ok (.iaload, 1) := by decide +kernel
theorem dX9_saw_72 : decode cX9_saw 72 = .ok (.if_icmp .gt 5, 3) := by decide +kernel
theorem dX9_saw_75 : decode cX9_saw 75 = .ok (.iconst 1, 1) := by decide +kernel
theorem dX9_saw_76 : decode cX9_saw 76 = .ok (.ireturn, 1) := by decide +kernel
theorem dX9_saw_77 : decode cX9_saw 77 = .ok (.iinc 3 1, 3) := by decide +kernel
theorem dX9_saw_80 : decode cX9_saw 80 = .ok (.goto (-47), 3) := by decide +kernel
theorem dX9_saw_83 : decode cX9_saw 83 = .ok (.iconst 0, 1) := by decide +kernel
theorem dX9_saw_84 : decode cX9_saw 84 = .ok (.ireturn, 1) := by decide +kernel
theorem dX9_image_0 : decode cX9_image 0 = .ok (.iconst 0, 1) := by decide +kernel
theorem dX9_image_1 : decode cX9_image 1 = .ok (.istore_n 1, 1) := by decide +kernel
theorem dX9_image_2 : decode cX9_image 2 = .ok (.iload_n 1, 1) := by decide +kernel
theorem dX9_image_3 : decode cX9_image 3 = .ok (.aload_n 0, 1) := by decide +kernel
theorem dX9_image_4 : decode cX9_image 4 = .ok (.getfield 115, 3) := by decide +kernel
theorem dX9_image_7 : decode cX9_image 7 = .ok (.if_icmp .ge 37, 3) := by decide +kernel
theorem dX9_image_10 : decode cX9_image 10 = .ok (.aload_n 0, 1) := by decide +kernel
theorem dX9_image_11 : decode cX9_image 11 = .ok (.getfield 11, 3) := by decide +kernel
theorem dX9_image_14 : decode cX9_image 14 = .ok (.iload_n 1, 1) := by decide +kernel
theorem dX9_image_15 : decode cX9_image 15 = .ok (.aaload, 1) := by decide +kernel
theorem dX9_image_16 : decode cX9_image 16 = .ok (.astore_n 2, 1) := by decide +kernel
theorem dX9_image_17 : decode cX9_image 17 = .ok (.aload_n 0, 1) := by decide +kernel
theorem dX9_image_18 : decode cX9_image 18 = .ok (.getfield 63, 3) := by decide +kernel
theorem dX9_image_21 : decode cX9_image 21 = .ok (.getfield 310, 3) := by decide +kernel
theorem dX9_image_24 : decode cX9_image 24 = .ok (.iload_n 1, 1) := by decide +kernel
theorem dX9_image_25 : decode cX9_image 25 = .ok (.aload_n 2, 1) := by decide +kernel
theorem dX9_image_26 : decode cX9_image 26 = .ok (.ifnonnull 7, 3) := by decide +kernel
theorem dX9_image_29 : decode cX9_image 29 = .ok (.iconst 0, 1) := by decide +kernel
theorem dX9_image_30 : decode cX9_image 30 = .ok (.goto 7, 3) := by decide +kernel
theorem dX9_image_33 : decode cX9_image 33 = .ok (.aload_n 2, 1) := by decide +kernel
theorem dX9_image_34 : decode cX9_image 34 = .ok (.getfield 125, 3) := by decide +kernel
theorem dX9_image_37 : decode cX9_image 37 = .ok (.iastore, 1) := by decide +kernel
theorem dX9_image_38 : decode cX9_image 38 = .ok (.iinc 1 1, 3) := by decide +kernel
theorem dX9_image_41 : decode cX9_image 41 = .ok (.goto (-39), 3) := by decide +kernel
theorem dX9_image_44 : decode cX9_image 44 = .ok (.aload_n 0, 1) := by decide +kernel
theorem dX9_image_45 : decode cX9_image 45 = .ok (.getfield 63, 3) := by decide +kernel
theorem dX9_image_48 : decode cX9_image 48 = .ok (.aload_n 0, 1) := by decide +kernel
theorem dX9_image_49 : decode cX9_image 49 = .ok (.getfield 115, 3) := by decide +kernel
theorem dX9_image_52 : decode cX9_image 52 = .ok (.putfield 312, 3) := by decide +kernel
theorem dX9_image_55 : decode cX9_image 55 = .ok (.aload_n 0, 1) := by decide +kernel
theorem dX9_image_56 : decode cX9_image 56 = .ok (.getfield 63, 3) := by decide +kernel
theorem dX9_image_59 : decode cX9_image 59 = .ok (.getfield 314, 3) := by decide +kernel
theorem dX9_image_62 : decode cX9_image 62 = .ok (.aload_n 0, 1) := by decide +kernel
theorem dX9_image_63 : decode cX9_image 63 = .ok (.getfield 30, 3) := by decide +kernel
theorem dX9_image_66 : decode cX9_image 66 = .ok (.invokevirtual 315, 3) := by decide +kernel
theorem dX9_image_69 : decode cX9_image 69 = .ok (.aload_n 0, 1) := by decide +kernel
theorem dX9_image_70 : decode cX9_image 70 = .ok (.getfield 63, 3) := by decide +kernel
theorem dX9_image_73 : decode cX9_image 73 = .ok (.aload_n 0, 1) := by decide +kernel
theorem dX9_image_74 : decode cX9_image 74 = .ok (.getfield 213, 3) := by decide +kernel
theorem dX9_image_77 : decode cX9_image 77 = .ok (.putfield 319, 3) := by decide +kernel
theorem dX9_image_80 : decode cX9_image 80 = .ok (.aload_n 0, 1) := by decide +kernel
theorem dX9_image_81 : decode cX9_image 81 = .ok (.getfield 63, 3) := by decide +kernel
theorem dX9_image_84 : decode cX9_image 84 = .ok (.aload_n 0, 1) := by decide +kernel
theorem dX9_image_85 : decode cX9_image 85 = .ok (.getfield 37, 3) := by decide +kernel
theorem dX9_image_88 : decode cX9_image 88 = .ok (.getfield 199, 3) := by decide +kernel
theorem dX9_image_91 : decode cX9_image 91 = .ok (.putfield 322, 3) := by decide +kernel
theorem dX9_image_94 : decode cX9_image 94 = .ok (.aload_n 0, 1) := by decide +kernel
theorem dX9_image_95 : decode cX9_image 95 = .ok (.getfield 63, 3) := by decide +kernel
theorem dX9_image_98 : decode cX9_image 98 = .ok (.getfield 322, 3) := by decide +kernel
theorem dX9_image_101 : decode cX9_image 101 = .ok (.ireturn, 1) := by decide +kernel
theorem dX9_back_0 : decode cX9_back 0 = .ok (.aload_n 0, 1) := by decide +kernel
theorem dX9_back_1 : decode cX9_back 1 = .ok (.getfield 63, 3) := by decide +kernel
theorem dX9_back_4 : decode cX9_back 4 = .ok (.getfield 322, 3) := by decide +kernel
theorem dX9_back_7 : decode cX9_back 7 = .ok (.iconst (-1), 1) := by decide +kernel
theorem dX9_back_8 : decode cX9_back 8 = .ok (.if_icmp .ne 6, 3) := by decide +kernel
theorem dX9_back_11 : decode cX9_back 11 = .ok (.bipush (-3), 2) := by decide +kernel
theorem dX9_back_13 : decode cX9_back 13 = .ok (.ireturn, 1) := by decide +kernel
theorem dX9_back_14 : decode cX9_back 14 = .ok (.iconst 0, 1) := by decide +kernel
theorem dX9_back_15 : decode cX9_back 15 = .ok (.istore_n 1, 1) := by decide +kernel
theorem dX9_back_16 : decode cX9_back 16 = .ok (.iload_n 1, 1) := by decide +kernel
theorem dX9_back_17 : decode cX9_back 17 = .ok (.aload_n 0, 1) := by decide +kernel
theorem dX9_back_18 : decode cX9_back 18 = .ok (.getfield 63, 3) := by decide +kernel
theorem dX9_back_21 : decode cX9_back 21 = .ok (.getfield 312, 3) := by decide +kernel
theorem dX9_back_24 : decode cX9_back 24 = .ok (.if_icmp .ge 33, 3) := by decide +kernel
theorem dX9_back_27 : decode cX9_back 27 = .ok (.aload_n 0, 1) := by decide +kernel
theorem dX9_back_28 : decode cX9_back 28 = .ok (.getfield 11, 3) := by decide +kernel
theorem dX9_back_31 : decode cX9_back 31 = .ok (.iload_n 1, 1) := by decide +kernel
theorem dX9_back_32 : decode cX9_back 32 = .ok (.aaload, 1) := by decide +kernel
theorem dX9_back_33 : decode cX9_back 33 = .ok (.astore_n 2, 1) := by decide +kernel
theorem dX9_back_34 : decode cX9_back 34 = .ok (.aload_n 2, 1) := by decide +kernel
theorem dX9_back_35 : decode cX9_back 35 = .ok (.ifnull 16, 3) := by decide +kernel
theorem dX9_back_38 : decode cX9_back 38 = .ok (.aload_n 2, 1) := by decide +kernel
theorem dX9_back_39 : decode cX9_back 39 = .ok (.aload_n 0, 1) := by decide +kernel
theorem dX9_back_40 : decode cX9_back 40 = .ok (.getfield 63, 3) := by decide +kernel
theorem dX9_back_43 : decode cX9_back 43 = .ok (.getfield 310, 3) := by decide +kernel
theorem dX9_back_46 : decode cX9_back 46 = .ok (.iload_n 1, 1) := by decide +kernel
theorem dX9_back_47 : decode cX9_back 47 = .ok (.iaload, 1) := by decide +kernel
theorem dX9_back_48 : decode cX9_back 48 = .ok (.putfield 125, 3) := by decide +kernel
theorem dX9_back_51 : decode cX9_back 51 = .ok (.iinc 1 1, 3) := by decide +kernel
theorem dX9_back_54 : decode cX9_back 54 = .ok (.goto (-38), 3) := by decide +kernel
theorem dX9_back_57 : decode cX9_back 57 = .ok (.aload_n 0, 1) := by decide +kernel
theorem dX9_back_58 : decode cX9_back 58 = .ok (.getfield 30, 3) := by decide +kernel
theorem dX9_back_61 : decode cX9_back 61 = .ok (.aload_n 0, 1) := by decide +kernel
theorem dX9_back_62 : decode cX9_back 62 = .ok (.getfield 63, 3) := by decide +kernel
theorem dX9_back_65 : decode cX9_back 65 = .ok (.getfield 314, 3) := by decide +kernel
theorem dX9_back_68 : decode cX9_back 68 = .ok (.invokevirtual 315, 3) := by decide +kernel
theorem dX9_back_71 : decode cX9_back 71 = .ok (.aload_n 0, 1) := by decide +kernel
theorem dX9_back_72 : decode cX9_back 72 = .ok (.aload_n 0, 1) := by decide +kernel
theorem dX9_back_73 : decode cX9_back 73 = .ok (.getfield 63, 3) := by decide +kernel
theorem dX9_back_76 : decode cX9_back 76 = .ok (.getfield 319, 3) := by decide +kernel
theorem dX9_back_79 : decode cX9_back 79 = .ok (.putfield 213, 3) := by decide +kernel
theorem dX9_back_82 : decode cX9_back 82 = .ok (.aload_n 0, 1) := by decide +kernel
theorem dX9_back_83 : decode cX9_back 83 = .ok (.getfield 37, 3) := by decide +kernel
theorem dX9_back_86 : decode cX9_back 86 = .ok (.aload_n 0, 1) := by decide +kernel
theorem dX9_back_87 : decode cX9_back 87 = .ok (.getfield 63, 3) := by decide +kernel
theorem dX9_back_90 : decode cX9_back 90 = .ok (.getfield 322, 3) := by decide +kernel
theorem dX9_back_93 : decode cX9_back 93 = .ok (.putfield 199, 3) := by decide +kernel
theorem dX9_back_96 : decode cX9_back 96 = .ok (.aload_n 0, 1) := by decide +kernel
theorem dX9_back_97 : decode cX9_back 97 = .ok (.invokevirtual 325, 3) := by decide +kernel
theorem dX9_back_100 : decode cX9_back 100 = .ok (.aload_n 0, 1) := by decide +kernel
theorem dX9_back_101 : decode cX9_back 101 = .ok (.getfield 37, 3) := by decide +kernel
theorem dX9_back_104 : decode cX9_back 104 = .ok (.getfield 199, 3) := by decide +kernel
theorem dX9_back_107 : decode cX9_back 107 = .ok (.ireturn, 1) := by decide +kernel
theorem dX9_count_0 : decode cX9_count 0 = .ok (.iload_n 1, 1) := by decide +kernel
theorem dX9_count_1 : decode cX9_count 1 = .ok (.tableswitch 93 0 7 #[47, 52, 57, 65, 70, 78, 83, 88], 47) := by decide +kernel
theorem dX9_count_48 : decode cX9_count 48 = .ok (.aload_n 0, 1) := by decide +kernel
theorem dX9_count_49 : decode cX9_count 49 = .ok (.getfield 115, 3) := by decide +kernel
theorem dX9_count_52 : decode cX9_count 52 = .ok (.ireturn, 1) := by decide +kernel
theorem dX9_count_53 : decode cX9_count 53 = .ok (.aload_n 0, 1) := by decide +kernel
theorem dX9_count_54 : decode cX9_count 54 = .ok (.getfield 142, 3) := by decide +kernel
theorem dX9_count_57 : decode cX9_count 57 = .ok (.ireturn, 1) := by decide +kernel
theorem dX9_count_58 : decode cX9_count 58 = .ok (.aload_n 0, 1) := by decide +kernel
theorem dX9_count_59 : decode cX9_count 59 = .ok (.getfield 37, 3) := by decide +kernel
theorem dX9_count_62 : decode cX9_count 62 = .ok (.getfield 199, 3) := by decide +kernel
theorem dX9_count_65 : decode cX9_count 65 = .ok (.ireturn, 1) := by decide +kernel
theorem dX9_count_66 : decode cX9_count 66 = .ok (.aload_n 0, 1) := by decide +kernel
theorem dX9_count_67 : decode cX9_count 67 = .ok (.getfield 102, 3) := by decide +kernel
theorem dX9_count_70 : decode cX9_count 70 = .ok (.ireturn, 1) := by decide +kernel
theorem dX9_count_71 : decode cX9_count 71 = .ok (.aload_n 0, 1) := by decide +kernel
theorem dX9_count_72 : decode cX9_count 72 = .ok (.getfield 44, 3) := by decide +kernel
theorem dX9_count_75 : decode cX9_count 75 = .ok (.getfield 209, 3) := by decide +kernel
theorem dX9_count_78 : decode cX9_count 78 = .ok (.ireturn, 1) := by decide +kernel
theorem dX9_count_79 : decode cX9_count 79 = .ok (.aload_n 0, 1) := by decide +kernel
theorem dX9_count_80 : decode cX9_count 80 = .ok (.getfield 213, 3) := by decide +kernel
theorem dX9_count_83 : decode cX9_count 83 = .ok (.ireturn, 1) := by decide +kernel
theorem dX9_count_84 : decode cX9_count 84 = .ok (.aload_n 0, 1) := by decide +kernel
theorem dX9_count_85 : decode cX9_count 85 = .ok (.invokevirtual 328, 3) := by decide +kernel
theorem dX9_count_88 : decode cX9_count 88 = .ok (.ireturn, 1) := by decide +kernel
theorem dX9_count_89 : decode cX9_count 89 = .ok (.aload_n 0, 1) := by decide +kernel
theorem dX9_count_90 : decode cX9_count 90 = .ok (.invokevirtual 331, 3) := by decide +kernel
theorem dX9_count_93 : decode cX9_count 93 = .ok (.ireturn, 1) := by decide +kernel
theorem dX9_count_94 : decode cX9_count 94 = .ok (.bipush (-2), 2) := by decide +kernel
theorem dX9_count_96 : decode cX9_count 96 = .ok (.ireturn, 1) := by decide +kernel
theorem dX9_sheet_0 : decode cX9_sheet 0 = .ok (.aload_n 0, 1) := by decide +kernel
theorem dX9_sheet_1 : decode cX9_sheet 1 = .ok (.iload_n 1, 1) := by decide +kernel
theorem dX9_sheet_2 : decode cX9_sheet 2 = .ok (.invokevirtual 334, 3) := by decide +kernel
theorem dX9_sheet_5 : decode cX9_sheet 5 = .ok (.astore 4, 2) := by decide +kernel
theorem dX9_sheet_7 : decode cX9_sheet 7 = .ok (.aload 4, 2) := by decide +kernel
theorem dX9_sheet_9 : decode cX9_sheet 9 = .ok (.ifnull 24, 3) := by decide +kernel
theorem dX9_sheet_12 : decode cX9_sheet 12 = .ok (.iload_n 2, 1) := by decide +kernel
theorem dX9_sheet_13 : decode cX9_sheet 13 = .ok (.iconst (-1), 1) := by decide +kernel
theorem dX9_sheet_14 : decode cX9_sheet 14 = .ok (.if_icmp .lt 19, 3) := by decide +kernel
theorem dX9_sheet_17 : decode cX9_sheet 17 = .ok (.iload_n 2, 1) := by decide +kernel
theorem dX9_sheet_18 : decode cX9_sheet 18 = .ok (.iconst 2, 1) := by decide +kernel
theorem dX9_sheet_19 : decode cX9_sheet 19 = .ok (.if_icmp .gt 14, 3) := by decide +kernel
theorem dX9_sheet_22 : decode cX9_sheet 22 = .ok (.iload_n 2, 1) := by decide +kernel
theorem dX9_sheet_23 : decode cX9_sheet 23 = .ok (.iconst (-1), 1) := by decide +kernel
theorem dX9_sheet_24 : decode cX9_sheet 24 = .ok (.if_icmp .eq 12, 3) := by decide +kernel
theorem dX9_sheet_27 : decode cX9_sheet 27 = .ok (.iload_n 3, 1) := by decide +kernel
theorem dX9_sheet_28 : decode cX9_sheet 28 = .ok (.bipush 40, 2) := by decide +kernel
theorem dX9_sheet_30 : decode cX9_sheet 30 = .ok (.if_icmp .le 6, 3) := by decide +kernel
theorem dX9_sheet_33 : decode cX9_sheet 33 = .ok (.bipush (-2), 2) := by decide +kernel
theorem dX9_sheet_35 : decode cX9_sheet 35 = .ok (.ireturn, 1) := by decide +kernel
theorem dX9_sheet_36 : decode cX9_sheet 36 = .ok (.iload_n 2, 1) := by decide +kernel
theorem dX9_sheet_37 : decode cX9_sheet 37 = .ok (.iconst (-1), 1) := by decide +kernel
theorem dX9_sheet_38 : decode cX9_sheet 38 = .ok (.if_icmp .eq 10, 3) := by decide +kernel
theorem dX9_sheet_41 : decode cX9_sheet 41 = .ok (.iload_n 3, 1) := by decide +kernel
theorem dX9_sheet_42 : decode cX9_sheet 42 = .ok (.ifCond .ge 6, 3) := by decide +kernel
theorem dX9_sheet_45 : decode cX9_sheet 45 = .ok (.bipush (-14), 2) := by decide +kernel
theorem dX9_sheet_47 : decode cX9_sheet 47 = .ok (.ireturn, 1) := by decide +kernel
theorem dX9_sheet_48 : decode cX9_sheet 48 = .ok (.aload 4, 2) := by decide +kernel
theorem dX9_sheet_50 : decode cX9_sheet 50 = .ok (.iload_n 2, 1) := by decide +kernel
theorem dX9_sheet_51 : decode cX9_sheet 51 = .ok (.iload_n 2, 1) := by decide +kernel
theorem dX9_sheet_52 : decode cX9_sheet 52 = .ok (.iconst (-1), 1) := by decide +kernel
theorem dX9_sheet_53 : decode cX9_sheet 53 = .ok (.if_icmp .ne 7, 3) := by decide +kernel
theorem dX9_sheet_56 : decode cX9_sheet 56 = .ok (.iconst 0, 1) := by decide +kernel
theorem dX9_sheet_57 : decode cX9_sheet 57 = .ok (.goto 4, 3) := by decide +kernel
theorem dX9_sheet_60 : decode cX9_sheet 60 = .ok (.iload_n 3, 1) := by decide +kernel
theorem dX9_sheet_61 : decode cX9_sheet 61 = .ok (.invokevirtual 338, 3) := by decide +kernel
theorem dX9_sheet_64 : decode cX9_sheet 64 = .ok (.iconst 1, 1) := by decide +kernel
theorem dX9_sheet_65 : decode cX9_sheet 65 = .ok (.ireturn, 1) := by decide +kernel
theorem dX9_cell_0 : decode cX9_cell 0 = .ok (.aload_n 0, 1) := by decide +kernel
theorem dX9_cell_1 : decode cX9_cell 1 = .ok (.iload_n 1, 1) := by decide +kernel
theorem dX9_cell_2 : decode cX9_cell 2 = .ok (.invokevirtual 334, 3) := by decide +kernel
theorem dX9_cell_5 : decode cX9_cell 5 = .ok (.astore 4, 2) := by decide +kernel
theorem dX9_cell_7 : decode cX9_cell 7 = .ok (.aload 4, 2) := by decide +kernel
theorem dX9_cell_9 : decode cX9_cell 9 = .ok (.ifnonnull 6, 3) := by decide +kernel
theorem dX9_cell_12 : decode cX9_cell 12 = .ok (.bipush (-2), 2) := by decide +kernel
theorem dX9_cell_14 : decode cX9_cell 14 = .ok (.ireturn, 1) := by decide +kernel
theorem dX9_cell_15 : decode cX9_cell 15 = .ok (.aload 4, 2) := by decide +kernel
theorem dX9_cell_17 : decode cX9_cell 17 = .ok (.getfield 341, 3) := by decide +kernel
theorem dX9_cell_20 : decode cX9_cell 20 = .ok (.iconst (-1), 1) := by decide +kernel
theorem dX9_cell_21 : decode cX9_cell 21 = .ok (.if_icmp .ne 6, 3) := by decide +kernel
theorem dX9_cell_24 : decode cX9_cell 24 = .ok (.bipush (-11), 2) := by decide +kernel
theorem dX9_cell_26 : decode cX9_cell 26 = .ok (.ireturn, 1) := by decide +kernel
theorem dX9_cell_27 : decode cX9_cell 27 = .ok (.iload_n 2, 1) := by decide +kernel
theorem dX9_cell_28 : decode cX9_cell 28 = .ok (.aload 4, 2) := by decide +kernel
theorem dX9_cell_30 : decode cX9_cell 30 = .ok (.getfield 344, 3) := by decide +kernel
theorem dX9_cell_33 : decode cX9_cell 33 = .ok (.invokestatic 136, 3) := by decide +kernel
theorem dX9_cell_36 : decode cX9_cell 36 = .ok (.ifCond .ne 6, 3) := by decide +kernel
theorem dX9_cell_39 : decode cX9_cell 39 = .ok (.bipush (-12), 2) := by decide +kernel
theorem dX9_cell_41 : decode cX9_cell 41 = .ok (.ireturn, 1) := by decide +kernel
theorem dX9_cell_42 : decode cX9_cell 42 = .ok (.aload 4, 2) := by decide +kernel
theorem dX9_cell_44 : decode cX9_cell 44 = .ok (.getfield 345, 3) := by decide +kernel
theorem dX9_cell_47 : decode cX9_cell 47 = .ok (.iload_n 2, 1) := by decide +kernel
theorem dX9_cell_48 : decode cX9_cell 48 = .ok (.aload 4, 2) := by decide +kernel
theorem dX9_cell_50 : decode cX9_cell 50 = .ok (.iload_n 3, 1) := by decide +kernel
theorem dX9_cell_51 : decode cX9_cell 51 = .ok (.invokevirtual 348, 3) := by decide +kernel
theorem dX9_cell_54 : decode cX9_cell 54 = .ok (.iastore, 1) := by decide +kernel
theorem dX9_cell_55 : decode cX9_cell 55 = .ok (.iconst 1, 1) := by decide +kernel
theorem dX9_cell_56 : decode cX9_cell 56 = .ok (.ireturn, 1) := by decide +kernel
theorem dX9_copy_0 : decode cX9_copy 0 = .ok (.aload_n 0, 1) := by decide +kernel
theorem dX9_copy_1 : decode cX9_copy 1 = .ok (.iload_n 1, 1) := by decide +kernel
theorem dX9_copy_2 : decode cX9_copy 2 = .ok (.invokevirtual 334, 3) := by decide +kernel
theorem dX9_copy_5 : decode cX9_copy 5 = .ok (.astore 6, 2) := by decide +kernel
theorem dX9_copy_7 : decode cX9_copy 7 = .ok (.aload_n 0, 1) := by decide +kernel
theorem dX9_copy_8 : decode cX9_copy 8 = .ok (.iload_n 3, 1) := by decide +kernel
theorem dX9_copy_9 : decode cX9_copy 9 = .ok (.invokevirtual 334, 3) := by decide +kernel
theorem dX9_copy_12 : decode cX9_copy 12 = .ok (.astore 7, 2) := by decide +kernel
theorem dX9_copy_14 : decode cX9_copy 14 = .ok (.aload 6, 2) := by decide +kernel
theorem dX9_copy_16 : decode cX9_copy 16 = .ok (.ifnull 8, 3) := by decide +kernel
theorem dX9_copy_19 : decode cX9_copy 19 = .ok (.aload 7, 2) := by decide +kernel
theorem dX9_copy_21 : decode cX9_copy 21 = .ok (.ifnonnull 6, 3) := by decide +kernel
theorem dX9_copy_24 : decode cX9_copy 24 = .ok (.bipush (-2), 2) := by decide +kernel
theorem dX9_copy_26 : decode cX9_copy 26 = .ok (.ireturn, 1) := by decide +kernel
theorem dX9_copy_27 : decode cX9_copy 27 = .ok (.aload 6, 2) := by decide +kernel
theorem dX9_copy_29 : decode cX9_copy 29 = .ok (.getfield 341, 3) := by decide +kernel
theorem dX9_copy_32 : decode cX9_copy 32 = .ok (.iconst (-1), 1) := by decide +kernel
theorem dX9_copy_33 : decode cX9_copy 33 = .ok (.if_icmp .eq 12, 3) := by decide +kernel
theorem dX9_copy_36 : decode cX9_copy 36 = .ok (.aload 7, 2) := by decide +kernel
theorem dX9_copy_38 : decode cX9_copy 38 = .ok (.getfield 341, 3) := by decide +kernel
theorem dX9_copy_41 : decode cX9_copy 41 = .ok (.iconst (-1), 1) := by decide +kernel
theorem dX9_copy_42 : decode cX9_copy 42 = .ok (.if_icmp .ne 6, 3) := by decide +kernel
theorem dX9_copy_45 : decode cX9_copy 45 = .ok (.bipush (-11), 2) := by decide +kernel
theorem dX9_copy_47 : decode cX9_copy 47 = .ok (.ireturn, 1) := by decide +kernel
theorem dX9_copy_48 : decode cX9_copy 48 = .ok (.aload 6, 2) := by decide +kernel
theorem dX9_copy_50 : decode cX9_copy 50 = .ok (.getfield 341, 3) := by decide +kernel
theorem dX9_copy_53 : decode cX9_copy 53 = .ok (.aload 7, 2) := by decide +kernel
theorem dX9_copy_55 : decode cX9_copy 55 = .ok (.getfield 341, 3) := by decide +kernel
theorem dX9_copy_58 : decode cX9_copy 58 = .ok (.if_icmp .eq 6, 3) := by decide +kernel
theorem dX9_copy_61 : decode cX9_copy 61 = .ok (.bipush (-13), 2) := by decide +kernel
theorem dX9_copy_63 : decode cX9_copy 63 = .ok (.ireturn, 1) := by decide +kernel
theorem dX9_copy_64 : decode cX9_copy 64 = .ok (.aload 6, 2) := by decide +kernel
theorem dX9_copy_66 : decode cX9_copy 66 = .ok (.iload_n 2, 1) := by decide +kernel
theorem dX9_copy_67 : decode cX9_copy 67 = .ok (.iload 5, 2) := by decide +kernel
theorem dX9_copy_69 : decode cX9_copy 69 = .ok (.invokevirtual 351, 3) := by decide +kernel
theorem dX9_copy_72 : decode cX9_copy 72 = .ok (.ifCond .eq 15, 3) := by decide +kernel
theorem dX9_copy_75 : decode cX9_copy 75 = .ok (.aload 7, 2) := by decide +kernel
theorem dX9_copy_77 : decode cX9_copy 77 = .ok (.iload 4, 2) := by decide +kernel
theorem dX9_copy_79 : decode cX9_copy 79 = .ok (.iload 5, 2) := by decide +kernel
theorem dX9_copy_81 : decode cX9_copy 81 = .ok (.invokevirtual 351, 3) := by decide +kernel
theorem dX9_copy_84 : decode cX9_copy 84 = .ok (.ifCond .ne 6, 3) := by decide +kernel
theorem dX9_copy_87 : decode cX9_copy 87 = .ok (.bipush (-12), 2) := by decide +kernel
theorem dX9_copy_89 : decode cX9_copy 89 = .ok (.ireturn, 1) := by decide +kernel
theorem dX9_copy_90 : decode cX9_copy 90 = .ok (.aload 6, 2) := by decide +kernel
theorem dX9_copy_92 : decode cX9_copy 92 = .ok (.getfield 345, 3) := by decide +kernel
theorem dX9_copy_95 : decode cX9_copy 95 = .ok (.iload_n 2, 1) := by decide +kernel
theorem dX9_copy_96 : decode cX9_copy 96 = .ok (.aload 7, 2) := by decide +kernel
theorem dX9_copy_98 : decode cX9_copy 98 = .ok (.getfield 345, 3) := by decide +kernel
theorem dX9_copy_101 : decode cX9_copy 101 = .ok (.iload 4, 2) := by decide +kernel
theorem dX9_copy_103 : decode cX9_copy 103 = .ok (.iload 5, 2) := by decide +kernel
theorem dX9_copy_105 : decode cX9_copy 105 = .ok (.invokestatic 354, 3) := by decide +kernel
theorem dX9_copy_108 : decode cX9_copy 108 = .ok (.iload 5, 2) := by decide +kernel
theorem dX9_copy_110 : decode cX9_copy 110 = .ok (.ireturn, 1) := by decide +kernel
theorem dX9_sales_0 : decode cX9_sales 0 = .ok (.aload_n 0, 1) := by decide +kernel
theorem dX9_sales_1 : decode cX9_sales 1 = .ok (.iload_n 1, 1) := by decide +kernel
theorem dX9_sales_2 : decode cX9_sales 2 = .ok (.invokevirtual 334, 3) := by decide +kernel
theorem dX9_sales_5 : decode cX9_sales 5 = .ok (.astore 5, 2) := by decide +kernel
theorem dX9_sales_7 : decode cX9_sales 7 = .ok (.aload 5, 2) := by decide +kernel
theorem dX9_sales_9 : decode cX9_sales 9 = .ok (.ifnull 21, 3) := by decide +kernel
theorem dX9_sales_12 : decode cX9_sales 12 = .ok (.iload_n 2, 1) := by decide +kernel
theorem dX9_sales_13 : decode cX9_sales 13 = .ok (.iconst 2, 1) := by decide +kernel
theorem dX9_sales_14 : decode cX9_sales 14 = .ok (.invokestatic 106, 3) := by decide +kernel
theorem dX9_sales_17 : decode cX9_sales 17 = .ok (.ifCond .eq 13, 3) := by decide +kernel
theorem dX9_sales_20 : decode cX9_sales 20 = .ok (.iload 4, 2) := by decide +kernel
theorem dX9_sales_22 : decode cX9_sales 22 = .ok (.bipush 10, 2) := by decide +kernel
theorem dX9_sales_24 : decode cX9_sales 24 = .ok (.invokestatic 106, 3) := by decide +kernel
theorem dX9_sales_27 : decode cX9_sales 27 = .ok (.ifCond .ne 6, 3) := by decide +kernel
theorem dX9_sales_30 : decode cX9_sales 30 = .ok (.bipush (-2), 2) := by decide +kernel
theorem dX9_sales_32 : decode cX9_sales 32 = .ok (.ireturn, 1) := by decide +kernel
theorem dX9_sales_33 : decode cX9_sales 33 = .ok (.aload 5, 2) := by decide +kernel
theorem dX9_sales_35 : decode cX9_sales 35 = .ok (.getfield 341, 3) := by decide +kernel
theorem dX9_sales_38 : decode cX9_sales 38 = .ok (.iconst (-1), 1) := by decide +kernel
theorem dX9_sales_39 : decode cX9_sales 39 = .ok (.if_icmp .ne 6, 3) := by decide +kernel
theorem dX9_sales_42 : decode cX9_sales 42 = .ok (.bipush (-11), 2) := by decide +kernel
theorem dX9_sales_44 : decode cX9_sales 44 = .ok (.ireturn, 1) := by decide +kernel
theorem dX9_sales_45 : decode cX9_sales 45 = .ok (.aload 5, 2) := by decide +kernel
theorem dX9_sales_47 : decode cX9_sales 47 = .ok (.getfield 341, 3) := by decide +kernel
theorem dX9_sales_50 : decode cX9_sales 50 = .ok (.iload_n 2, 1) := by decide +kernel
theorem dX9_sales_51 : decode cX9_sales 51 = .ok (.if_icmp .eq 6, 3) := by decide +kernel
theorem dX9_sales_54 : decode cX9_sales 54 = .ok (.bipush (-13), 2) := by decide +kernel
theorem dX9_sales_56 : decode cX9_sales 56 = .ok (.ireturn, 1) := by decide +kernel
theorem dX9_sales_57 : decode cX9_sales 57 = .ok (.iconst 0, 1) := by decide +kernel
theorem dX9_sales_58 : decode cX9_sales 58 = .ok (.istore 6, 2) := by decide +kernel
theorem dX9_sales_60 : decode cX9_sales 60 = .ok (.iconst 0, 1) := by decide +kernel
theorem dX9_sales_61 : decode cX9_sales 61 = .ok (.istore 7, 2) := by decide +kernel
theorem dX9_sales_63 : decode cX9_sales 63 = .ok (.iload 7, 2) := by decide +kernel
theorem dX9_sales_65 : decode cX9_sales 65 = .ok (.iload 4, 2) := by decide +kernel
theorem dX9_sales_67 : decode cX9_sales 67 = .ok (.if_icmp .ge 79, 3) := by decide +kernel
theorem dX9_sales_70 : decode cX9_sales 70 = .ok (.iload_n 3, 1) := by decide +kernel
theorem dX9_sales_71 : decode cX9_sales 71 = .ok (.iconst 4, 1) := by decide +kernel
theorem dX9_sales_72 : decode cX9_sales 72 = .ok (.iload 7, 2) := by decide +kernel
theorem dX9_sales_74 : decode cX9_sales 74 = .ok (.imul, 1) := by decide +kernel
theorem dX9_sales_75 : decode cX9_sales 75 = .ok (.iadd, 1) := by decide +kernel
theorem dX9_sales_76 : decode cX9_sales 76 = .ok (.istore 8, 2) := by decide +kernel
theorem dX9_sales_78 : decode cX9_sales 78 = .ok (.aload 5, 2) := by decide +kernel
theorem dX9_sales_80 : decode cX9_sales 80 = .ok (.iload 8, 2) := by decide +kernel
theorem dX9_sales_82 : decode cX9_sales 82 = .ok (.iconst 4, 1) := by decide +kernel
theorem dX9_sales_83 : decode cX9_sales 83 = .ok (.invokevirtual 351, 3) := by decide +kernel
theorem dX9_sales_86 : decode cX9_sales 86 = .ok (.ifCond .ne 6, 3) := by decide +kernel
theorem dX9_sales_89 : decode cX9_sales 89 = .ok (.bipush (-12), 2) := by decide +kernel
theorem dX9_sales_91 : decode cX9_sales 91 = .ok (.ireturn, 1) := by decide +kernel
theorem dX9_sales_92 : decode cX9_sales 92 = .ok (.aload_n 0, 1) := by decide +kernel
theorem dX9_sales_93 : decode cX9_sales 93 = .ok (.aload 5, 2) := by decide +kernel
theorem dX9_sales_95 : decode cX9_sales 95 = .ok (.getfield 345, 3) := by decide +kernel
theorem dX9_sales_98 : decode cX9_sales 98 = .ok (.iload 8, 2) := by decide +kernel
theorem dX9_sales_100 : decode cX9_sales 100 = .ok (.iaload, 1) := by decide +kernel
theorem dX9_sales_101 : decode cX9_sales 101 = .ok (.aload 5, 2) := by decide +kernel
theorem dX9_sales_103 : decode cX9_sales 103 = .ok (.getfield 345, 3) := by decide +kernel
theorem dX9_sales_106 : decode cX9_sales 106 = .ok (.iload 8, 2) := by decide +kernel
theorem dX9_sales_108 : decode cX9_sales 108 = .ok (.iconst 1, 1) := by decide +kernel
theorem dX9_sales_109 : decode cX9_sales 109 = .ok (.iadd, 1) := by decide +kernel
theorem dX9_sales_110 : decode cX9_sales 110 = .ok (.iaload, 1) := by decide +kernel
theorem dX9_sales_111 : decode cX9_sales 111 = .ok (.aload 5, 2) := by decide +kernel
theorem dX9_sales_113 : decode cX9_sales 113 = .ok (.getfield 345, 3) := by decide +kernel
theorem dX9_sales_116 : decode cX9_sales 116 = .ok (.iload 8, 2) := by decide +kernel
theorem dX9_sales_118 : decode cX9_sales 118 = .ok (.iconst 2, 1) := by decide +kernel
theorem dX9_sales_119 : decode cX9_sales 119 = .ok (.iadd, 1) := by decide +kernel
theorem dX9_sales_120 : decode cX9_sales 120 = .ok (.iaload, 1) := by decide +kernel
theorem dX9_sales_121 : decode cX9_sales 121 = .ok (.aload 5, 2) := by decide +kernel
theorem dX9_sales_123 : decode cX9_sales 123 = .ok (.getfield 345, 3) := by decide +kernel
theorem dX9_sales_126 : decode cX9_sales 126 = .ok (.iload 8, 2) := by decide +kernel
theorem dX9_sales_128 : decode cX9_sales 128 = .ok (.iconst 3, 1) := by decide +kernel
theorem dX9_sales_129 : decode cX9_sales 129 = .ok (.iadd, 1) := by decide +kernel
theorem dX9_sales_130 : decode cX9_sales 130 = .ok (.iaload, 1) := by decide +kernel
theorem dX9_sales_131 : decode cX9_sales 131 = .ok (.invokevirtual 360, 3) := by decide +kernel
theorem dX9_sales_134 : decode cX9_sales 134 = .ok (.ifCond .lt 6, 3) := by decide +kernel
theorem dX9_sales_137 : decode cX9_sales 137 = .ok (.iinc 6 1, 3) := by decide +kernel
theorem dX9_sales_140 : decode cX9_sales 140 = .ok (.iinc 7 1, 3) := by decide +kernel
theorem dX9_sales_143 : decode cX9_sales 143 = .ok (.goto (-80), 3) := by decide +kernel
theorem dX9_sales_146 : decode cX9_sales 146 = .ok (.iload 6, 2) := by decide +kernel
theorem dX9_sales_148 : decode cX9_sales 148 = .ok (.ireturn, 1) := by decide +kernel
theorem dX9_taken_0 : decode cX9_taken 0 = .ok (.iload_n 2, 1) := by decide +kernel
theorem dX9_taken_1 : decode cX9_taken 1 = .ok (.iconst 5, 1) := by decide +kernel
theorem dX9_taken_2 : decode cX9_taken 2 = .ok (.invokestatic 106, 3) := by decide +kernel
theorem dX9_taken_5 : decode cX9_taken 5 = .ok (.ifCond .ne 6, 3) := by decide +kernel
theorem dX9_taken_8 : decode cX9_taken 8 = .ok (.bipush (-2), 2) := by decide +kernel
theorem dX9_taken_10 : decode cX9_taken 10 = .ok (.ireturn, 1) := by decide +kernel
theorem dX9_taken_11 : decode cX9_taken 11 = .ok (.aload_n 0, 1) := by decide +kernel
theorem dX9_taken_12 : decode cX9_taken 12 = .ok (.iload_n 1, 1) := by decide +kernel
theorem dX9_taken_13 : decode cX9_taken 13 = .ok (.invokevirtual 148, 3) := by decide +kernel
theorem dX9_taken_16 : decode cX9_taken 16 = .ok (.astore_n 3, 1) := by decide +kernel
theorem dX9_taken_17 : decode cX9_taken 17 = .ok (.aload_n 3, 1) := by decide +kernel
theorem dX9_taken_18 : decode cX9_taken 18 = .ok (.ifnonnull 6, 3) := by decide +kernel
theorem dX9_taken_21 : decode cX9_taken 21 = .ok (.bipush (-11), 2) := by decide +kernel
theorem dX9_taken_23 : decode cX9_taken 23 = .ok (.ireturn, 1) := by decide +kernel
theorem dX9_taken_24 : decode cX9_taken 24 = .ok (.aload_n 3, 1) := by decide +kernel
theorem dX9_taken_25 : decode cX9_taken 25 = .ok (.getfield 152, 3) := by decide +kernel
theorem dX9_taken_28 : decode cX9_taken 28 = .ok (.iload_n 2, 1) := by decide +kernel
theorem dX9_taken_29 : decode cX9_taken 29 = .ok (.invokestatic 229, 3) := by decide +kernel
theorem dX9_taken_32 : decode cX9_taken 32 = .ok (.ifCond .eq 13, 3) := by decide +kernel
theorem dX9_taken_35 : decode cX9_taken 35 = .ok (.aload_n 3, 1) := by decide +kernel
theorem dX9_taken_36 : decode cX9_taken 36 = .ok (.getfield 363, 3) := by decide +kernel
theorem dX9_taken_39 : decode cX9_taken 39 = .ok (.getfield 159, 3) := by decide +kernel
theorem dX9_taken_42 : decode cX9_taken 42 = .ok (.goto 5, 3) := by decide +kernel
theorem dX9_taken_45 : decode cX9_taken 45 = .ok (.bipush (-13), 2) := by decide +kernel
theorem dX9_taken_47 : decode cX9_taken 47 = .ok (.ireturn, 1) := by decide +kernel
theorem dX9_isUpTo_0 : decode cX9_isUpTo 0 = .ok (.iload_n 0, 1) := by decide +kernel
theorem dX9_isUpTo_1 : decode cX9_isUpTo 1 = .ok (.ifCond .lt 12, 3) := by decide +kernel
theorem dX9_isUpTo_4 : decode cX9_isUpTo 4 = .ok (.iload_n 0, 1) := by decide +kernel
theorem dX9_isUpTo_5 : decode cX9_isUpTo 5 = .ok (.iload_n 1, 1) := by decide +kernel
theorem dX9_isUpTo_6 : decode cX9_isUpTo 6 = .ok (.if_icmp .gt 7, 3) := by decide +kernel
theorem dX9_isUpTo_9 : decode cX9_isUpTo 9 = .ok (.iconst 1, 1) := by decide +kernel
theorem dX9_isUpTo_10 : decode cX9_isUpTo 10 = .ok (.goto 4, 3) := by decide +kernel
theorem dX9_isUpTo_13 : decode cX9_isUpTo 13 = .ok (.iconst 0, 1) := by decide +kernel
theorem dX9_isUpTo_14 : decode cX9_isUpTo 14 = .ok (.ireturn, 1) := by decide +kernel
theorem dX9_isBelow_0 : decode cX9_isBelow 0 = .ok (.iload_n 0, 1) := by decide +kernel
theorem dX9_isBelow_1 : decode cX9_isBelow 1 = .ok (.ifCond .lt 12, 3) := by decide +kernel
theorem dX9_isBelow_4 : decode cX9_isBelow 4 = .ok (.iload_n 0, 1) := by decide +kernel
theorem dX9_isBelow_5 : decode cX9_isBelow 5 = .ok (.iload_n 1, 1) := by decide +kernel
theorem dX9_isBelow_6 : decode cX9_isBelow 6 = .ok (.if_icmp .ge 7, 3) := by decide +kernel
theorem dX9_isBelow_9 : decode cX9_isBelow 9 = .ok (.iconst 1, 1) := by decide +kernel
theorem dX9_isBelow_10 : decode cX9_isBelow 10 = .ok (.goto 4, 3) := by decide +kernel
theorem dX9_isBelow_13 : decode cX9_isBelow 13 = .ok (.iconst 0, 1) := by decide +kernel
theorem dX9_isBelow_14 : decode cX9_isBelow 14 = .ok (.ireturn, 1) := by decide +kernel
theorem dX9_areParts_0 : decode cX9_areParts 0 = .ok (.iload_n 0, 1) := by decide +kernel
theorem dX9_areParts_1 : decode cX9_areParts 1 = .ok (.sipush 333, 3) := by decide +kernel
theorem dX9_areParts_4 : decode cX9_areParts 4 = .ok (.invokestatic 106, 3) := by decide +kernel
theorem dX9_areParts_7 : decode cX9_areParts 7 = .ok (.ifCond .eq 26, 3) := by decide +kernel
theorem dX9_areParts_10 : decode cX9_areParts 10 = .ok (.iload_n 0, 1) := by decide +kernel
theorem dX9_areParts_11 : decode cX9_areParts 11 = .ok (.bipush 10, 2) := by decide +kernel
theorem dX9_areParts_13 : decode cX9_areParts 13 = .ok (.idiv, 1) := by decide +kernel
theorem dX9_areParts_14 : decode cX9_areParts 14 = .ok (.bipush 10, 2) := by decide +kernel
theorem dX9_areParts_16 : decode cX9_areParts 16 = .ok (.irem, 1) := by decide +kernel
theorem dX9_areParts_17 : decode cX9_areParts 17 = .ok (.iconst 4, 1) := by decide +kernel
theorem dX9_areParts_18 : decode cX9_areParts 18 = .ok (.if_icmp .ge 15, 3) := by decide +kernel
theorem dX9_areParts_21 : decode cX9_areParts 21 = .ok (.iload_n 0, 1) := by decide +kernel
theorem dX9_areParts_22 : decode cX9_areParts 22 = .ok (.bipush 10, 2) := by decide +kernel
theorem dX9_areParts_24 : decode cX9_areParts 24 = .ok (.irem, 1) := by decide +kernel
theorem dX9_areParts_25 : decode cX9_areParts 25 = .ok (.iconst 4, 1) := by decide +kernel
theorem dX9_areParts_26 : decode cX9_areParts 26 = .ok (.if_icmp .ge 7, 3) := by decide +kernel
theorem dX9_areParts_29 : decode cX9_areParts 29 = .ok (.iconst 1, 1) := by decide +kernel
theorem dX9_areParts_30 : decode cX9_areParts 30 = .ok (.goto 4, 3) := by decide +kernel
theorem dX9_areParts_33 : decode cX9_areParts 33 = .ok (.iconst 0, 1) := by decide +kernel
theorem dX9_areParts_34 : decode cX9_areParts 34 = .ok (.ireturn, 1) := by decide +kernel
theorem dX9_partOf_0 : decode cX9_partOf 0 = .ok (.iload_n 1, 1) := by decide +kernel
theorem dX9_partOf_1 : decode cX9_partOf 1 = .ok (.ifCond .ne 10, 3) := by decide +kernel
theorem dX9_partOf_4 : decode cX9_partOf 4 = .ok (.iload_n 0, 1) := by decide +kernel
theorem dX9_partOf_5 : decode cX9_partOf 5 = .ok (.bipush 100, 2) := by decide +kernel
theorem dX9_partOf_7 : decode cX9_partOf 7 = .ok (.idiv, 1) := by decide +kernel
theorem dX9_partOf_8 : decode cX9_partOf 8 = .ok (.goto 22, 3) := by decide +kernel
theorem dX9_partOf_11 : decode cX9_partOf 11 = .ok (.iload_n 1, 1) := by decide +kernel
theorem dX9_partOf_12 : decode cX9_partOf 12 = .ok (.iconst 1, 1) := by decide +kernel
theorem dX9_partOf_13 : decode cX9_partOf 13 = .ok (.if_icmp .ne 13, 3) := by decide +kernel
theorem dX9_partOf_16 : decode cX9_partOf 16 = .ok (.iload_n 0, 1) := by decide +kernel
theorem dX9_partOf_17 : decode cX9_partOf 17 = .ok (.bipush 10, 2) := by decide +kernel
theorem dX9_partOf_19 : decode cX9_partOf 19 = .ok (.idiv, 1) := by decide +kernel
theorem dX9_partOf_20 : decode cX9_partOf 20 = .ok (.bipush 10, 2) := by decide +kernel
theorem dX9_partOf_22 : decode cX9_partOf 22 = .ok (.irem, 1) := by decide +kernel
theorem dX9_partOf_23 : decode cX9_partOf 23 = .ok (.goto 7, 3) := by decide +kernel
theorem dX9_partOf_26 : decode cX9_partOf 26 = .ok (.iload_n 0, 1) := by decide +kernel
theorem dX9_partOf_27 : decode cX9_partOf 27 = .ok (.bipush 10, 2) := by decide +kernel
theorem dX9_partOf_29 : decode cX9_partOf 29 = .ok (.irem, 1) := by decide +kernel
theorem dX9_partOf_30 : decode cX9_partOf 30 = .ok (.ireturn, 1) := by decide +kernel
theorem dX9_weightOf_0 : decode cX9_weightOf 0 = .ok (.iload_n 0, 1) := by decide +kernel
theorem dX9_weightOf_1 : decode cX9_weightOf 1 = .ok (.iconst 5, 1) := by decide +kernel
theorem dX9_weightOf_2 : decode cX9_weightOf 2 = .ok (.invokestatic 106, 3) := by decide +kernel
theorem dX9_weightOf_5 : decode cX9_weightOf 5 = .ok (.ifCond .eq 11, 3) := by decide +kernel
theorem dX9_weightOf_8 : decode cX9_weightOf 8 = .ok (.getstatic 366, 3) := by decide +kernel
theorem dX9_weightOf_11 : decode cX9_weightOf 11 = .ok (.iload_n 0, 1) := by decide +kernel
theorem dX9_weightOf_12 : decode cX9_weightOf 12 = .ok (.iaload, 1) := by decide +kernel
theorem dX9_weightOf_13 : decode cX9_weightOf 13 = .ok (.goto 4, 3) := by decide +kernel
theorem dX9_weightOf_16 : decode cX9_weightOf 16 = .ok (.iconst 0, 1) := by decide +kernel
theorem dX9_weightOf_17 : decode cX9_weightOf 17 = .ok (.ireturn, 1) := by decide +kernel
theorem dX9_isOfKind_0 : decode cX9_isOfKind 0 = .ok (.iload_n 0, 1) := by decide +kernel
theorem dX9_isOfKind_1 : decode cX9_isOfKind 1 = .ok (.istore_n 2, 1) := by decide +kernel
theorem dX9_isOfKind_2 : decode cX9_isOfKind 2 = .ok (.iconst 0, 1) := by decide +kernel
theorem dX9_isOfKind_3 : decode cX9_isOfKind 3 = .ok (.istore_n 3, 1) := by decide +kernel
theorem dX9_isOfKind_4 : decode cX9_isOfKind 4 = .ok (.iload_n 3, 1) := by decide +kernel
theorem dX9_isOfKind_5 : decode cX9_isOfKind 5 = .ok (.iconst 5, 1) := by decide +kernel
theorem dX9_isOfKind_6 : decode cX9_isOfKind 6 = .ok (.if_icmp .gt 28, 3) := by decide +kernel
theorem dX9_isOfKind_9 : decode cX9_isOfKind 9 = .ok (.iload_n 2, 1) := by decide +kernel
theorem dX9_isOfKind_10 : decode cX9_isOfKind 10 = .ok (.iconst 5, 1) := by decide +kernel
theorem dX9_isOfKind_11 : decode cX9_isOfKind 11 = .ok (.invokestatic 106, 3) := by decide +kernel
theorem dX9_isOfKind_14 : decode cX9_isOfKind 14 = .ok (.ifCond .eq 20, 3) := by decide +kernel
theorem dX9_isOfKind_17 : decode cX9_isOfKind 17 = .ok (.iload_n 2, 1) := by decide +kernel
theorem dX9_isOfKind_18 : decode cX9_isOfKind 18 = .ok (.iload_n 1, 1) := by decide +kernel
theorem dX9_isOfKind_19 : decode cX9_isOfKind 19 = .ok (.if_icmp .eq 15, 3) := by decide +kernel
theorem dX9_isOfKind_22 : decode cX9_isOfKind 22 = .ok (.getstatic 369, 3) := by decide +kernel
theorem dX9_isOfKind_25 : decode cX9_isOfKind 25 = .ok (.iload_n 2, 1) := by decide +kernel
theorem dX9_isOfKind_26 : decode cX9_isOfKind 26 = .ok (.iaload, 1) := by decide +kernel
theorem dX9_isOfKind_27 : decode cX9_isOfKind 27 = .ok (.istore_n 2, 1) := by decide +kernel
theorem dX9_isOfKind_28 : decode cX9_isOfKind 28 = .ok (.iinc 3 1, 3) := by decide +kernel
theorem dX9_isOfKind_31 : decode cX9_isOfKind 31 = .ok (.goto (-27), 3) := by decide +kernel
theorem dX9_isOfKind_34 : decode cX9_isOfKind 34 = .ok (.iload_n 2, 1) := by decide +kernel
theorem dX9_isOfKind_35 : decode cX9_isOfKind 35 = .ok (.iload_n 1, 1) := by decide +kernel
theorem dX9_isOfKind_36 : decode cX9_isOfKind 36 = .ok (.if_icmp .ne 7, 3) := by decide +kernel
theorem dX9_isOfKind_39 : decode cX9_isOfKind 39 = .ok (.iconst 1, 1) := by decide +kernel
theorem dX9_isOfKind_40 : decode cX9_isOfKind 40 = .ok (.goto 4, 3) := by decide +kernel
theorem dX9_isOfKind_43 : decode cX9_isOfKind 43 = .ok (.iconst 0, 1) := by decide +kernel
theorem dX9_isOfKind_44 : decode cX9_isOfKind 44 = .ok (.ireturn, 1) := by decide +kernel
theorem dX9_commonDivisor_0 : decode cX9_commonDivisor 0 = .ok (.iload_n 0, 1) := by decide +kernel
theorem dX9_commonDivisor_1 : decode cX9_commonDivisor 1 = .ok (.istore_n 2, 1) := by decide +kernel
theorem dX9_commonDivisor_2 : decode cX9_commonDivisor 2 = .ok (.iload_n 1, 1) := by decide +kernel
theorem dX9_commonDivisor_3 : decode cX9_commonDivisor 3 = .ok (.istore_n 3, 1) := by decide +kernel
theorem dX9_commonDivisor_4 : decode cX9_commonDivisor 4 = .ok (.iconst 0, 1) := by decide +kernel
theorem dX9_commonDivisor_5 : decode cX9_commonDivisor 5 = .ok (.istore 4, 2) := by decide +kernel
theorem dX9_commonDivisor_7 : decode cX9_commonDivisor 7 = .ok (.iload 4, 2) := by decide +kernel
theorem dX9_commonDivisor_9 : decode cX9_commonDivisor 9 = .ok (.bipush 100, 2) := by decide +kernel
theorem dX9_commonDivisor_11 : decode cX9_commonDivisor 11 = .ok (.if_icmp .ge 23, 3) := by decide +kernel
theorem dX9_commonDivisor_14 : decode cX9_commonDivisor 14 = .ok (.iload_n 3, 1) := by decide +kernel
theorem dX9_commonDivisor_15 : decode cX9_commonDivisor 15 = .ok (.ifCond .eq 19, 3) := by decide +kernel
theorem dX9_commonDivisor_18 : decode cX9_commonDivisor 18 = .ok (.iload_n 2, 1) := by decide +kernel
theorem dX9_commonDivisor_19 : decode cX9_commonDivisor 19 = .ok (.iload_n 3, 1) := by decide +kernel
theorem dX9_commonDivisor_20 : decode cX9_commonDivisor 20 = .ok (.irem, 1) := by decide +kernel
theorem dX9_commonDivisor_21 : decode cX9_commonDivisor 21 = .ok (.istore 5, 2) := by decide +kernel
theorem dX9_commonDivisor_23 : decode cX9_commonDivisor 23 = .ok (.iload_n 3, 1) := by decide +kernel
theorem dX9_commonDivisor_24 : decode cX9_commonDivisor 24 = .ok (.istore_n 2, 1) := by decide +kernel
theorem dX9_commonDivisor_25 : decode cX9_commonDivisor 25 = .ok (.iload 5, 2) := by decide +kernel
theorem dX9_commonDivisor_27 : decode cX9_commonDivisor 27 = .ok (.istore_n 3, 1) := by decide +kernel
theorem dX9_commonDivisor_28 : decode cX9_commonDivisor 28 = .ok (.iinc 4 1, 3) := by decide +kernel
theorem dX9_commonDivisor_31 : decode cX9_commonDivisor 31 = .ok (.goto (-24), 3) := by decide +kernel
theorem dX9_commonDivisor_34 : decode cX9_commonDivisor 34 = .ok (.iload_n 2, 1) := by decide +kernel
theorem dX9_commonDivisor_35 : decode cX9_commonDivisor 35 = .ok (.ireturn, 1) := by decide +kernel
theorem dX9_wineAt_0 : decode cX9_wineAt 0 = .ok (.iload_n 1, 1) := by decide +kernel
theorem dX9_wineAt_1 : decode cX9_wineAt 1 = .ok (.aload_n 0, 1) := by decide +kernel
theorem dX9_wineAt_2 : decode cX9_wineAt 2 = .ok (.getfield 115, 3) := by decide +kernel
theorem dX9_wineAt_5 : decode cX9_wineAt 5 = .ok (.invokestatic 136, 3) := by decide +kernel
theorem dX9_wineAt_8 : decode cX9_wineAt 8 = .ok (.ifCond .eq 18, 3) := by decide +kernel
theorem dX9_wineAt_11 : decode cX9_wineAt 11 = .ok (.iload_n 1, 1) := by decide +kernel
theorem dX9_wineAt_12 : decode cX9_wineAt 12 = .ok (.bipush 8, 2) := by decide +kernel
theorem dX9_wineAt_14 : decode cX9_wineAt 14 = .ok (.if_icmp .ge 12, 3) := by decide +kernel
theorem dX9_wineAt_17 : decode cX9_wineAt 17 = .ok (.aload_n 0, 1) := by decide +kernel
theorem dX9_wineAt_18 : decode cX9_wineAt 18 = .ok (.getfield 11, 3) := by decide +kernel
theorem dX9_wineAt_21 : decode cX9_wineAt 21 = .ok (.iload_n 1, 1) := by decide +kernel
theorem dX9_wineAt_22 : decode cX9_wineAt 22 = .ok (.aaload, 1) := by decide +kernel
theorem dX9_wineAt_23 : decode cX9_wineAt 23 = .ok (.goto 4, 3) := by decide +kernel
theorem dX9_wineAt_26 : decode cX9_wineAt 26 = .ok (.aconst_null, 1) := by decide +kernel
theorem dX9_wineAt_27 : decode cX9_wineAt 27 = .ok (.areturn, 1) := by decide +kernel
theorem dX9_bottleAt_0 : decode cX9_bottleAt 0 = .ok (.iload_n 1, 1) := by decide +kernel
theorem dX9_bottleAt_1 : decode cX9_bottleAt 1 = .ok (.aload_n 0, 1) := by decide +kernel
theorem dX9_bottleAt_2 : decode cX9_bottleAt 2 = .ok (.getfield 142, 3) := by decide +kernel
theorem dX9_bottleAt_5 : decode cX9_bottleAt 5 = .ok (.invokestatic 136, 3) := by decide +kernel
theorem dX9_bottleAt_8 : decode cX9_bottleAt 8 = .ok (.ifCond .eq 18, 3) := by decide +kernel
theorem dX9_bottleAt_11 : decode cX9_bottleAt 11 = .ok (.iload_n 1, 1) := by decide +kernel
theorem dX9_bottleAt_12 : decode cX9_bottleAt 12 = .ok (.bipush 24, 2) := by decide +kernel
theorem dX9_bottleAt_14 : decode cX9_bottleAt 14 = .ok (.if_icmp .ge 12, 3) := by decide +kernel
theorem dX9_bottleAt_17 : decode cX9_bottleAt 17 = .ok (.aload_n 0, 1) := by decide +kernel
theorem dX9_bottleAt_18 : decode cX9_bottleAt 18 = .ok (.getfield 17, 3) := by decide +kernel
theorem dX9_bottleAt_21 : decode cX9_bottleAt 21 = .ok (.iload_n 1, 1) := by decide +kernel
theorem dX9_bottleAt_22 : decode cX9_bottleAt 22 = .ok (.aaload, 1) := by decide +kernel
theorem dX9_bottleAt_23 : decode cX9_bottleAt 23 = .ok (.goto 4, 3) := by decide +kernel
theorem dX9_bottleAt_26 : decode cX9_bottleAt 26 = .ok (.aconst_null, 1) := by decide +kernel
theorem dX9_bottleAt_27 : decode cX9_bottleAt 27 = .ok (.areturn, 1) := by decide +kernel
theorem dX9_tongueAt_0 : decode cX9_tongueAt 0 = .ok (.iload_n 1, 1) := by decide +kernel
theorem dX9_tongueAt_1 : decode cX9_tongueAt 1 = .ok (.bipush 6, 2) := by decide +kernel
theorem dX9_tongueAt_3 : decode cX9_tongueAt 3 = .ok (.invokestatic 136, 3) := by decide +kernel
theorem dX9_tongueAt_6 : decode cX9_tongueAt 6 = .ok (.ifCond .eq 12, 3) := by decide +kernel
theorem dX9_tongueAt_9 : decode cX9_tongueAt 9 = .ok (.aload_n 0, 1) := by decide +kernel
theorem dX9_tongueAt_10 : decode cX9_tongueAt 10 = .ok (.getfield 50, 3) := by decide +kernel
theorem dX9_tongueAt_13 : decode cX9_tongueAt 13 = .ok (.iload_n 1, 1) := by decide +kernel
theorem dX9_tongueAt_14 : decode cX9_tongueAt 14 = .ok (.aaload, 1) := by decide +kernel
theorem dX9_tongueAt_15 : decode cX9_tongueAt 15 = .ok (.goto 4, 3) := by decide +kernel
theorem dX9_tongueAt_18 : decode cX9_tongueAt 18 = .ok (.aconst_null, 1) := by decide +kernel
theorem dX9_tongueAt_19 : decode cX9_tongueAt 19 = .ok (.areturn, 1) := by decide +kernel
theorem dX9_sheetAt_0 : decode cX9_sheetAt 0 = .ok (.iload_n 1, 1) := by decide +kernel
theorem dX9_sheetAt_1 : decode cX9_sheetAt 1 = .ok (.iconst 4, 1) := by decide +kernel
theorem dX9_sheetAt_2 : decode cX9_sheetAt 2 = .ok (.invokestatic 136, 3) := by decide +kernel
theorem dX9_sheetAt_5 : decode cX9_sheetAt 5 = .ok (.ifCond .eq 12, 3) := by decide +kernel
theorem dX9_sheetAt_8 : decode cX9_sheetAt 8 = .ok (.aload_n 0, 1) := by decide +kernel
theorem dX9_sheetAt_9 : decode cX9_sheetAt 9 = .ok (.getfield 56, 3) := by decide +kernel
theorem dX9_sheetAt_12 : decode cX9_sheetAt 12 = .ok (.iload_n 1, 1) := by decide +kernel
theorem dX9_sheetAt_13 : decode cX9_sheetAt 13 = .ok (.aaload, 1) := by decide +kernel
theorem dX9_sheetAt_14 : decode cX9_sheetAt 14 = .ok (.goto 4, 3) := by decide +kernel
theorem dX9_sheetAt_17 : decode cX9_sheetAt 17 = .ok (.aconst_null, 1) := by decide +kernel
theorem dX9_sheetAt_18 : decode cX9_sheetAt 18 = .ok (.areturn, 1) := by decide +kernel
theorem dX9_barBits_0 : decode cX9_barBits 0 = .ok (.iconst 0, 1) := by decide +kernel
theorem dX9_barBits_1 : decode cX9_barBits 1 = .ok (.istore_n 2, 1) := by decide +kernel
theorem dX9_barBits_2 : decode cX9_barBits 2 = .ok (.iconst 0, 1) := by decide +kernel
theorem dX9_barBits_3 : decode cX9_barBits 3 = .ok (.istore_n 3, 1) := by decide +kernel
theorem dX9_barBits_4 : decode cX9_barBits 4 = .ok (.iload_n 3, 1) := by decide +kernel
theorem dX9_barBits_5 : decode cX9_barBits 5 = .ok (.iconst 3, 1) := by decide +kernel
theorem dX9_barBits_6 : decode cX9_barBits 6 = .ok (.if_icmp .ge 27, 3) := by decide +kernel
theorem dX9_barBits_9 : decode cX9_barBits 9 = .ok (.aload_n 0, 1) := by decide +kernel
theorem dX9_barBits_10 : decode cX9_barBits 10 = .ok (.getfield 30, 3) := by decide +kernel
theorem dX9_barBits_13 : decode cX9_barBits 13 = .ok (.aload_n 1, 1) := by decide +kernel
theorem dX9_barBits_14 : decode cX9_barBits 14 = .ok (.iload_n 3, 1) := by decide +kernel
theorem dX9_barBits_15 : decode cX9_barBits 15 = .ok (.invokevirtual 303, 3) := by decide +kernel
theorem dX9_barBits_18 : decode cX9_barBits 18 = .ok (.ifCond .eq 9, 3) := by decide +kernel
theorem dX9_barBits_21 : decode cX9_barBits 21 = .ok (.iload_n 2, 1) := by decide +kernel
theorem dX9_barBits_22 : decode cX9_barBits 22 = .ok (.iconst 1, 1) := by decide +kernel
theorem dX9_barBits_23 : decode cX9_barBits 23 = .ok (.iload_n 3, 1) := by decide +kernel
theorem dX9_barBits_24 : decode cX9_barBits 24 = .ok (.ishl, 1) := by decide +kernel
theorem dX9_barBits_25 : decode cX9_barBits 25 = .ok (.ior, 1) := by decide +kernel
theorem dX9_barBits_26 : decode cX9_barBits 26 = .ok (.istore_n 2, 1) := by decide +kernel
theorem dX9_barBits_27 : decode cX9_barBits 27 = .ok (.iinc 3 1, 3) := by decide +kernel
theorem dX9_barBits_30 : decode cX9_barBits 30 = .ok (.goto (-26), 3) := by decide +kernel
theorem dX9_barBits_33 : decode cX9_barBits 33 = .ok (.iload_n 2, 1) := by decide +kernel
theorem dX9_barBits_34 : decode cX9_barBits 34 = .ok (.ireturn, 1) := by decide +kernel
theorem dX9_oddBits_0 : decode cX9_oddBits 0 = .ok (.iconst 0, 1) := by decide +kernel
theorem dX9_oddBits_1 : decode cX9_oddBits 1 = .ok (.istore_n 2, 1) := by decide +kernel
theorem dX9_oddBits_2 : decode cX9_oddBits 2 = .ok (.iconst 0, 1) := by decide +kernel
theorem dX9_oddBits_3 : decode cX9_oddBits 3 = .ok (.istore_n 3, 1) := by decide +kernel
theorem dX9_oddBits_4 : decode cX9_oddBits 4 = .ok (.iload_n 3, 1) := by decide +kernel
theorem dX9_oddBits_5 : decode cX9_oddBits 5 = .ok (.iconst 3, 1) := by decide +kernel
theorem dX9_oddBits_6 : decode cX9_oddBits 6 = .ok (.if_icmp .ge 49, 3) := by decide +kernel
theorem dX9_oddBits_9 : decode cX9_oddBits 9 = .ok (.aload_n 1, 1) := by decide +kernel
theorem dX9_oddBits_10 : decode cX9_oddBits 10 = .ok (.getfield 187, 3) := by decide +kernel
theorem dX9_oddBits_13 : decode cX9_oddBits 13 = .ok (.iload_n 3, 1) := by decide +kernel
theorem dX9_oddBits_14 : decode cX9_oddBits 14 = .ok (.invokestatic 190, 3) := by decide +kernel
theorem dX9_oddBits_17 : decode cX9_oddBits 17 = .ok (.aload_n 1, 1) := by decide +kernel
theorem dX9_oddBits_18 : decode cX9_oddBits 18 = .ok (.getfield 155, 3) := by decide +kernel
theorem dX9_oddBits_21 : decode cX9_oddBits 21 = .ok (.getfield 372, 3) := by decide +kernel
theorem dX9_oddBits_24 : decode cX9_oddBits 24 = .ok (.iload_n 3, 1) := by decide +kernel
theorem dX9_oddBits_25 : decode cX9_oddBits 25 = .ok (.invokestatic 190, 3) := by decide +kernel
theorem dX9_oddBits_28 : decode cX9_oddBits 28 = .ok (.if_icmp .eq 21, 3) := by decide +kernel
theorem dX9_oddBits_31 : decode cX9_oddBits 31 = .ok (.aload_n 0, 1) := by decide +kernel
theorem dX9_oddBits_32 : decode cX9_oddBits 32 = .ok (.getfield 30, 3) := by decide +kernel
theorem dX9_oddBits_35 : decode cX9_oddBits 35 = .ok (.aload_n 1, 1) := by decide +kernel
theorem dX9_oddBits_36 : decode cX9_oddBits 36 = .ok (.iload_n 3, 1) := by decide +kernel
theorem dX9_oddBits_37 : decode cX9_oddBits 37 = .ok (.invokevirtual 303, 3) := by decide +kernel
theorem dX9_oddBits_40 : decode cX9_oddBits 40 = .ok (.ifCond .ne 9, 3) := by decide +kernel
theorem dX9_oddBits_43 : decode cX9_oddBits 43 = .ok (.iload_n 2, 1) := by decide +kernel
theorem dX9_oddBits_44 : decode cX9_oddBits 44 = .ok (.iconst 1, 1) := by decide +kernel
theorem dX9_oddBits_45 : decode cX9_oddBits 45 = .ok (.iload_n 3, 1) := by decide +kernel
theorem dX9_oddBits_46 : decode cX9_oddBits 46 = .ok (.ishl, 1) := by decide +kernel
theorem dX9_oddBits_47 : decode cX9_oddBits 47 = .ok (.ior, 1) := by decide +kernel
theorem dX9_oddBits_48 : decode cX9_oddBits 48 = .ok (.istore_n 2, 1) := by decide +kernel
theorem dX9_oddBits_49 : decode cX9_oddBits 49 = .ok (.iinc 3 1, 3) := by decide +kernel
theorem dX9_oddBits_52 : decode cX9_oddBits 52 = .ok (.goto (-48), 3) := by decide +kernel
theorem dX9_oddBits_55 : decode cX9_oddBits 55 = .ok (.iload_n 2, 1) := by decide +kernel
theorem dX9_oddBits_56 : decode cX9_oddBits 56 = .ok (.ireturn, 1) := by decide +kernel
theorem dX9_isBarred_0 : decode cX9_isBarred 0 = .ok (.aload_n 1, 1) := by decide +kernel
theorem dX9_isBarred_1 : decode cX9_isBarred 1 = .ok (.ifnull 25, 3) := by decide +kernel
theorem dX9_isBarred_4 : decode cX9_isBarred 4 = .ok (.aload_n 1, 1) := by decide +kernel
theorem dX9_isBarred_5 : decode cX9_isBarred 5 = .ok (.getfield 155, 3) := by decide +kernel
theorem dX9_isBarred_8 : decode cX9_isBarred 8 = .ok (.getfield 375, 3) := by decide +kernel
theorem dX9_isBarred_11 : decode cX9_isBarred 11 = .ok (.ifCond .eq 11, 3) := by decide +kernel
theorem dX9_isBarred_14 : decode cX9_isBarred 14 = .ok (.aload_n 0, 1) := by decide +kernel
theorem dX9_isBarred_15 : decode cX9_isBarred 15 = .ok (.aload_n 1, 1) := by decide +kernel
theorem dX9_isBarred_16 : decode cX9_isBarred 16 = .ok (.invokevirtual 162, 3) := by decide +kernel
theorem dX9_isBarred_19 : decode cX9_isBarred 19 = .ok (.ifCond .eq 7, 3) := by decide +kernel
theorem dX9_isBarred_22 : decode cX9_isBarred 22 = .ok (.iconst 1, 1) := by decide +kernel
theorem dX9_isBarred_23 : decode cX9_isBarred 23 = .ok (.goto 4, 3) := by decide +kernel
theorem dX9_isBarred_26 : decode cX9_isBarred 26 = .ok (.iconst 0, 1) := by decide +kernel
theorem dX9_isBarred_27 : decode cX9_isBarred 27 = .ok (.ireturn, 1) := by decide +kernel
theorem dX9_barredBottles_0 : decode cX9_barredBottles 0 = .ok (.iconst 0, 1) := by decide +kernel
theorem dX9_barredBottles_1 : decode cX9_barredBottles 1 = .ok (.istore_n 1, 1) := by decide +kernel
theorem dX9_barredBottles_2 : decode cX9_barredBottles 2 = .ok (.iconst 0, 1) := by decide +kernel
theorem dX9_barredBottles_3 : decode cX9_barredBottles 3 = .ok (.istore_n 2, 1) := by decide +kernel
theorem dX9_barredBottles_4 : decode cX9_barredBottles 4 = .ok (.iload_n 2, 1) := by decide +kernel
theorem dX9_barredBottles_5 : decode cX9_barredBottles 5 = .ok (.aload_n 0, 1) := by decide +kernel
theorem dX9_barredBottles_6 : decode cX9_barredBottles 6 = .ok (.getfield 142, 3) := by decide +kernel
theorem dX9_barredBottles_9 : decode cX9_barredBottles 9 = .ok (.if_icmp .ge 25, 3) := by decide +kernel
theorem dX9_barredBottles_12 : decode cX9_barredBottles 12 = .ok (.aload_n 0, 1) := by decide +kernel
theorem dX9_barredBottles_13 : decode cX9_barredBottles 13 = .ok (.aload_n 0, 1) := by decide +kernel
theorem dX9_barredBottles_14 : decode cX9_barredBottles 14 = .ok (.getfield 17, 3) := by decide +kernel
theorem dX9_barredBottles_17 : decode cX9_barredBottles 17 = .ok (.iload_n 2, 1) := by decide +kernel
theorem dX9_barredBottles_18 : decode cX9_barredBottles 18 = .ok (.aaload, 1) := by decide +kernel
theorem dX9_barredBottles_19 : decode cX9_barredBottles 19 = .ok (.invokevirtual 169, 3) := by decide +kernel
theorem dX9_barredBottles_22 : decode cX9_barredBottles 22 = .ok (.ifCond .eq 6, 3) := by decide +kernel
theorem dX9_barredBottles_25 : decode cX9_barredBottles 25 = .ok (.iinc 1 1, 3) := by decide +kernel
theorem dX9_barredBottles_28 : decode cX9_barredBottles 28 = .ok (.iinc 2 1, 3) := by decide +kernel
theorem dX9_barredBottles_31 : decode cX9_barredBottles 31 = .ok (.goto (-27), 3) := by decide +kernel
theorem dX9_barredBottles_34 : decode cX9_barredBottles 34 = .ok (.iload_n 1, 1) := by decide +kernel
theorem dX9_barredBottles_35 : decode cX9_barredBottles 35 = .ok (.ireturn, 1) := by decide +kernel
theorem dX9_soldBottles_0 : decode cX9_soldBottles 0 = .ok (.iconst 0, 1) := by decide +kernel
theorem dX9_soldBottles_1 : decode cX9_soldBottles 1 = .ok (.istore_n 1, 1) := by decide +kernel
theorem dX9_soldBottles_2 : decode cX9_soldBottles 2 = .ok (.iconst 0, 1) := by decide +kernel
theorem dX9_soldBottles_3 : decode cX9_soldBottles 3 = .ok (.istore_n 2, 1) := by decide +kernel
theorem dX9_soldBottles_4 : decode cX9_soldBottles 4 = .ok (.iload_n 2, 1) := by decide +kernel
theorem dX9_soldBottles_5 : decode cX9_soldBottles 5 = .ok (.aload_n 0, 1) := by decide +kernel
theorem dX9_soldBottles_6 : decode cX9_soldBottles 6 = .ok (.getfield 142, 3) := by decide +kernel
theorem dX9_soldBottles_9 : decode cX9_soldBottles 9 = .ok (.if_icmp .ge 30, 3) := by decide +kernel
theorem dX9_soldBottles_12 : decode cX9_soldBottles 12 = .ok (.aload_n 0, 1) := by decide +kernel
theorem dX9_soldBottles_13 : decode cX9_soldBottles 13 = .ok (.getfield 17, 3) := by decide +kernel
theorem dX9_soldBottles_16 : decode cX9_soldBottles 16 = .ok (.iload_n 2, 1) := by decide +kernel
theorem dX9_soldBottles_17 : decode cX9_soldBottles 17 = .ok (.aaload, 1) := by decide +kernel
theorem dX9_soldBottles_18 : decode cX9_soldBottles 18 = .ok (.astore_n 3, 1) := by decide +kernel
theorem dX9_soldBottles_19 : decode cX9_soldBottles 19 = .ok (.aload_n 3, 1) := by decide +kernel
theorem dX9_soldBottles_20 : decode cX9_soldBottles 20 = .ok (.ifnull 13, 3) := by decide +kernel
theorem dX9_soldBottles_23 : decode cX9_soldBottles 23 = .ok (.aload_n 3, 1) := by decide +kernel
theorem dX9_soldBottles_24 : decode cX9_soldBottles 24 = .ok (.getfield 378, 3) := by decide +kernel
theorem dX9_soldBottles_27 : decode cX9_soldBottles 27 = .ok (.ifCond .le 6, 3) := by decide +kernel
theorem dX9_soldBottles_30 : decode cX9_soldBottles 30 = .ok (.iinc 1 1, 3) := by decide +kernel
theorem dX9_soldBottles_33 : decode cX9_soldBottles 33 = .ok (.iinc 2 1, 3) := by decide +kernel
theorem dX9_soldBottles_36 : decode cX9_soldBottles 36 = .ok (.goto (-32), 3) := by decide +kernel
theorem dX9_soldBottles_39 : decode cX9_soldBottles 39 = .ok (.iload_n 1, 1) := by decide +kernel
theorem dX9_soldBottles_40 : decode cX9_soldBottles 40 = .ok (.ireturn, 1) := by decide +kernel
theorem dX9_soldOf_0 : decode cX9_soldOf 0 = .ok (.iconst 0, 1) := by decide +kernel
theorem dX9_soldOf_1 : decode cX9_soldOf 1 = .ok (.istore_n 2, 1) := by decide +kernel
theorem dX9_soldOf_2 : decode cX9_soldOf 2 = .ok (.iconst 0, 1) := by decide +kernel
theorem dX9_soldOf_3 : decode cX9_soldOf 3 = .ok (.istore_n 3, 1) := by decide +kernel
theorem dX9_soldOf_4 : decode cX9_soldOf 4 = .ok (.iload_n 3, 1) := by decide +kernel
theorem dX9_soldOf_5 : decode cX9_soldOf 5 = .ok (.aload_n 0, 1) := by decide +kernel
theorem dX9_soldOf_6 : decode cX9_soldOf 6 = .ok (.getfield 142, 3) := by decide +kernel
theorem dX9_soldOf_9 : decode cX9_soldOf 9 = .ok (.if_icmp .ge 45, 3) := by decide +kernel
theorem dX9_soldOf_12 : decode cX9_soldOf 12 = .ok (.aload_n 0, 1) := by decide +kernel
theorem dX9_soldOf_13 : decode cX9_soldOf 13 = .ok (.getfield 17, 3) := by decide +kernel
theorem dX9_soldOf_16 : decode cX9_soldOf 16 = .ok (.iload_n 3, 1) := by decide +kernel
theorem dX9_soldOf_17 : decode cX9_soldOf 17 = .ok (.aaload, 1) := by decide +kernel
theorem dX9_soldOf_18 : decode cX9_soldOf 18 = .ok (.astore 4, 2) := by decide +kernel
theorem dX9_soldOf_20 : decode cX9_soldOf 20 = .ok (.aload 4, 2) := by decide +kernel
theorem dX9_soldOf_22 : decode cX9_soldOf 22 = .ok (.ifnull 26, 3) := by decide +kernel
theorem dX9_soldOf_25 : decode cX9_soldOf 25 = .ok (.aload 4, 2) := by decide +kernel
theorem dX9_soldOf_27 : decode cX9_soldOf 27 = .ok (.getfield 155, 3) := by decide +kernel
theorem dX9_soldOf_30 : decode cX9_soldOf 30 = .ok (.getfield 159, 3) := by decide +kernel
theorem dX9_soldOf_33 : decode cX9_soldOf 33 = .ok (.iload_n 1, 1) := by decide +kernel
theorem dX9_soldOf_34 : decode cX9_soldOf 34 = .ok (.if_icmp .ne 14, 3) := by decide +kernel
theorem dX9_soldOf_37 : decode cX9_soldOf 37 = .ok (.aload 4, 2) := by decide +kernel
theorem dX9_soldOf_39 : decode cX9_soldOf 39 = .ok (.getfield 378, 3) := by decide +kernel
theorem dX9_soldOf_42 : decode cX9_soldOf 42 = .ok (.ifCond .le 6, 3) := by decide +kernel
theorem dX9_soldOf_45 : decode cX9_soldOf 45 = .ok (.iinc 2 1, 3) := by decide +kernel
theorem dX9_soldOf_48 : decode cX9_soldOf 48 = .ok (.iinc 3 1, 3) := by decide +kernel
theorem dX9_soldOf_51 : decode cX9_soldOf 51 = .ok (.goto (-47), 3) := by decide +kernel
theorem dX9_soldOf_54 : decode cX9_soldOf 54 = .ok (.iload_n 2, 1) := by decide +kernel
theorem dX9_soldOf_55 : decode cX9_soldOf 55 = .ok (.ireturn, 1) := by decide +kernel
theorem dX9_soldBy_0 : decode cX9_soldBy 0 = .ok (.iconst 0, 1) := by decide +kernel
theorem dX9_soldBy_1 : decode cX9_soldBy 1 = .ok (.istore_n 3, 1) := by decide +kernel
theorem dX9_soldBy_2 : decode cX9_soldBy 2 = .ok (.iconst 0, 1) := by decide +kernel
theorem dX9_soldBy_3 : decode cX9_soldBy 3 = .ok (.istore 4, 2) := by decide +kernel
theorem dX9_soldBy_5 : decode cX9_soldBy 5 = .ok (.iload 4, 2) := by decide +kernel
theorem dX9_soldBy_7 : decode cX9_soldBy 7 = .ok (.aload_n 0, 1) := by decide +kernel
theorem dX9_soldBy_8 : decode cX9_soldBy 8 = .ok (.getfield 37, 3) := by decide +kernel
theorem dX9_soldBy_11 : decode cX9_soldBy 11 = .ok (.getfield 199, 3) := by decide +kernel
theorem dX9_soldBy_14 : decode cX9_soldBy 14 = .ok (.if_icmp .ge 51, 3) := by decide +kernel
theorem dX9_soldBy_17 : decode cX9_soldBy 17 = .ok (.aload_n 0, 1) := by decide +kernel
theorem dX9_soldBy_18 : decode cX9_soldBy 18 = .ok (.getfield 37, 3) := by decide +kernel
theorem dX9_soldBy_21 : decode cX9_soldBy 21 = .ok (.getfield 280, 3) := by decide +kernel
theorem dX9_soldBy_24 : decode cX9_soldBy 24 = .ok (.iload 4, 2) := by decide +kernel
theorem dX9_soldBy_26 : decode cX9_soldBy 26 = .ok (.iaload, 1) := by decide +kernel
theorem dX9_soldBy_27 : decode cX9_soldBy 27 = .ok (.iload_n 1, 1) := by decide +kernel
theorem dX9_soldBy_28 : decode cX9_soldBy 28 = .ok (.if_icmp .ne 31, 3) := by decide +kernel
theorem dX9_soldBy_31 : decode cX9_soldBy 31 = .ok (.iload_n 2, 1) := by decide +kernel
theorem dX9_soldBy_32 : decode cX9_soldBy 32 = .ok (.ifCond .eq 24, 3) := by decide +kernel
theorem dX9_soldBy_35 : decode cX9_soldBy 35 = .ok (.aload_n 0, 1) := by decide +kernel
theorem dX9_soldBy_36 : decode cX9_soldBy 36 = .ok (.aload_n 0, 1) := by decide +kernel
theorem dX9_soldBy_37 : decode cX9_soldBy 37 = .ok (.aload_n 0, 1) := by decide +kernel
theorem dX9_soldBy_38 : decode cX9_soldBy 38 = .ok (.getfield 37, 3) := by decide +kernel
theorem dX9_soldBy_41 : decode cX9_soldBy 41 = .ok (.getfield 286, 3) := by decide +kernel
theorem dX9_soldBy_44 : decode cX9_soldBy 44 = .ok (.iload 4, 2) := by decide +kernel
theorem dX9_soldBy_46 : decode cX9_soldBy 46 = .ok (.iaload, 1) := by decide +kernel
theorem dX9_soldBy_47 : decode cX9_soldBy 47 = .ok (.invokevirtual 148, 3) := by decide +kernel
theorem dX9_soldBy_50 : decode cX9_soldBy 50 = .ok (.invokevirtual 169, 3) := by decide +kernel
theorem dX9_soldBy_53 : decode cX9_soldBy 53 = .ok (.ifCond .eq 6, 3) := by decide +kernel
theorem dX9_soldBy_56 : decode cX9_soldBy 56 = .ok (.iinc 3 1, 3) := by decide +kernel
theorem dX9_soldBy_59 : decode cX9_soldBy 59 = .ok (.iinc 4 1, 3) := by decide +kernel
theorem dX9_soldBy_62 : decode cX9_soldBy 62 = .ok (.goto (-57), 3) := by decide +kernel
theorem dX9_soldBy_65 : decode cX9_soldBy 65 = .ok (.iload_n 3, 1) := by decide +kernel
theorem dX9_soldBy_66 : decode cX9_soldBy 66 = .ok (.ireturn, 1) := by decide +kernel
theorem dX9_judged_0 : decode cX9_judged 0 = .ok (.aload_n 0, 1) := by decide +kernel
theorem dX9_judged_1 : decode cX9_judged 1 = .ok (.getfield 213, 3) := by decide +kernel
theorem dX9_judged_4 : decode cX9_judged 4 = .ok (.aload_n 0, 1) := by decide +kernel
theorem dX9_judged_5 : decode cX9_judged 5 = .ok (.getfield 102, 3) := by decide +kernel
theorem dX9_judged_8 : decode cX9_judged 8 = .ok (.invokestatic 136, 3) := by decide +kernel
theorem dX9_judged_11 : decode cX9_judged 11 = .ok (.ifCond .eq 24, 3) := by decide +kernel
theorem dX9_judged_14 : decode cX9_judged 14 = .ok (.aload_n 0, 1) := by decide +kernel
theorem dX9_judged_15 : decode cX9_judged 15 = .ok (.getfield 213, 3) := by decide +kernel
theorem dX9_judged_18 : decode cX9_judged 18 = .ok (.bipush 6, 2) := by decide +kernel
theorem dX9_judged_20 : decode cX9_judged 20 = .ok (.if_icmp .ge 15, 3) := by decide +kernel
theorem dX9_judged_23 : decode cX9_judged 23 = .ok (.aload_n 0, 1) := by decide +kernel
theorem dX9_judged_24 : decode cX9_judged 24 = .ok (.getfield 23, 3) := by decide +kernel
theorem dX9_judged_27 : decode cX9_judged 27 = .ok (.aload_n 0, 1) := by decide +kernel
theorem dX9_judged_28 : decode cX9_judged 28 = .ok (.getfield 213, 3) := by decide +kernel
theorem dX9_judged_31 : decode cX9_judged 31 = .ok (.aaload, 1) := by decide +kernel
theorem dX9_judged_32 : decode cX9_judged 32 = .ok (.goto 4, 3) := by decide +kernel
theorem dX9_judged_35 : decode cX9_judged 35 = .ok (.aconst_null, 1) := by decide +kernel
theorem dX9_judged_36 : decode cX9_judged 36 = .ok (.astore_n 3, 1) := by decide +kernel
theorem dX9_judged_37 : decode cX9_judged 37 = .ok (.iconst 0, 1) := by decide +kernel
theorem dX9_judged_38 : decode cX9_judged 38 = .ok (.istore 4, 2) := by decide +kernel
theorem dX9_judged_40 : decode cX9_judged 40 = .ok (.aload_n 3, 1) := by decide +kernel
theorem dX9_judged_41 : decode cX9_judged 41 = .ok (.ifnull 23, 3) := by decide +kernel
theorem dX9_judged_44 : decode cX9_judged 44 = .ok (.aload_n 0, 1) := by decide +kernel
theorem dX9_judged_45 : decode cX9_judged 45 = .ok (.aload_n 1, 1) := by decide +kernel
theorem dX9_judged_46 : decode cX9_judged 46 = .ok (.invokevirtual 381, 3) := by decide +kernel
theorem dX9_judged_49 : decode cX9_judged 49 = .ok (.aload_n 3, 1) := by decide +kernel
theorem dX9_judged_50 : decode cX9_judged 50 = .ok (.iload_n 2, 1) := by decide +kernel
theorem dX9_judged_51 : decode cX9_judged 51 = .ok (.aload_n 0, 1) := by decide +kernel
theorem dX9_judged_52 : decode cX9_judged 52 = .ok (.getfield 67, 3) := by decide +kernel
theorem dX9_judged_55 : decode cX9_judged 55 = .ok (.aload_n 0, 1) := by decide +kernel
theorem dX9_judged_56 : decode cX9_judged 56 = .ok (.getfield 71, 3) := by decide +kernel
theorem dX9_judged_59 : decode cX9_judged 59 = .ok (.invokevirtual 385, 3) := by decide +kernel
theorem dX9_judged_62 : decode cX9_judged 62 = .ok (.istore 4, 2) := by decide +kernel
theorem dX9_judged_64 : decode cX9_judged 64 = .ok (.iload_n 2, 1) := by decide +kernel
theorem dX9_judged_65 : decode cX9_judged 65 = .ok (.iconst 2, 1) := by decide +kernel
theorem dX9_judged_66 : decode cX9_judged 66 = .ok (.if_icmp .ne 7, 3) := by decide +kernel
theorem dX9_judged_69 : decode cX9_judged 69 = .ok (.iconst 1, 1) := by decide +kernel
theorem dX9_judged_70 : decode cX9_judged 70 = .ok (.goto 4, 3) := by decide +kernel
theorem dX9_judged_73 : decode cX9_judged 73 = .ok (.iconst 0, 1) := by decide +kernel
theorem dX9_judged_74 : decode cX9_judged 74 = .ok (.istore 5, 2) := by decide +kernel
theorem dX9_judged_76 : decode cX9_judged 76 = .ok (.iload_n 2, 1) := by decide +kernel
theorem dX9_judged_77 : decode cX9_judged 77 = .ok (.ifCond .ne 8, 3) := by decide +kernel
theorem dX9_judged_80 : decode cX9_judged 80 = .ok (.bipush 99, 2) := by decide +kernel
theorem dX9_judged_82 : decode cX9_judged 82 = .ok (.goto 17, 3) := by decide +kernel
theorem dX9_judged_85 : decode cX9_judged 85 = .ok (.iload_n 2, 1) := by decide +kernel
theorem dX9_judged_86 : decode cX9_judged 86 = .ok (.iconst 1, 1) := by decide +kernel
theorem dX9_judged_87 : decode cX9_judged 87 = .ok (.if_icmp .ne 9, 3) := by decide +kernel
theorem dX9_judged_90 : decode cX9_judged 90 = .ok (.sipush 9999, 3) := by decide +kernel
theorem dX9_judged_93 : decode cX9_judged 93 = .ok (.goto 6, 3) := by decide +kernel
theorem dX9_judged_96 : decode cX9_judged 96 = .ok (.sipush 999, 3) := by decide +kernel
theorem dX9_judged_99 : decode cX9_judged 99 = .ok (.istore 6, 2) := by decide +kernel
theorem dX9_judged_101 : decode cX9_judged 101 = .ok (.iload 5, 2) := by decide +kernel
theorem dX9_judged_103 : decode cX9_judged 103 = .ok (.iload 6, 2) := by decide +kernel
theorem dX9_judged_105 : decode cX9_judged 105 = .ok (.iload 4, 2) := by decide +kernel
theorem dX9_judged_107 : decode cX9_judged 107 = .ok (.invokestatic 389, 3) := by decide +kernel
theorem dX9_judged_110 : decode cX9_judged 110 = .ok (.invokestatic 222, 3) := by decide +kernel
theorem dX9_judged_113 : decode cX9_judged 113 = .ok (.ireturn, 1) := by decide +kernel
theorem dX9_learnNames_0 : decode cX9_learnNames 0 = .ok (.aload_n 0, 1) := by decide +kernel
theorem dX9_learnNames_1 : decode cX9_learnNames 1 = .ok (.getfield 67, 3) := by decide +kernel
theorem dX9_learnNames_4 : decode cX9_learnNames 4 = .ok (.iconst 0, 1) := by decide +kernel
theorem dX9_learnNames_5 : decode cX9_learnNames 5 = .ok (.aload_n 0, 1) := by decide +kernel
theorem dX9_learnNames_6 : decode cX9_learnNames 6 = .ok (.aload_n 1, 1) := by decide +kernel
theorem dX9_learnNames_7 : decode cX9_learnNames 7 = .ok (.invokevirtual 162, 3) := by decide +kernel
theorem dX9_learnNames_10 : decode cX9_learnNames 10 = .ok (.invokestatic 392, 3) := by decide +kernel
theorem dX9_learnNames_13 : decode cX9_learnNames 13 = .ok (.iastore, 1) := by decide +kernel
theorem dX9_learnNames_14 : decode cX9_learnNames 14 = .ok (.aload_n 0, 1) := by decide +kernel
theorem dX9_learnNames_15 : decode cX9_learnNames 15 = .ok (.getfield 67, 3) := by decide +kernel
theorem dX9_learnNames_18 : decode cX9_learnNames 18 = .ok (.iconst 1, 1) := by decide +kernel
theorem dX9_learnNames_19 : decode cX9_learnNames 19 = .ok (.aload_n 0, 1) := by decide +kernel
theorem dX9_learnNames_20 : decode cX9_learnNames 20 = .ok (.aload_n 1, 1) := by decide +kernel
theorem dX9_learnNames_21 : decode cX9_learnNames 21 = .ok (.invokevirtual 166, 3) := by decide +kernel
theorem dX9_learnNames_24 : decode cX9_learnNames 24 = .ok (.invokestatic 392, 3) := by decide +kernel
theorem dX9_learnNames_27 : decode cX9_learnNames 27 = .ok (.iastore, 1) := by decide +kernel
theorem dX9_learnNames_28 : decode cX9_learnNames 28 = .ok (.aload_n 0, 1) := by decide +kernel
theorem dX9_learnNames_29 : decode cX9_learnNames 29 = .ok (.getfield 67, 3) := by decide +kernel
theorem dX9_learnNames_32 : decode cX9_learnNames 32 = .ok (.iconst 2, 1) := by decide +kernel
theorem dX9_learnNames_33 : decode cX9_learnNames 33 = .ok (.aload_n 1, 1) := by decide +kernel
theorem dX9_learnNames_34 : decode cX9_learnNames 34 = .ok (.getfield 173, 3) := by decide +kernel
theorem dX9_learnNames_37 : decode cX9_learnNames 37 = .ok (.iastore, 1) := by decide +kernel
theorem dX9_learnNames_38 : decode cX9_learnNames 38 = .ok (.aload_n 0, 1) := by decide +kernel
theorem dX9_learnNames_39 : decode cX9_learnNames 39 = .ok (.getfield 67, 3) := by decide +kernel
theorem dX9_learnNames_42 : decode cX9_learnNames 42 = .ok (.iconst 3, 1) := by decide +kernel
theorem dX9_learnNames_43 : decode cX9_learnNames 43 = .ok (.aload_n 1, 1) := by decide +kernel
theorem dX9_learnNames_44 : decode cX9_learnNames 44 = .ok (.getfield 155, 3) := by decide +kernel
theorem dX9_learnNames_47 : decode cX9_learnNames 47 = .ok (.getfield 397, 3) := by decide +kernel
theorem dX9_learnNames_50 : decode cX9_learnNames 50 = .ok (.iastore, 1) := by decide +kernel
theorem dX9_learnNames_51 : decode cX9_learnNames 51 = .ok (.aload_n 0, 1) := by decide +kernel
theorem dX9_learnNames_52 : decode cX9_learnNames 52 = .ok (.getfield 67, 3) := by decide +kernel
theorem dX9_learnNames_55 : decode cX9_learnNames 55 = .ok (.iconst 4, 1) := by decide +kernel
theorem dX9_learnNames_56 : decode cX9_learnNames 56 = .ok (.aload_n 1, 1) := by decide +kernel
theorem dX9_learnNames_57 : decode cX9_learnNames 57 = .ok (.getfield 155, 3) := by decide +kernel
theorem dX9_learnNames_60 : decode cX9_learnNames 60 = .ok (.getfield 375, 3) := by decide +kernel
theorem dX9_learnNames_63 : decode cX9_learnNames 63 = .ok (.iastore, 1) := by decide +kernel
theorem dX9_learnNames_64 : decode cX9_learnNames 64 = .ok (.aload_n 0, 1) := by decide +kernel
theorem dX9_learnNames_65 : decode cX9_learnNames 65 = .ok (.getfield 67, 3) := by decide +kernel
theorem dX9_learnNames_68 : decode cX9_learnNames 68 = .ok (.iconst 5, 1) := by decide +kernel
theorem dX9_learnNames_69 : decode cX9_learnNames 69 = .ok (.aload_n 0, 1) := by decide +kernel
theorem dX9_learnNames_70 : decode cX9_learnNames 70 = .ok (.aload_n 1, 1) := by decide +kernel
theorem dX9_learnNames_71 : decode cX9_learnNames 71 = .ok (.getfield 155, 3) := by decide +kernel
theorem dX9_learnNames_74 : decode cX9_learnNames 74 = .ok (.getfield 159, 3) := by decide +kernel
theorem dX9_learnNames_77 : decode cX9_learnNames 77 = .ok (.invokevirtual 219, 3) := by decide +kernel
theorem dX9_learnNames_80 : decode cX9_learnNames 80 = .ok (.iastore, 1) := by decide +kernel
theorem dX9_learnNames_81 : decode cX9_learnNames 81 = .ok (.return_, 1) := by decide +kernel
theorem dX9_far_0 : decode cX9_far 0 = .ok (.iconst 0, 1) := by decide +kernel
theorem dX9_far_1 : decode cX9_far 1 = .ok (.istore 4, 2) := by decide +kernel
theorem dX9_far_3 : decode cX9_far 3 = .ok (.iconst 0, 1) := by decide +kernel
theorem dX9_far_4 : decode cX9_far 4 = .ok (.istore 5, 2) := by decide +kernel
theorem dX9_far_6 : decode cX9_far 6 = .ok (.iload 5, 2) := by decide +kernel
theorem dX9_far_8 : decode cX9_far 8 = .ok (.iconst 3, 1) := by decide +kernel
theorem dX9_far_9 : decode cX9_far 9 = .ok (.if_icmp .ge 51, 3) := by decide +kernel
theorem dX9_far_12 : decode cX9_far 12 = .ok (.iload_n 2, 1) := by decide +kernel
theorem dX9_far_13 : decode cX9_far 13 = .ok (.aload_n 0, 1) := by decide +kernel
theorem dX9_far_14 : decode cX9_far 14 = .ok (.iload 5, 2) := by decide +kernel
theorem dX9_far_16 : decode cX9_far 16 = .ok (.invokevirtual 399, 3) := by decide +kernel
theorem dX9_far_19 : decode cX9_far 19 = .ok (.imul, 1) := by decide +kernel
theorem dX9_far_20 : decode cX9_far 20 = .ok (.bipush 10, 2) := by decide +kernel
theorem dX9_far_22 : decode cX9_far 22 = .ok (.iload_n 2, 1) := by decide +kernel
theorem dX9_far_23 : decode cX9_far 23 = .ok (.isub, 1) := by decide +kernel
theorem dX9_far_24 : decode cX9_far 24 = .ok (.aload_n 1, 1) := by decide +kernel
theorem dX9_far_25 : decode cX9_far 25 = .ok (.iload 5, 2) := by decide +kernel
theorem dX9_far_27 : decode cX9_far 27 = .ok (.invokevirtual 399, 3) := by decide +kernel
theorem dX9_far_30 : decode cX9_far 30 = .ok (.imul, 1) := by decide +kernel
theorem dX9_far_31 : decode cX9_far 31 = .ok (.iadd, 1) := by decide +kernel
theorem dX9_far_32 : decode cX9_far 32 = .ok (.bipush 10, 2) := by decide +kernel
theorem dX9_far_34 : decode cX9_far 34 = .ok (.idiv, 1) := by decide +kernel
theorem dX9_far_35 : decode cX9_far 35 = .ok (.istore 6, 2) := by decide +kernel
theorem dX9_far_37 : decode cX9_far 37 = .ok (.iload 4, 2) := by decide +kernel
theorem dX9_far_39 : decode cX9_far 39 = .ok (.iload 6, 2) := by decide +kernel
theorem dX9_far_41 : decode cX9_far 41 = .ok (.aload_n 3, 1) := by decide +kernel
theorem dX9_far_42 : decode cX9_far 42 = .ok (.iload 5, 2) := by decide +kernel
theorem dX9_far_44 : decode cX9_far 44 = .ok (.invokevirtual 399, 3) := by decide +kernel
theorem dX9_far_47 : decode cX9_far 47 = .ok (.isub, 1) := by decide +kernel
theorem dX9_far_48 : decode cX9_far 48 = .ok (.invokestatic 402, 3) := by decide +kernel
theorem dX9_far_51 : decode cX9_far 51 = .ok (.iadd, 1) := by decide +kernel
theorem dX9_far_52 : decode cX9_far 52 = .ok (.istore 4, 2) := by decide +kernel
theorem dX9_far_54 : decode cX9_far 54 = .ok (.iinc 5 1, 3) := by decide +kernel
theorem dX9_far_57 : decode cX9_far 57 = .ok (.goto (-51), 3) := by decide +kernel
theorem dX9_far_60 : decode cX9_far 60 = .ok (.iload 4, 2) := by decide +kernel
theorem dX9_far_62 : decode cX9_far 62 = .ok (.ireturn, 1) := by decide +kernel
theorem dX9_weighDoubts_0 : decode cX9_weighDoubts 0 = .ok (.aload_n 0, 1) := by decide +kernel
theorem dX9_weighDoubts_1 : decode cX9_weighDoubts 1 = .ok (.getfield 142, 3) := by decide +kernel
theorem dX9_weighDoubts_4 : decode cX9_weighDoubts 4 = .ok (.bipush 10, 2) := by decide +kernel
theorem dX9_weighDoubts_6 : decode cX9_weighDoubts 6 = .ok (.invokestatic 389, 3) := by decide +kernel
theorem dX9_weighDoubts_9 : decode cX9_weighDoubts 9 = .ok (.istore_n 1, 1) := by decide +kernel
theorem dX9_weighDoubts_10 : decode cX9_weighDoubts 10 = .ok (.iconst 0, 1) := by decide +kernel
theorem dX9_weighDoubts_11 : decode cX9_weighDoubts 11 = .ok (.istore_n 2, 1) := by decide +kernel
theorem dX9_weighDoubts_12 : decode cX9_weighDoubts 12 = .ok (.iload_n 2, 1) := by decide +kernel
