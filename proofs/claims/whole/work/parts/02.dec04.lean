theorem dX10_sale_90 : decode cX10_sale 90 = .ok (.ireturn, 1) := by decide +kernel
theorem dX10_sale_91 : decode cX10_sale 91 = .ok (.aload_n 0, 1) := by decide +kernel
theorem dX10_sale_92 : decode cX10_sale 92 = .ok (.getfield 232, 3) := by decide +kernel
theorem dX10_sale_95 : decode cX10_sale 95 = .ok (.bipush 40, 2) := by decide +kernel
theorem dX10_sale_97 : decode cX10_sale 97 = .ok (.if_icmp .ne 6, 3) := by decide +kernel
theorem dX10_sale_100 : decode cX10_sale 100 = .ok (.bipush (-4), 2) := by decide +kernel
theorem dX10_sale_102 : decode cX10_sale 102 = .ok (.ireturn, 1) := by decide +kernel
theorem dX10_sale_103 : decode cX10_sale 103 = .ok (.aload_n 0, 1) := by decide +kernel
theorem dX10_sale_104 : decode cX10_sale 104 = .ok (.getfield 59, 3) := by decide +kernel
theorem dX10_sale_107 : decode cX10_sale 107 = .ok (.aload_n 0, 1) := by decide +kernel
theorem dX10_sale_108 : decode cX10_sale 108 = .ok (.getfield 232, 3) := by decide +kernel
theorem dX10_sale_111 : decode cX10_sale 111 = .ok (.iload_n 1, 1) := by decide +kernel
theorem dX10_sale_112 : decode cX10_sale 112 = .ok (.iastore, 1) := by decide +kernel
theorem dX10_sale_113 : decode cX10_sale 113 = .ok (.aload_n 0, 1) := by decide +kernel
theorem dX10_sale_114 : decode cX10_sale 114 = .ok (.getfield 62, 3) := by decide +kernel
theorem dX10_sale_117 : decode cX10_sale 117 = .ok (.aload_n 0, 1) := by decide +kernel
theorem dX10_sale_118 : decode cX10_sale 118 = .ok (.getfield 232, 3) := by decide +kernel
theorem dX10_sale_121 : decode cX10_sale 121 = .ok (.iload_n 2, 1) := by decide +kernel
theorem dX10_sale_122 : decode cX10_sale 122 = .ok (.bipush 10, 2) := by decide +kernel
theorem dX10_sale_124 : decode cX10_sale 124 = .ok (.idiv, 1) := by decide +kernel
theorem dX10_sale_125 : decode cX10_sale 125 = .ok (.iastore, 1) := by decide +kernel
theorem dX10_sale_126 : decode cX10_sale 126 = .ok (.aload_n 0, 1) := by decide +kernel
theorem dX10_sale_127 : decode cX10_sale 127 = .ok (.getfield 65, 3) := by decide +kernel
theorem dX10_sale_130 : decode cX10_sale 130 = .ok (.aload_n 0, 1) := by decide +kernel
theorem dX10_sale_131 : decode cX10_sale 131 = .ok (.getfield 232, 3) := by decide +kernel
theorem dX10_sale_134 : decode cX10_sale 134 = .ok (.iload_n 2, 1) := by decide +kernel
theorem dX10_sale_135 : decode cX10_sale 135 = .ok (.bipush 10, 2) := by decide +kernel
theorem dX10_sale_137 : decode cX10_sale 137 = .ok (.irem, 1) := by decide +kernel
theorem dX10_sale_138 : decode cX10_sale 138 = .ok (.iastore, 1) := by decide +kernel
theorem dX10_sale_139 : decode cX10_sale 139 = .ok (.aload_n 0, 1) := by decide +kernel
theorem dX10_sale_140 : decode cX10_sale 140 = .ok (.getfield 68, 3) := by decide +kernel
theorem dX10_sale_143 : decode cX10_sale 143 = .ok (.aload_n 0, 1) := by decide +kernel
theorem dX10_sale_144 : decode cX10_sale 144 = .ok (.getfield 232, 3) := by decide +kernel
theorem dX10_sale_147 : decode cX10_sale 147 = .ok (.iload_n 3, 1) := by decide +kernel
theorem dX10_sale_148 : decode cX10_sale 148 = .ok (.iastore, 1) := by decide +kernel
theorem dX10_sale_149 : decode cX10_sale 149 = .ok (.aload_n 0, 1) := by decide +kernel
theorem dX10_sale_150 : decode cX10_sale 150 = .ok (.getfield 71, 3) := by decide +kernel
theorem dX10_sale_153 : decode cX10_sale 153 = .ok (.aload_n 0, 1) := by decide +kernel
theorem dX10_sale_154 : decode cX10_sale 154 = .ok (.getfield 232, 3) := by decide +kernel
theorem dX10_sale_157 : decode cX10_sale 157 = .ok (.iload 4, 2) := by decide +kernel
theorem dX10_sale_159 : decode cX10_sale 159 = .ok (.iastore, 1) := by decide +kernel
theorem dX10_sale_160 : decode cX10_sale 160 = .ok (.aload_n 0, 1) := by decide +kernel
theorem dX10_sale_161 : decode cX10_sale 161 = .ok (.dup, 1) := by decide +kernel
theorem dX10_sale_162 : decode cX10_sale 162 = .ok (.getfield 232, 3) := by decide +kernel
theorem dX10_sale_165 : decode cX10_sale 165 = .ok (.iconst 1, 1) := by decide +kernel
theorem dX10_sale_166 : decode cX10_sale 166 = .ok (.iadd, 1) := by decide +kernel
theorem dX10_sale_167 : decode cX10_sale 167 = .ok (.putfield 232, 3) := by decide +kernel
theorem dX10_sale_170 : decode cX10_sale 170 = .ok (.aload_n 0, 1) := by decide +kernel
theorem dX10_sale_171 : decode cX10_sale 171 = .ok (.getfield 232, 3) := by decide +kernel
theorem dX10_sale_174 : decode cX10_sale 174 = .ok (.iconst 1, 1) := by decide +kernel
theorem dX10_sale_175 : decode cX10_sale 175 = .ok (.isub, 1) := by decide +kernel
theorem dX10_sale_176 : decode cX10_sale 176 = .ok (.ireturn, 1) := by decide +kernel
theorem dX10_gapOf_0 : decode cX10_gapOf 0 = .ok (.iconst 0, 1) := by decide +kernel
theorem dX10_gapOf_1 : decode cX10_gapOf 1 = .ok (.istore_n 2, 1) := by decide +kernel
theorem dX10_gapOf_2 : decode cX10_gapOf 2 = .ok (.iconst 0, 1) := by decide +kernel
theorem dX10_gapOf_3 : decode cX10_gapOf 3 = .ok (.istore_n 3, 1) := by decide +kernel
theorem dX10_gapOf_4 : decode cX10_gapOf 4 = .ok (.iload_n 3, 1) := by decide +kernel
theorem dX10_gapOf_5 : decode cX10_gapOf 5 = .ok (.aload_n 0, 1) := by decide +kernel
theorem dX10_gapOf_6 : decode cX10_gapOf 6 = .ok (.getfield 232, 3) := by decide +kernel
theorem dX10_gapOf_9 : decode cX10_gapOf 9 = .ok (.if_icmp .ge 57, 3) := by decide +kernel
theorem dX10_gapOf_12 : decode cX10_gapOf 12 = .ok (.aload_n 0, 1) := by decide +kernel
theorem dX10_gapOf_13 : decode cX10_gapOf 13 = .ok (.iload_n 1, 1) := by decide +kernel
theorem dX10_gapOf_14 : decode cX10_gapOf 14 = .ok (.iload_n 3, 1) := by decide +kernel
theorem dX10_gapOf_15 : decode cX10_gapOf 15 = .ok (.invokevirtual 235, 3) := by decide +kernel
theorem dX10_gapOf_18 : decode cX10_gapOf 18 = .ok (.istore 4, 2) := by decide +kernel
theorem dX10_gapOf_20 : decode cX10_gapOf 20 = .ok (.iload_n 2, 1) := by decide +kernel
theorem dX10_gapOf_21 : decode cX10_gapOf 21 = .ok (.aload_n 0, 1) := by decide +kernel
theorem dX10_gapOf_22 : decode cX10_gapOf 22 = .ok (.getfield 59, 3) := by decide +kernel
theorem dX10_gapOf_25 : decode cX10_gapOf 25 = .ok (.iload_n 3, 1) := by decide +kernel
theorem dX10_gapOf_26 : decode cX10_gapOf 26 = .ok (.iaload, 1) := by decide +kernel
theorem dX10_gapOf_27 : decode cX10_gapOf 27 = .ok (.iload_n 1, 1) := by decide +kernel
theorem dX10_gapOf_28 : decode cX10_gapOf 28 = .ok (.if_icmp .ne 29, 3) := by decide +kernel
theorem dX10_gapOf_31 : decode cX10_gapOf 31 = .ok (.iload 4, 2) := by decide +kernel
theorem dX10_gapOf_33 : decode cX10_gapOf 33 = .ok (.iconst (-1), 1) := by decide +kernel
theorem dX10_gapOf_34 : decode cX10_gapOf 34 = .ok (.if_icmp .eq 23, 3) := by decide +kernel
theorem dX10_gapOf_37 : decode cX10_gapOf 37 = .ok (.aload_n 0, 1) := by decide +kernel
theorem dX10_gapOf_38 : decode cX10_gapOf 38 = .ok (.getfield 65, 3) := by decide +kernel
theorem dX10_gapOf_41 : decode cX10_gapOf 41 = .ok (.iload 4, 2) := by decide +kernel
theorem dX10_gapOf_43 : decode cX10_gapOf 43 = .ok (.iaload, 1) := by decide +kernel
theorem dX10_gapOf_44 : decode cX10_gapOf 44 = .ok (.aload_n 0, 1) := by decide +kernel
theorem dX10_gapOf_45 : decode cX10_gapOf 45 = .ok (.getfield 62, 3) := by decide +kernel
theorem dX10_gapOf_48 : decode cX10_gapOf 48 = .ok (.iload_n 3, 1) := by decide +kernel
theorem dX10_gapOf_49 : decode cX10_gapOf 49 = .ok (.iaload, 1) := by decide +kernel
theorem dX10_gapOf_50 : decode cX10_gapOf 50 = .ok (.if_icmp .eq 7, 3) := by decide +kernel
theorem dX10_gapOf_53 : decode cX10_gapOf 53 = .ok (.iconst 1, 1) := by decide +kernel
theorem dX10_gapOf_54 : decode cX10_gapOf 54 = .ok (.goto 4, 3) := by decide +kernel
theorem dX10_gapOf_57 : decode cX10_gapOf 57 = .ok (.iconst 0, 1) := by decide +kernel
theorem dX10_gapOf_58 : decode cX10_gapOf 58 = .ok (.iadd, 1) := by decide +kernel
theorem dX10_gapOf_59 : decode cX10_gapOf 59 = .ok (.istore_n 2, 1) := by decide +kernel
theorem dX10_gapOf_60 : decode cX10_gapOf 60 = .ok (.iinc 3 1, 3) := by decide +kernel
theorem dX10_gapOf_63 : decode cX10_gapOf 63 = .ok (.goto (-59), 3) := by decide +kernel
theorem dX10_gapOf_66 : decode cX10_gapOf 66 = .ok (.iload_n 2, 1) := by decide +kernel
theorem dX10_gapOf_67 : decode cX10_gapOf 67 = .ok (.ireturn, 1) := by decide +kernel
theorem dX10_ownerOf_0 : decode cX10_ownerOf 0 = .ok (.aload_n 0, 1) := by decide +kernel
theorem dX10_ownerOf_1 : decode cX10_ownerOf 1 = .ok (.iload_n 1, 1) := by decide +kernel
theorem dX10_ownerOf_2 : decode cX10_ownerOf 2 = .ok (.aload_n 0, 1) := by decide +kernel
theorem dX10_ownerOf_3 : decode cX10_ownerOf 3 = .ok (.getfield 232, 3) := by decide +kernel
theorem dX10_ownerOf_6 : decode cX10_ownerOf 6 = .ok (.invokevirtual 235, 3) := by decide +kernel
theorem dX10_ownerOf_9 : decode cX10_ownerOf 9 = .ok (.istore_n 2, 1) := by decide +kernel
theorem dX10_ownerOf_10 : decode cX10_ownerOf 10 = .ok (.iload_n 2, 1) := by decide +kernel
theorem dX10_ownerOf_11 : decode cX10_ownerOf 11 = .ok (.iconst (-1), 1) := by decide +kernel
theorem dX10_ownerOf_12 : decode cX10_ownerOf 12 = .ok (.if_icmp .ne 7, 3) := by decide +kernel
theorem dX10_ownerOf_15 : decode cX10_ownerOf 15 = .ok (.iconst (-1), 1) := by decide +kernel
theorem dX10_ownerOf_16 : decode cX10_ownerOf 16 = .ok (.goto 9, 3) := by decide +kernel
theorem dX10_ownerOf_19 : decode cX10_ownerOf 19 = .ok (.aload_n 0, 1) := by decide +kernel
theorem dX10_ownerOf_20 : decode cX10_ownerOf 20 = .ok (.getfield 65, 3) := by decide +kernel
theorem dX10_ownerOf_23 : decode cX10_ownerOf 23 = .ok (.iload_n 2, 1) := by decide +kernel
theorem dX10_ownerOf_24 : decode cX10_ownerOf 24 = .ok (.iaload, 1) := by decide +kernel
theorem dX10_ownerOf_25 : decode cX10_ownerOf 25 = .ok (.ireturn, 1) := by decide +kernel
theorem dX10_soldOf_0 : decode cX10_soldOf 0 = .ok (.iconst 0, 1) := by decide +kernel
theorem dX10_soldOf_1 : decode cX10_soldOf 1 = .ok (.istore_n 2, 1) := by decide +kernel
theorem dX10_soldOf_2 : decode cX10_soldOf 2 = .ok (.iconst 0, 1) := by decide +kernel
theorem dX10_soldOf_3 : decode cX10_soldOf 3 = .ok (.istore_n 3, 1) := by decide +kernel
theorem dX10_soldOf_4 : decode cX10_soldOf 4 = .ok (.iload_n 3, 1) := by decide +kernel
theorem dX10_soldOf_5 : decode cX10_soldOf 5 = .ok (.aload_n 0, 1) := by decide +kernel
theorem dX10_soldOf_6 : decode cX10_soldOf 6 = .ok (.getfield 174, 3) := by decide +kernel
theorem dX10_soldOf_9 : decode cX10_soldOf 9 = .ok (.if_icmp .ge 36, 3) := by decide +kernel
theorem dX10_soldOf_12 : decode cX10_soldOf 12 = .ok (.iload_n 2, 1) := by decide +kernel
theorem dX10_soldOf_13 : decode cX10_soldOf 13 = .ok (.aload_n 0, 1) := by decide +kernel
theorem dX10_soldOf_14 : decode cX10_soldOf 14 = .ok (.getfield 50, 3) := by decide +kernel
theorem dX10_soldOf_17 : decode cX10_soldOf 17 = .ok (.iload_n 3, 1) := by decide +kernel
theorem dX10_soldOf_18 : decode cX10_soldOf 18 = .ok (.iaload, 1) := by decide +kernel
theorem dX10_soldOf_19 : decode cX10_soldOf 19 = .ok (.iload_n 1, 1) := by decide +kernel
theorem dX10_soldOf_20 : decode cX10_soldOf 20 = .ok (.if_icmp .ne 16, 3) := by decide +kernel
theorem dX10_soldOf_23 : decode cX10_soldOf 23 = .ok (.aload_n 0, 1) := by decide +kernel
theorem dX10_soldOf_24 : decode cX10_soldOf 24 = .ok (.iload_n 3, 1) := by decide +kernel
theorem dX10_soldOf_25 : decode cX10_soldOf 25 = .ok (.invokevirtual 218, 3) := by decide +kernel
theorem dX10_soldOf_28 : decode cX10_soldOf 28 = .ok (.iconst (-1), 1) := by decide +kernel
theorem dX10_soldOf_29 : decode cX10_soldOf 29 = .ok (.if_icmp .eq 7, 3) := by decide +kernel
theorem dX10_soldOf_32 : decode cX10_soldOf 32 = .ok (.iconst 1, 1) := by decide +kernel
theorem dX10_soldOf_33 : decode cX10_soldOf 33 = .ok (.goto 4, 3) := by decide +kernel
theorem dX10_soldOf_36 : decode cX10_soldOf 36 = .ok (.iconst 0, 1) := by decide +kernel
theorem dX10_soldOf_37 : decode cX10_soldOf 37 = .ok (.iadd, 1) := by decide +kernel
theorem dX10_soldOf_38 : decode cX10_soldOf 38 = .ok (.istore_n 2, 1) := by decide +kernel
theorem dX10_soldOf_39 : decode cX10_soldOf 39 = .ok (.iinc 3 1, 3) := by decide +kernel
theorem dX10_soldOf_42 : decode cX10_soldOf 42 = .ok (.goto (-38), 3) := by decide +kernel
theorem dX10_soldOf_45 : decode cX10_soldOf 45 = .ok (.iload_n 2, 1) := by decide +kernel
theorem dX10_soldOf_46 : decode cX10_soldOf 46 = .ok (.ireturn, 1) := by decide +kernel
theorem dX10_feed_0 : decode cX10_feed 0 = .ok (.iload_n 1, 1) := by decide +kernel
theorem dX10_feed_1 : decode cX10_feed 1 = .ok (.i2l, 1) := by decide +kernel
theorem dX10_feed_2 : decode cX10_feed 2 = .ok (.lconst 1, 1) := by decide +kernel
theorem dX10_feed_3 : decode cX10_feed 3 = .ok (.ldc2_w 238, 3) := by decide +kernel
theorem dX10_feed_6 : decode cX10_feed 6 = .ok (.invokestatic 149, 3) := by decide +kernel
theorem dX10_feed_9 : decode cX10_feed 9 = .ok (.ifCond .ne 6, 3) := by decide +kernel
theorem dX10_feed_12 : decode cX10_feed 12 = .ok (.bipush (-2), 2) := by decide +kernel
theorem dX10_feed_14 : decode cX10_feed 14 = .ok (.ireturn, 1) := by decide +kernel
theorem dX10_feed_15 : decode cX10_feed 15 = .ok (.aload_n 0, 1) := by decide +kernel
theorem dX10_feed_16 : decode cX10_feed 16 = .ok (.getfield 240, 3) := by decide +kernel
theorem dX10_feed_19 : decode cX10_feed 19 = .ok (.iload_n 1, 1) := by decide +kernel
theorem dX10_feed_20 : decode cX10_feed 20 = .ok (.iadd, 1) := by decide +kernel
theorem dX10_feed_21 : decode cX10_feed 21 = .ok (.sipush 160, 3) := by decide +kernel
theorem dX10_feed_24 : decode cX10_feed 24 = .ok (.if_icmp .le 6, 3) := by decide +kernel
theorem dX10_feed_27 : decode cX10_feed 27 = .ok (.bipush (-4), 2) := by decide +kernel
theorem dX10_feed_29 : decode cX10_feed 29 = .ok (.ireturn, 1) := by decide +kernel
theorem dX10_feed_30 : decode cX10_feed 30 = .ok (.iconst 0, 1) := by decide +kernel
theorem dX10_feed_31 : decode cX10_feed 31 = .ok (.istore 4, 2) := by decide +kernel
theorem dX10_feed_33 : decode cX10_feed 33 = .ok (.iload 4, 2) := by decide +kernel
theorem dX10_feed_35 : decode cX10_feed 35 = .ok (.iload_n 1, 1) := by decide +kernel
theorem dX10_feed_36 : decode cX10_feed 36 = .ok (.if_icmp .ge 40, 3) := by decide +kernel
theorem dX10_feed_39 : decode cX10_feed 39 = .ok (.aload_n 0, 1) := by decide +kernel
theorem dX10_feed_40 : decode cX10_feed 40 = .ok (.getfield 20, 3) := by decide +kernel
theorem dX10_feed_43 : decode cX10_feed 43 = .ok (.aload_n 0, 1) := by decide +kernel
theorem dX10_feed_44 : decode cX10_feed 44 = .ok (.getfield 240, 3) := by decide +kernel
theorem dX10_feed_47 : decode cX10_feed 47 = .ok (.lload_n 2, 1) := by decide +kernel
theorem dX10_feed_48 : decode cX10_feed 48 = .ok (.bipush 8, 2) := by decide +kernel
theorem dX10_feed_50 : decode cX10_feed 50 = .ok (.iload 4, 2) := by decide +kernel
theorem dX10_feed_52 : decode cX10_feed 52 = .ok (.imul, 1) := by decide +kernel
theorem dX10_feed_53 : decode cX10_feed 53 = .ok (.lshr, 1) := by decide +kernel
theorem dX10_feed_54 : decode cX10_feed 54 = .ok (.ldc2_w 144, 3) := by decide +kernel
theorem dX10_feed_57 : decode cX10_feed 57 = .ok (.land, 1) := by decide +kernel
theorem dX10_feed_58 : decode cX10_feed 58 = .ok (.l2i, 1) := by decide +kernel
theorem dX10_feed_59 : decode cX10_feed 59 = .ok (.iastore, 1) := by decide +kernel
theorem dX10_feed_60 : decode cX10_feed 60 = .ok (.aload_n 0, 1) := by decide +kernel
theorem dX10_feed_61 : decode cX10_feed 61 = .ok (.dup, 1) := by decide +kernel
theorem dX10_feed_62 : decode cX10_feed 62 = .ok (.getfield 240, 3) := by decide +kernel
theorem dX10_feed_65 : decode cX10_feed 65 = .ok (.iconst 1, 1) := by decide +kernel
theorem dX10_feed_66 : decode cX10_feed 66 = .ok (.iadd, 1) := by decide +kernel
theorem dX10_feed_67 : decode cX10_feed 67 = .ok (.putfield 240, 3) := by decide +kernel
theorem dX10_feed_70 : decode cX10_feed 70 = .ok (.iinc 4 1, 3) := by decide +kernel
theorem dX10_feed_73 : decode cX10_feed 73 = .ok (.goto (-40), 3) := by decide +kernel
theorem dX10_feed_76 : decode cX10_feed 76 = .ok (.aload_n 0, 1) := by decide +kernel
theorem dX10_feed_77 : decode cX10_feed 77 = .ok (.getfield 240, 3) := by decide +kernel
theorem dX10_feed_80 : decode cX10_feed 80 = .ok (.ireturn, 1) := by decide +kernel
theorem dX10_byteAt_0 : decode cX10_byteAt 0 = .ok (.iload_n 1, 1) := by decide +kernel
theorem dX10_byteAt_1 : decode cX10_byteAt 1 = .ok (.aload_n 0, 1) := by decide +kernel
theorem dX10_byteAt_2 : decode cX10_byteAt 2 = .ok (.getfield 243, 3) := by decide +kernel
theorem dX10_byteAt_5 : decode cX10_byteAt 5 = .ok (.if_icmp .ge 17, 3) := by decide +kernel
theorem dX10_byteAt_8 : decode cX10_byteAt 8 = .ok (.aload_n 0, 1) := by decide +kernel
theorem dX10_byteAt_9 : decode cX10_byteAt 9 = .ok (.getfield 13, 3) := by decide +kernel
theorem dX10_byteAt_12 : decode cX10_byteAt 12 = .ok (.aload_n 0, 1) := by decide +kernel
theorem dX10_byteAt_13 : decode cX10_byteAt 13 = .ok (.getfield 246, 3) := by decide +kernel
theorem dX10_byteAt_16 : decode cX10_byteAt 16 = .ok (.iload_n 1, 1) := by decide +kernel
theorem dX10_byteAt_17 : decode cX10_byteAt 17 = .ok (.iadd, 1) := by decide +kernel
theorem dX10_byteAt_18 : decode cX10_byteAt 18 = .ok (.iaload, 1) := by decide +kernel
theorem dX10_byteAt_19 : decode cX10_byteAt 19 = .ok (.goto 4, 3) := by decide +kernel
theorem dX10_byteAt_22 : decode cX10_byteAt 22 = .ok (.iconst (-1), 1) := by decide +kernel
theorem dX10_byteAt_23 : decode cX10_byteAt 23 = .ok (.ireturn, 1) := by decide +kernel
theorem dX10_next_0 : decode cX10_next 0 = .ok (.aload_n 0, 1) := by decide +kernel
theorem dX10_next_1 : decode cX10_next 1 = .ok (.aload_n 0, 1) := by decide +kernel
theorem dX10_next_2 : decode cX10_next 2 = .ok (.getfield 249, 3) := by decide +kernel
theorem dX10_next_5 : decode cX10_next 5 = .ok (.invokevirtual 252, 3) := by decide +kernel
theorem dX10_next_8 : decode cX10_next 8 = .ok (.bipush 32, 2) := by decide +kernel
theorem dX10_next_10 : decode cX10_next 10 = .ok (.if_icmp .eq 16, 3) := by decide +kernel
theorem dX10_next_13 : decode cX10_next 13 = .ok (.aload_n 0, 1) := by decide +kernel
theorem dX10_next_14 : decode cX10_next 14 = .ok (.aload_n 0, 1) := by decide +kernel
theorem dX10_next_15 : decode cX10_next 15 = .ok (.getfield 249, 3) := by decide +kernel
theorem dX10_next_18 : decode cX10_next 18 = .ok (.invokevirtual 252, 3) := by decide +kernel
theorem dX10_next_21 : decode cX10_next 21 = .ok (.bipush 10, 2) := by decide +kernel
theorem dX10_next_23 : decode cX10_next 23 = .ok (.if_icmp .ne 16, 3) := by decide +kernel
theorem dX10_next_26 : decode cX10_next 26 = .ok (.aload_n 0, 1) := by decide +kernel
theorem dX10_next_27 : decode cX10_next 27 = .ok (.dup, 1) := by decide +kernel
theorem dX10_next_28 : decode cX10_next 28 = .ok (.getfield 249, 3) := by decide +kernel
theorem dX10_next_31 : decode cX10_next 31 = .ok (.iconst 1, 1) := by decide +kernel
theorem dX10_next_32 : decode cX10_next 32 = .ok (.iadd, 1) := by decide +kernel
theorem dX10_next_33 : decode cX10_next 33 = .ok (.putfield 249, 3) := by decide +kernel
theorem dX10_next_36 : decode cX10_next 36 = .ok (.goto (-36), 3) := by decide +kernel
theorem dX10_next_39 : decode cX10_next 39 = .ok (.aload_n 0, 1) := by decide +kernel
theorem dX10_next_40 : decode cX10_next 40 = .ok (.aload_n 0, 1) := by decide +kernel
theorem dX10_next_41 : decode cX10_next 41 = .ok (.getfield 249, 3) := by decide +kernel
theorem dX10_next_44 : decode cX10_next 44 = .ok (.putfield 255, 3) := by decide +kernel
theorem dX10_next_47 : decode cX10_next 47 = .ok (.aload_n 0, 1) := by decide +kernel
theorem dX10_next_48 : decode cX10_next 48 = .ok (.aload_n 0, 1) := by decide +kernel
theorem dX10_next_49 : decode cX10_next 49 = .ok (.getfield 249, 3) := by decide +kernel
theorem dX10_next_52 : decode cX10_next 52 = .ok (.invokevirtual 252, 3) := by decide +kernel
theorem dX10_next_55 : decode cX10_next 55 = .ok (.istore_n 1, 1) := by decide +kernel
theorem dX10_next_56 : decode cX10_next 56 = .ok (.aload_n 0, 1) := by decide +kernel
theorem dX10_next_57 : decode cX10_next 57 = .ok (.iconst 4, 1) := by decide +kernel
theorem dX10_next_58 : decode cX10_next 58 = .ok (.putfield 258, 3) := by decide +kernel
theorem dX10_next_61 : decode cX10_next 61 = .ok (.iload_n 1, 1) := by decide +kernel
theorem dX10_next_62 : decode cX10_next 62 = .ok (.ifCond .ge 19, 3) := by decide +kernel
theorem dX10_next_65 : decode cX10_next 65 = .ok (.aload_n 0, 1) := by decide +kernel
theorem dX10_next_66 : decode cX10_next 66 = .ok (.iconst 0, 1) := by decide +kernel
theorem dX10_next_67 : decode cX10_next 67 = .ok (.putfield 258, 3) := by decide +kernel
theorem dX10_next_70 : decode cX10_next 70 = .ok (.aload_n 0, 1) := by decide +kernel
theorem dX10_next_71 : decode cX10_next 71 = .ok (.aload_n 0, 1) := by decide +kernel
theorem dX10_next_72 : decode cX10_next 72 = .ok (.getfield 243, 3) := by decide +kernel
theorem dX10_next_75 : decode cX10_next 75 = .ok (.putfield 255, 3) := by decide +kernel
theorem dX10_next_78 : decode cX10_next 78 = .ok (.goto 294, 3) := by decide +kernel
theorem dX10_next_81 : decode cX10_next 81 = .ok (.iload_n 1, 1) := by decide +kernel
theorem dX10_next_82 : decode cX10_next 82 = .ok (.i2l, 1) := by decide +kernel
theorem dX10_next_83 : decode cX10_next 83 = .ok (.ldc2_w 261, 3) := by decide +kernel
theorem dX10_next_86 : decode cX10_next 86 = .ok (.ldc2_w 263, 3) := by decide +kernel
theorem dX10_next_89 : decode cX10_next 89 = .ok (.invokestatic 149, 3) := by decide +kernel
theorem dX10_next_92 : decode cX10_next 92 = .ok (.ifCond .eq 93, 3) := by decide +kernel
theorem dX10_next_95 : decode cX10_next 95 = .ok (.aload_n 0, 1) := by decide +kernel
theorem dX10_next_96 : decode cX10_next 96 = .ok (.iconst 1, 1) := by decide +kernel
theorem dX10_next_97 : decode cX10_next 97 = .ok (.putfield 258, 3) := by decide +kernel
theorem dX10_next_100 : decode cX10_next 100 = .ok (.aload_n 0, 1) := by decide +kernel
theorem dX10_next_101 : decode cX10_next 101 = .ok (.lconst 0, 1) := by decide +kernel
theorem dX10_next_102 : decode cX10_next 102 = .ok (.putfield 265, 3) := by decide +kernel
theorem dX10_next_105 : decode cX10_next 105 = .ok (.iconst 0, 1) := by decide +kernel
theorem dX10_next_106 : decode cX10_next 106 = .ok (.istore_n 2, 1) := by decide +kernel
theorem dX10_next_107 : decode cX10_next 107 = .ok (.aload_n 0, 1) := by decide +kernel
theorem dX10_next_108 : decode cX10_next 108 = .ok (.aload_n 0, 1) := by decide +kernel
theorem dX10_next_109 : decode cX10_next 109 = .ok (.getfield 249, 3) := by decide +kernel
theorem dX10_next_112 : decode cX10_next 112 = .ok (.invokevirtual 252, 3) := by decide +kernel
theorem dX10_next_115 : decode cX10_next 115 = .ok (.i2l, 1) := by decide +kernel
theorem dX10_next_116 : decode cX10_next 116 = .ok (.ldc2_w 261, 3) := by decide +kernel
theorem dX10_next_119 : decode cX10_next 119 = .ok (.ldc2_w 263, 3) := by decide +kernel
theorem dX10_next_122 : decode cX10_next 122 = .ok (.invokestatic 149, 3) := by decide +kernel
theorem dX10_next_125 : decode cX10_next 125 = .ok (.ifCond .eq 57, 3) := by decide +kernel
theorem dX10_next_128 : decode cX10_next 128 = .ok (.aload_n 0, 1) := by decide +kernel
theorem dX10_next_129 : decode cX10_next 129 = .ok (.iload_n 2, 1) := by decide +kernel
theorem dX10_next_130 : decode cX10_next 130 = .ok (.bipush 8, 2) := by decide +kernel
theorem dX10_next_132 : decode cX10_next 132 = .ok (.if_icmp .ge 28, 3) := by decide +kernel
theorem dX10_next_135 : decode cX10_next 135 = .ok (.ldc2_w 269, 3) := by decide +kernel
theorem dX10_next_138 : decode cX10_next 138 = .ok (.aload_n 0, 1) := by decide +kernel
theorem dX10_next_139 : decode cX10_next 139 = .ok (.getfield 265, 3) := by decide +kernel
theorem dX10_next_142 : decode cX10_next 142 = .ok (.lmul, 1) := by decide +kernel
theorem dX10_next_143 : decode cX10_next 143 = .ok (.aload_n 0, 1) := by decide +kernel
theorem dX10_next_144 : decode cX10_next 144 = .ok (.aload_n 0, 1) := by decide +kernel
theorem dX10_next_145 : decode cX10_next 145 = .ok (.getfield 249, 3) := by decide +kernel
theorem dX10_next_148 : decode cX10_next 148 = .ok (.invokevirtual 252, 3) := by decide +kernel
theorem dX10_next_151 : decode cX10_next 151 = .ok (.i2l, 1) := by decide +kernel
theorem dX10_next_152 : decode cX10_next 152 = .ok (.ladd, 1) := by decide +kernel
theorem dX10_next_153 : decode cX10_next 153 = .ok (.ldc2_w 271, 3) := by decide +kernel
theorem dX10_next_156 : decode cX10_next 156 = .ok (.lsub, 1) := by decide +kernel
theorem dX10_next_157 : decode cX10_next 157 = .ok (.goto 6, 3) := by decide +kernel
theorem dX10_next_160 : decode cX10_next 160 = .ok (.ldc2_w 273, 3) := by decide +kernel
theorem dX10_next_163 : decode cX10_next 163 = .ok (.putfield 265, 3) := by decide +kernel
theorem dX10_next_166 : decode cX10_next 166 = .ok (.iinc 2 1, 3) := by decide +kernel
theorem dX10_next_169 : decode cX10_next 169 = .ok (.aload_n 0, 1) := by decide +kernel
theorem dX10_next_170 : decode cX10_next 170 = .ok (.dup, 1) := by decide +kernel
theorem dX10_next_171 : decode cX10_next 171 = .ok (.getfield 249, 3) := by decide +kernel
theorem dX10_next_174 : decode cX10_next 174 = .ok (.iconst 1, 1) := by decide +kernel
theorem dX10_next_175 : decode cX10_next 175 = .ok (.iadd, 1) := by decide +kernel
theorem dX10_next_176 : decode cX10_next 176 = .ok (.putfield 249, 3) := by decide +kernel
theorem dX10_next_179 : decode cX10_next 179 = .ok (.goto (-72), 3) := by decide +kernel
theorem dX10_next_182 : decode cX10_next 182 = .ok (.goto 190, 3) := by decide +kernel
theorem dX10_next_185 : decode cX10_next 185 = .ok (.iload_n 1, 1) := by decide +kernel
theorem dX10_next_186 : decode cX10_next 186 = .ok (.i2l, 1) := by decide +kernel
theorem dX10_next_187 : decode cX10_next 187 = .ok (.ldc2_w 275, 3) := by decide +kernel
theorem dX10_next_190 : decode cX10_next 190 = .ok (.ldc2_w 277, 3) := by decide +kernel
theorem dX10_next_193 : decode cX10_next 193 = .ok (.invokestatic 149, 3) := by decide +kernel
theorem dX10_next_196 : decode cX10_next 196 = .ok (.ifCond .eq 107, 3) := by decide +kernel
theorem dX10_next_199 : decode cX10_next 199 = .ok (.aload_n 0, 1) := by decide +kernel
theorem dX10_next_200 : decode cX10_next 200 = .ok (.iconst 2, 1) := by decide +kernel
theorem dX10_next_201 : decode cX10_next 201 = .ok (.putfield 258, 3) := by decide +kernel
theorem dX10_next_204 : decode cX10_next 204 = .ok (.aload_n 0, 1) := by decide +kernel
theorem dX10_next_205 : decode cX10_next 205 = .ok (.lconst 0, 1) := by decide +kernel
theorem dX10_next_206 : decode cX10_next 206 = .ok (.putfield 265, 3) := by decide +kernel
theorem dX10_next_209 : decode cX10_next 209 = .ok (.iconst 0, 1) := by decide +kernel
theorem dX10_next_210 : decode cX10_next 210 = .ok (.istore_n 2, 1) := by decide +kernel
theorem dX10_next_211 : decode cX10_next 211 = .ok (.aload_n 0, 1) := by decide +kernel
theorem dX10_next_212 : decode cX10_next 212 = .ok (.aload_n 0, 1) := by decide +kernel
theorem dX10_next_213 : decode cX10_next 213 = .ok (.getfield 249, 3) := by decide +kernel
theorem dX10_next_216 : decode cX10_next 216 = .ok (.invokevirtual 252, 3) := by decide +kernel
theorem dX10_next_219 : decode cX10_next 219 = .ok (.i2l, 1) := by decide +kernel
theorem dX10_next_220 : decode cX10_next 220 = .ok (.ldc2_w 275, 3) := by decide +kernel
theorem dX10_next_223 : decode cX10_next 223 = .ok (.ldc2_w 277, 3) := by decide +kernel
theorem dX10_next_226 : decode cX10_next 226 = .ok (.invokestatic 149, 3) := by decide +kernel
theorem dX10_next_229 : decode cX10_next 229 = .ok (.ifCond .eq 57, 3) := by decide +kernel
theorem dX10_next_232 : decode cX10_next 232 = .ok (.aload_n 0, 1) := by decide +kernel
theorem dX10_next_233 : decode cX10_next 233 = .ok (.iload_n 2, 1) := by decide +kernel
theorem dX10_next_234 : decode cX10_next 234 = .ok (.iconst 4, 1) := by decide +kernel
theorem dX10_next_235 : decode cX10_next 235 = .ok (.if_icmp .ge 28, 3) := by decide +kernel
theorem dX10_next_238 : decode cX10_next 238 = .ok (.ldc2_w 279, 3) := by decide +kernel
theorem dX10_next_241 : decode cX10_next 241 = .ok (.aload_n 0, 1) := by decide +kernel
theorem dX10_next_242 : decode cX10_next 242 = .ok (.getfield 265, 3) := by decide +kernel
theorem dX10_next_245 : decode cX10_next 245 = .ok (.lmul, 1) := by decide +kernel
theorem dX10_next_246 : decode cX10_next 246 = .ok (.aload_n 0, 1) := by decide +kernel
theorem dX10_next_247 : decode cX10_next 247 = .ok (.aload_n 0, 1) := by decide +kernel
theorem dX10_next_248 : decode cX10_next 248 = .ok (.getfield 249, 3) := by decide +kernel
theorem dX10_next_251 : decode cX10_next 251 = .ok (.invokevirtual 252, 3) := by decide +kernel
theorem dX10_next_254 : decode cX10_next 254 = .ok (.i2l, 1) := by decide +kernel
theorem dX10_next_255 : decode cX10_next 255 = .ok (.ladd, 1) := by decide +kernel
theorem dX10_next_256 : decode cX10_next 256 = .ok (.ldc2_w 275, 3) := by decide +kernel
theorem dX10_next_259 : decode cX10_next 259 = .ok (.lsub, 1) := by decide +kernel
theorem dX10_next_260 : decode cX10_next 260 = .ok (.goto 7, 3) := by decide +kernel
theorem dX10_next_263 : decode cX10_next 263 = .ok (.aload_n 0, 1) := by decide +kernel
theorem dX10_next_264 : decode cX10_next 264 = .ok (.getfield 265, 3) := by decide +kernel
theorem dX10_next_267 : decode cX10_next 267 = .ok (.putfield 265, 3) := by decide +kernel
theorem dX10_next_270 : decode cX10_next 270 = .ok (.iinc 2 1, 3) := by decide +kernel
theorem dX10_next_273 : decode cX10_next 273 = .ok (.aload_n 0, 1) := by decide +kernel
theorem dX10_next_274 : decode cX10_next 274 = .ok (.dup, 1) := by decide +kernel
theorem dX10_next_275 : decode cX10_next 275 = .ok (.getfield 249, 3) := by decide +kernel
theorem dX10_next_278 : decode cX10_next 278 = .ok (.iconst 1, 1) := by decide +kernel
theorem dX10_next_279 : decode cX10_next 279 = .ok (.iadd, 1) := by decide +kernel
theorem dX10_next_280 : decode cX10_next 280 = .ok (.putfield 249, 3) := by decide +kernel
theorem dX10_next_283 : decode cX10_next 283 = .ok (.goto (-72), 3) := by decide +kernel
theorem dX10_next_286 : decode cX10_next 286 = .ok (.aload_n 0, 1) := by decide +kernel
theorem dX10_next_287 : decode cX10_next 287 = .ok (.iload_n 2, 1) := by decide +kernel
theorem dX10_next_288 : decode cX10_next 288 = .ok (.iconst 4, 1) := by decide +kernel
theorem dX10_next_289 : decode cX10_next 289 = .ok (.if_icmp .le 7, 3) := by decide +kernel
theorem dX10_next_292 : decode cX10_next 292 = .ok (.iconst 4, 1) := by decide +kernel
theorem dX10_next_293 : decode cX10_next 293 = .ok (.goto 4, 3) := by decide +kernel
theorem dX10_next_296 : decode cX10_next 296 = .ok (.iconst 2, 1) := by decide +kernel
theorem dX10_next_297 : decode cX10_next 297 = .ok (.putfield 258, 3) := by decide +kernel
theorem dX10_next_300 : decode cX10_next 300 = .ok (.goto 72, 3) := by decide +kernel
theorem dX10_next_303 : decode cX10_next 303 = .ok (.iload_n 1, 1) := by decide +kernel
theorem dX10_next_304 : decode cX10_next 304 = .ok (.bipush 40, 2) := by decide +kernel
theorem dX10_next_306 : decode cX10_next 306 = .ok (.if_icmp .eq 45, 3) := by decide +kernel
theorem dX10_next_309 : decode cX10_next 309 = .ok (.iload_n 1, 1) := by decide +kernel
theorem dX10_next_310 : decode cX10_next 310 = .ok (.bipush 41, 2) := by decide +kernel
theorem dX10_next_312 : decode cX10_next 312 = .ok (.if_icmp .eq 39, 3) := by decide +kernel
theorem dX10_next_315 : decode cX10_next 315 = .ok (.iload_n 1, 1) := by decide +kernel
theorem dX10_next_316 : decode cX10_next 316 = .ok (.bipush 59, 2) := by decide +kernel
theorem dX10_next_318 : decode cX10_next 318 = .ok (.if_icmp .eq 33, 3) := by decide +kernel
theorem dX10_next_321 : decode cX10_next 321 = .ok (.iload_n 1, 1) := by decide +kernel
theorem dX10_next_322 : decode cX10_next 322 = .ok (.bipush 43, 2) := by decide +kernel
theorem dX10_next_324 : decode cX10_next 324 = .ok (.if_icmp .eq 27, 3) := by decide +kernel
theorem dX10_next_327 : decode cX10_next 327 = .ok (.iload_n 1, 1) := by decide +kernel
theorem dX10_next_328 : decode cX10_next 328 = .ok (.bipush 45, 2) := by decide +kernel
theorem dX10_next_330 : decode cX10_next 330 = .ok (.if_icmp .eq 21, 3) := by decide +kernel
theorem dX10_next_333 : decode cX10_next 333 = .ok (.iload_n 1, 1) := by decide +kernel
theorem dX10_next_334 : decode cX10_next 334 = .ok (.bipush 42, 2) := by decide +kernel
theorem dX10_next_336 : decode cX10_next 336 = .ok (.if_icmp .eq 15, 3) := by decide +kernel
theorem dX10_next_339 : decode cX10_next 339 = .ok (.iload_n 1, 1) := by decide +kernel
theorem dX10_next_340 : decode cX10_next 340 = .ok (.bipush 60, 2) := by decide +kernel
theorem dX10_next_342 : decode cX10_next 342 = .ok (.if_icmp .eq 9, 3) := by decide +kernel
theorem dX10_next_345 : decode cX10_next 345 = .ok (.iload_n 1, 1) := by decide +kernel
theorem dX10_next_346 : decode cX10_next 346 = .ok (.bipush 61, 2) := by decide +kernel
theorem dX10_next_348 : decode cX10_next 348 = .ok (.if_icmp .ne 24, 3) := by decide +kernel
theorem dX10_next_351 : decode cX10_next 351 = .ok (.aload_n 0, 1) := by decide +kernel
theorem dX10_next_352 : decode cX10_next 352 = .ok (.iconst 3, 1) := by decide +kernel
theorem dX10_next_353 : decode cX10_next 353 = .ok (.putfield 258, 3) := by decide +kernel
theorem dX10_next_356 : decode cX10_next 356 = .ok (.aload_n 0, 1) := by decide +kernel
theorem dX10_next_357 : decode cX10_next 357 = .ok (.iload_n 1, 1) := by decide +kernel
theorem dX10_next_358 : decode cX10_next 358 = .ok (.i2l, 1) := by decide +kernel
theorem dX10_next_359 : decode cX10_next 359 = .ok (.putfield 265, 3) := by decide +kernel
theorem dX10_next_362 : decode cX10_next 362 = .ok (.aload_n 0, 1) := by decide +kernel
theorem dX10_next_363 : decode cX10_next 363 = .ok (.dup, 1) := by decide +kernel
theorem dX10_next_364 : decode cX10_next 364 = .ok (.getfield 249, 3) := by decide +kernel
theorem dX10_next_367 : decode cX10_next 367 = .ok (.iconst 1, 1) := by decide +kernel
theorem dX10_next_368 : decode cX10_next 368 = .ok (.iadd, 1) := by decide +kernel
theorem dX10_next_369 : decode cX10_next 369 = .ok (.putfield 249, 3) := by decide +kernel
theorem dX10_next_372 : decode cX10_next 372 = .ok (.return_, 1) := by decide +kernel
theorem dX10_fail_0 : decode cX10_fail 0 = .ok (.aload_n 0, 1) := by decide +kernel
theorem dX10_fail_1 : decode cX10_fail 1 = .ok (.getfield 281, 3) := by decide +kernel
theorem dX10_fail_4 : decode cX10_fail 4 = .ok (.ifCond .ne 16, 3) := by decide +kernel
theorem dX10_fail_7 : decode cX10_fail 7 = .ok (.aload_n 0, 1) := by decide +kernel
theorem dX10_fail_8 : decode cX10_fail 8 = .ok (.iconst 1, 1) := by decide +kernel
theorem dX10_fail_9 : decode cX10_fail 9 = .ok (.putfield 281, 3) := by decide +kernel
theorem dX10_fail_12 : decode cX10_fail 12 = .ok (.aload_n 0, 1) := by decide +kernel
theorem dX10_fail_13 : decode cX10_fail 13 = .ok (.aload_n 0, 1) := by decide +kernel
theorem dX10_fail_14 : decode cX10_fail 14 = .ok (.getfield 255, 3) := by decide +kernel
theorem dX10_fail_17 : decode cX10_fail 17 = .ok (.putfield 285, 3) := by decide +kernel
theorem dX10_fail_20 : decode cX10_fail 20 = .ok (.return_, 1) := by decide +kernel
theorem dX10_isWord_0 : decode cX10_isWord 0 = .ok (.aload_n 0, 1) := by decide +kernel
theorem dX10_isWord_1 : decode cX10_isWord 1 = .ok (.getfield 281, 3) := by decide +kernel
theorem dX10_isWord_4 : decode cX10_isWord 4 = .ok (.ifCond .ne 24, 3) := by decide +kernel
theorem dX10_isWord_7 : decode cX10_isWord 7 = .ok (.aload_n 0, 1) := by decide +kernel
theorem dX10_isWord_8 : decode cX10_isWord 8 = .ok (.getfield 258, 3) := by decide +kernel
theorem dX10_isWord_11 : decode cX10_isWord 11 = .ok (.iconst 1, 1) := by decide +kernel
theorem dX10_isWord_12 : decode cX10_isWord 12 = .ok (.if_icmp .ne 16, 3) := by decide +kernel
theorem dX10_isWord_15 : decode cX10_isWord 15 = .ok (.aload_n 0, 1) := by decide +kernel
theorem dX10_isWord_16 : decode cX10_isWord 16 = .ok (.getfield 265, 3) := by decide +kernel
theorem dX10_isWord_19 : decode cX10_isWord 19 = .ok (.lload_n 1, 1) := by decide +kernel
theorem dX10_isWord_20 : decode cX10_isWord 20 = .ok (.lcmp, 1) := by decide +kernel
theorem dX10_isWord_21 : decode cX10_isWord 21 = .ok (.ifCond .ne 7, 3) := by decide +kernel
theorem dX10_isWord_24 : decode cX10_isWord 24 = .ok (.iconst 1, 1) := by decide +kernel
theorem dX10_isWord_25 : decode cX10_isWord 25 = .ok (.goto 4, 3) := by decide +kernel
theorem dX10_isWord_28 : decode cX10_isWord 28 = .ok (.iconst 0, 1) := by decide +kernel
theorem dX10_isWord_29 : decode cX10_isWord 29 = .ok (.ireturn, 1) := by decide +kernel
theorem dX10_isSign_0 : decode cX10_isSign 0 = .ok (.aload_n 0, 1) := by decide +kernel
theorem dX10_isSign_1 : decode cX10_isSign 1 = .ok (.getfield 281, 3) := by decide +kernel
theorem dX10_isSign_4 : decode cX10_isSign 4 = .ok (.ifCond .ne 25, 3) := by decide +kernel
theorem dX10_isSign_7 : decode cX10_isSign 7 = .ok (.aload_n 0, 1) := by decide +kernel
theorem dX10_isSign_8 : decode cX10_isSign 8 = .ok (.getfield 258, 3) := by decide +kernel
theorem dX10_isSign_11 : decode cX10_isSign 11 = .ok (.iconst 3, 1) := by decide +kernel
theorem dX10_isSign_12 : decode cX10_isSign 12 = .ok (.if_icmp .ne 17, 3) := by decide +kernel
theorem dX10_isSign_15 : decode cX10_isSign 15 = .ok (.aload_n 0, 1) := by decide +kernel
theorem dX10_isSign_16 : decode cX10_isSign 16 = .ok (.getfield 265, 3) := by decide +kernel
theorem dX10_isSign_19 : decode cX10_isSign 19 = .ok (.iload_n 1, 1) := by decide +kernel
theorem dX10_isSign_20 : decode cX10_isSign 20 = .ok (.i2l, 1) := by decide +kernel
theorem dX10_isSign_21 : decode cX10_isSign 21 = .ok (.lcmp, 1) := by decide +kernel
theorem dX10_isSign_22 : decode cX10_isSign 22 = .ok (.ifCond .ne 7, 3) := by decide +kernel
theorem dX10_isSign_25 : decode cX10_isSign 25 = .ok (.iconst 1, 1) := by decide +kernel
theorem dX10_isSign_26 : decode cX10_isSign 26 = .ok (.goto 4, 3) := by decide +kernel
theorem dX10_isSign_29 : decode cX10_isSign 29 = .ok (.iconst 0, 1) := by decide +kernel
theorem dX10_isSign_30 : decode cX10_isSign 30 = .ok (.ireturn, 1) := by decide +kernel
theorem dX10_opens_0 : decode cX10_opens 0 = .ok (.aload_n 0, 1) := by decide +kernel
theorem dX10_opens_1 : decode cX10_opens 1 = .ok (.getfield 288, 3) := by decide +kernel
theorem dX10_opens_4 : decode cX10_opens 4 = .ok (.iconst 5, 1) := by decide +kernel
theorem dX10_opens_5 : decode cX10_opens 5 = .ok (.if_icmp .ne 9, 3) := by decide +kernel
theorem dX10_opens_8 : decode cX10_opens 8 = .ok (.aload_n 0, 1) := by decide +kernel
theorem dX10_opens_9 : decode cX10_opens 9 = .ok (.invokevirtual 291, 3) := by decide +kernel
theorem dX10_opens_12 : decode cX10_opens 12 = .ok (.iconst 0, 1) := by decide +kernel
theorem dX10_opens_13 : decode cX10_opens 13 = .ok (.ireturn, 1) := by decide +kernel
theorem dX10_opens_14 : decode cX10_opens 14 = .ok (.aload_n 0, 1) := by decide +kernel
theorem dX10_opens_15 : decode cX10_opens 15 = .ok (.dup, 1) := by decide +kernel
theorem dX10_opens_16 : decode cX10_opens 16 = .ok (.getfield 288, 3) := by decide +kernel
theorem dX10_opens_19 : decode cX10_opens 19 = .ok (.iconst 1, 1) := by decide +kernel
theorem dX10_opens_20 : decode cX10_opens 20 = .ok (.iadd, 1) := by decide +kernel
theorem dX10_opens_21 : decode cX10_opens 21 = .ok (.putfield 288, 3) := by decide +kernel
theorem dX10_opens_24 : decode cX10_opens 24 = .ok (.aload_n 0, 1) := by decide +kernel
theorem dX10_opens_25 : decode cX10_opens 25 = .ok (.invokevirtual 294, 3) := by decide +kernel
theorem dX10_opens_28 : decode cX10_opens 28 = .ok (.iconst 1, 1) := by decide +kernel
theorem dX10_opens_29 : decode cX10_opens 29 = .ok (.ireturn, 1) := by decide +kernel
theorem dX10_name_0 : decode cX10_name 0 = .ok (.aload_n 0, 1) := by decide +kernel
theorem dX10_name_1 : decode cX10_name 1 = .ok (.ldc2_w 297, 3) := by decide +kernel
theorem dX10_name_4 : decode cX10_name 4 = .ok (.invokevirtual 299, 3) := by decide +kernel
theorem dX10_name_7 : decode cX10_name 7 = .ok (.ifCond .eq 8, 3) := by decide +kernel
theorem dX10_name_10 : decode cX10_name 10 = .ok (.aload_n 0, 1) := by decide +kernel
theorem dX10_name_11 : decode cX10_name 11 = .ok (.getfield 303, 3) := by decide +kernel
theorem dX10_name_14 : decode cX10_name 14 = .ok (.ireturn, 1) := by decide +kernel
theorem dX10_name_15 : decode cX10_name 15 = .ok (.aload_n 0, 1) := by decide +kernel
theorem dX10_name_16 : decode cX10_name 16 = .ok (.ldc2_w 306, 3) := by decide +kernel
theorem dX10_name_19 : decode cX10_name 19 = .ok (.invokevirtual 299, 3) := by decide +kernel
theorem dX10_name_22 : decode cX10_name 22 = .ok (.ifCond .eq 8, 3) := by decide +kernel
theorem dX10_name_25 : decode cX10_name 25 = .ok (.aload_n 0, 1) := by decide +kernel
theorem dX10_name_26 : decode cX10_name 26 = .ok (.getfield 308, 3) := by decide +kernel
theorem dX10_name_29 : decode cX10_name 29 = .ok (.ireturn, 1) := by decide +kernel
theorem dX10_name_30 : decode cX10_name 30 = .ok (.aload_n 0, 1) := by decide +kernel
theorem dX10_name_31 : decode cX10_name 31 = .ok (.ldc2_w 311, 3) := by decide +kernel
theorem dX10_name_34 : decode cX10_name 34 = .ok (.invokevirtual 299, 3) := by decide +kernel
theorem dX10_name_37 : decode cX10_name 37 = .ok (.ifCond .eq 8, 3) := by decide +kernel
theorem dX10_name_40 : decode cX10_name 40 = .ok (.aload_n 0, 1) := by decide +kernel
theorem dX10_name_41 : decode cX10_name 41 = .ok (.getfield 313, 3) := by decide +kernel
theorem dX10_name_44 : decode cX10_name 44 = .ok (.ireturn, 1) := by decide +kernel
theorem dX10_name_45 : decode cX10_name 45 = .ok (.aload_n 0, 1) := by decide +kernel
theorem dX10_name_46 : decode cX10_name 46 = .ok (.ldc2_w 316, 3) := by decide +kernel
theorem dX10_name_49 : decode cX10_name 49 = .ok (.invokevirtual 299, 3) := by decide +kernel
theorem dX10_name_52 : decode cX10_name 52 = .ok (.ifCond .eq 8, 3) := by decide +kernel
theorem dX10_name_55 : decode cX10_name 55 = .ok (.aload_n 0, 1) := by decide +kernel
theorem dX10_name_56 : decode cX10_name 56 = .ok (.getfield 318, 3) := by decide +kernel
theorem dX10_name_59 : decode cX10_name 59 = .ok (.ireturn, 1) := by decide +kernel
theorem dX10_name_60 : decode cX10_name 60 = .ok (.aload_n 0, 1) := by decide +kernel
theorem dX10_name_61 : decode cX10_name 61 = .ok (.ldc2_w 321, 3) := by decide +kernel
theorem dX10_name_64 : decode cX10_name 64 = .ok (.invokevirtual 299, 3) := by decide +kernel
theorem dX10_name_67 : decode cX10_name 67 = .ok (.ifCond .eq 8, 3) := by decide +kernel
theorem dX10_name_70 : decode cX10_name 70 = .ok (.aload_n 0, 1) := by decide +kernel
theorem dX10_name_71 : decode cX10_name 71 = .ok (.getfield 323, 3) := by decide +kernel
theorem dX10_name_74 : decode cX10_name 74 = .ok (.ireturn, 1) := by decide +kernel
theorem dX10_name_75 : decode cX10_name 75 = .ok (.aload_n 0, 1) := by decide +kernel
theorem dX10_name_76 : decode cX10_name 76 = .ok (.ldc2_w 326, 3) := by decide +kernel
theorem dX10_name_79 : decode cX10_name 79 = .ok (.invokevirtual 299, 3) := by decide +kernel
theorem dX10_name_82 : decode cX10_name 82 = .ok (.ifCond .eq 8, 3) := by decide +kernel
theorem dX10_name_85 : decode cX10_name 85 = .ok (.aload_n 0, 1) := by decide +kernel
theorem dX10_name_86 : decode cX10_name 86 = .ok (.getfield 328, 3) := by decide +kernel
theorem dX10_name_89 : decode cX10_name 89 = .ok (.ireturn, 1) := by decide +kernel
theorem dX10_name_90 : decode cX10_name 90 = .ok (.aload_n 0, 1) := by decide +kernel
theorem dX10_name_91 : decode cX10_name 91 = .ok (.invokevirtual 291, 3) := by decide +kernel
theorem dX10_name_94 : decode cX10_name 94 = .ok (.iconst 0, 1) := by decide +kernel
theorem dX10_name_95 : decode cX10_name 95 = .ok (.ireturn, 1) := by decide +kernel
theorem dX10_one_0 : decode cX10_one 0 = .ok (.iconst 0, 1) := by decide +kernel
theorem dX10_one_1 : decode cX10_one 1 = .ok (.istore_n 1, 1) := by decide +kernel
theorem dX10_one_2 : decode cX10_one 2 = .ok (.aload_n 0, 1) := by decide +kernel
theorem dX10_one_3 : decode cX10_one 3 = .ok (.bipush 45, 2) := by decide +kernel
theorem dX10_one_5 : decode cX10_one 5 = .ok (.invokevirtual 331, 3) := by decide +kernel
theorem dX10_one_8 : decode cX10_one 8 = .ok (.ifCond .eq 29, 3) := by decide +kernel
theorem dX10_one_11 : decode cX10_one 11 = .ok (.aload_n 0, 1) := by decide +kernel
theorem dX10_one_12 : decode cX10_one 12 = .ok (.invokevirtual 334, 3) := by decide +kernel
theorem dX10_one_15 : decode cX10_one 15 = .ok (.ifCond .eq 146, 3) := by decide +kernel
theorem dX10_one_18 : decode cX10_one 18 = .ok (.aload_n 0, 1) := by decide +kernel
theorem dX10_one_19 : decode cX10_one 19 = .ok (.invokevirtual 337, 3) := by decide +kernel
theorem dX10_one_22 : decode cX10_one 22 = .ok (.ineg, 1) := by decide +kernel
theorem dX10_one_23 : decode cX10_one 23 = .ok (.istore_n 1, 1) := by decide +kernel
theorem dX10_one_24 : decode cX10_one 24 = .ok (.aload_n 0, 1) := by decide +kernel
theorem dX10_one_25 : decode cX10_one 25 = .ok (.dup, 1) := by decide +kernel
theorem dX10_one_26 : decode cX10_one 26 = .ok (.getfield 288, 3) := by decide +kernel
theorem dX10_one_29 : decode cX10_one 29 = .ok (.iconst 1, 1) := by decide +kernel
theorem dX10_one_30 : decode cX10_one 30 = .ok (.isub, 1) := by decide +kernel
theorem dX10_one_31 : decode cX10_one 31 = .ok (.putfield 288, 3) := by decide +kernel
theorem dX10_one_34 : decode cX10_one 34 = .ok (.goto 127, 3) := by decide +kernel
theorem dX10_one_37 : decode cX10_one 37 = .ok (.aload_n 0, 1) := by decide +kernel
theorem dX10_one_38 : decode cX10_one 38 = .ok (.bipush 40, 2) := by decide +kernel
theorem dX10_one_40 : decode cX10_one 40 = .ok (.invokevirtual 331, 3) := by decide +kernel
theorem dX10_one_43 : decode cX10_one 43 = .ok (.ifCond .eq 52, 3) := by decide +kernel
theorem dX10_one_46 : decode cX10_one 46 = .ok (.aload_n 0, 1) := by decide +kernel
theorem dX10_one_47 : decode cX10_one 47 = .ok (.invokevirtual 334, 3) := by decide +kernel
theorem dX10_one_50 : decode cX10_one 50 = .ok (.ifCond .eq 111, 3) := by decide +kernel
theorem dX10_one_53 : decode cX10_one 53 = .ok (.aload_n 0, 1) := by decide +kernel
theorem dX10_one_54 : decode cX10_one 54 = .ok (.invokevirtual 341, 3) := by decide +kernel
theorem dX10_one_57 : decode cX10_one 57 = .ok (.istore_n 1, 1) := by decide +kernel
theorem dX10_one_58 : decode cX10_one 58 = .ok (.aload_n 0, 1) := by decide +kernel
theorem dX10_one_59 : decode cX10_one 59 = .ok (.bipush 41, 2) := by decide +kernel
theorem dX10_one_61 : decode cX10_one 61 = .ok (.invokevirtual 331, 3) := by decide +kernel
theorem dX10_one_64 : decode cX10_one 64 = .ok (.ifCond .ne 7, 3) := by decide +kernel
theorem dX10_one_67 : decode cX10_one 67 = .ok (.aload_n 0, 1) := by decide +kernel
theorem dX10_one_68 : decode cX10_one 68 = .ok (.invokevirtual 291, 3) := by decide +kernel
theorem dX10_one_71 : decode cX10_one 71 = .ok (.aload_n 0, 1) := by decide +kernel
theorem dX10_one_72 : decode cX10_one 72 = .ok (.dup, 1) := by decide +kernel
theorem dX10_one_73 : decode cX10_one 73 = .ok (.getfield 288, 3) := by decide +kernel
theorem dX10_one_76 : decode cX10_one 76 = .ok (.iconst 1, 1) := by decide +kernel
theorem dX10_one_77 : decode cX10_one 77 = .ok (.isub, 1) := by decide +kernel
theorem dX10_one_78 : decode cX10_one 78 = .ok (.putfield 288, 3) := by decide +kernel
theorem dX10_one_81 : decode cX10_one 81 = .ok (.aload_n 0, 1) := by decide +kernel
theorem dX10_one_82 : decode cX10_one 82 = .ok (.getfield 281, 3) := by decide +kernel
theorem dX10_one_85 : decode cX10_one 85 = .ok (.ifCond .ne 76, 3) := by decide +kernel
theorem dX10_one_88 : decode cX10_one 88 = .ok (.aload_n 0, 1) := by decide +kernel
theorem dX10_one_89 : decode cX10_one 89 = .ok (.invokevirtual 294, 3) := by decide +kernel
theorem dX10_one_92 : decode cX10_one 92 = .ok (.goto 69, 3) := by decide +kernel
theorem dX10_one_95 : decode cX10_one 95 = .ok (.aload_n 0, 1) := by decide +kernel
theorem dX10_one_96 : decode cX10_one 96 = .ok (.getfield 281, 3) := by decide +kernel
theorem dX10_one_99 : decode cX10_one 99 = .ok (.ifCond .ne 24, 3) := by decide +kernel
theorem dX10_one_102 : decode cX10_one 102 = .ok (.aload_n 0, 1) := by decide +kernel
theorem dX10_one_103 : decode cX10_one 103 = .ok (.getfield 258, 3) := by decide +kernel
theorem dX10_one_106 : decode cX10_one 106 = .ok (.iconst 2, 1) := by decide +kernel
theorem dX10_one_107 : decode cX10_one 107 = .ok (.if_icmp .ne 16, 3) := by decide +kernel
theorem dX10_one_110 : decode cX10_one 110 = .ok (.aload_n 0, 1) := by decide +kernel
theorem dX10_one_111 : decode cX10_one 111 = .ok (.getfield 265, 3) := by decide +kernel
theorem dX10_one_114 : decode cX10_one 114 = .ok (.l2i, 1) := by decide +kernel
theorem dX10_one_115 : decode cX10_one 115 = .ok (.istore_n 1, 1) := by decide +kernel
theorem dX10_one_116 : decode cX10_one 116 = .ok (.aload_n 0, 1) := by decide +kernel
theorem dX10_one_117 : decode cX10_one 117 = .ok (.invokevirtual 294, 3) := by decide +kernel
theorem dX10_one_120 : decode cX10_one 120 = .ok (.goto 41, 3) := by decide +kernel
theorem dX10_one_123 : decode cX10_one 123 = .ok (.aload_n 0, 1) := by decide +kernel
theorem dX10_one_124 : decode cX10_one 124 = .ok (.getfield 281, 3) := by decide +kernel
theorem dX10_one_127 : decode cX10_one 127 = .ok (.ifCond .ne 30, 3) := by decide +kernel
theorem dX10_one_130 : decode cX10_one 130 = .ok (.aload_n 0, 1) := by decide +kernel
theorem dX10_one_131 : decode cX10_one 131 = .ok (.getfield 258, 3) := by decide +kernel
theorem dX10_one_134 : decode cX10_one 134 = .ok (.iconst 1, 1) := by decide +kernel
theorem dX10_one_135 : decode cX10_one 135 = .ok (.if_icmp .ne 22, 3) := by decide +kernel
theorem dX10_one_138 : decode cX10_one 138 = .ok (.aload_n 0, 1) := by decide +kernel
theorem dX10_one_139 : decode cX10_one 139 = .ok (.invokevirtual 344, 3) := by decide +kernel
theorem dX10_one_142 : decode cX10_one 142 = .ok (.istore_n 1, 1) := by decide +kernel
theorem dX10_one_143 : decode cX10_one 143 = .ok (.aload_n 0, 1) := by decide +kernel
theorem dX10_one_144 : decode cX10_one 144 = .ok (.getfield 281, 3) := by decide +kernel
theorem dX10_one_147 : decode cX10_one 147 = .ok (.ifCond .ne 14, 3) := by decide +kernel
theorem dX10_one_150 : decode cX10_one 150 = .ok (.aload_n 0, 1) := by decide +kernel
theorem dX10_one_151 : decode cX10_one 151 = .ok (.invokevirtual 294, 3) := by decide +kernel
theorem dX10_one_154 : decode cX10_one 154 = .ok (.goto 7, 3) := by decide +kernel
theorem dX10_one_157 : decode cX10_one 157 = .ok (.aload_n 0, 1) := by decide +kernel
theorem dX10_one_158 : decode cX10_one 158 = .ok (.invokevirtual 291, 3) := by decide +kernel
theorem dX10_one_161 : decode cX10_one 161 = .ok (.iload_n 1, 1) := by decide +kernel
theorem dX10_one_162 : decode cX10_one 162 = .ok (.ireturn, 1) := by decide +kernel
theorem dX10_term_0 : decode cX10_term 0 = .ok (.aload_n 0, 1) := by decide +kernel
theorem dX10_term_1 : decode cX10_term 1 = .ok (.invokevirtual 337, 3) := by decide +kernel
theorem dX10_term_4 : decode cX10_term 4 = .ok (.istore_n 1, 1) := by decide +kernel
theorem dX10_term_5 : decode cX10_term 5 = .ok (.aload_n 0, 1) := by decide +kernel
theorem dX10_term_6 : decode cX10_term 6 = .ok (.bipush 42, 2) := by decide +kernel
theorem dX10_term_8 : decode cX10_term 8 = .ok (.invokevirtual 331, 3) := by decide +kernel
theorem dX10_term_11 : decode cX10_term 11 = .ok (.ifCond .eq 17, 3) := by decide +kernel
theorem dX10_term_14 : decode cX10_term 14 = .ok (.aload_n 0, 1) := by decide +kernel
theorem dX10_term_15 : decode cX10_term 15 = .ok (.invokevirtual 294, 3) := by decide +kernel
theorem dX10_term_18 : decode cX10_term 18 = .ok (.iload_n 1, 1) := by decide +kernel
theorem dX10_term_19 : decode cX10_term 19 = .ok (.aload_n 0, 1) := by decide +kernel
theorem dX10_term_20 : decode cX10_term 20 = .ok (.invokevirtual 337, 3) := by decide +kernel
theorem dX10_term_23 : decode cX10_term 23 = .ok (.imul, 1) := by decide +kernel
theorem dX10_term_24 : decode cX10_term 24 = .ok (.istore_n 1, 1) := by decide +kernel
theorem dX10_term_25 : decode cX10_term 25 = .ok (.goto (-20), 3) := by decide +kernel
theorem dX10_term_28 : decode cX10_term 28 = .ok (.iload_n 1, 1) := by decide +kernel
theorem dX10_term_29 : decode cX10_term 29 = .ok (.ireturn, 1) := by decide +kernel
theorem dX10_added_0 : decode cX10_added 0 = .ok (.aload_n 0, 1) := by decide +kernel
theorem dX10_added_1 : decode cX10_added 1 = .ok (.invokevirtual 347, 3) := by decide +kernel
theorem dX10_added_4 : decode cX10_added 4 = .ok (.istore_n 1, 1) := by decide +kernel
theorem dX10_added_5 : decode cX10_added 5 = .ok (.aload_n 0, 1) := by decide +kernel
theorem dX10_added_6 : decode cX10_added 6 = .ok (.bipush 43, 2) := by decide +kernel
theorem dX10_added_8 : decode cX10_added 8 = .ok (.invokevirtual 331, 3) := by decide +kernel
theorem dX10_added_11 : decode cX10_added 11 = .ok (.ifCond .ne 12, 3) := by decide +kernel
theorem dX10_added_14 : decode cX10_added 14 = .ok (.aload_n 0, 1) := by decide +kernel
theorem dX10_added_15 : decode cX10_added 15 = .ok (.bipush 45, 2) := by decide +kernel
theorem dX10_added_17 : decode cX10_added 17 = .ok (.invokevirtual 331, 3) := by decide +kernel
theorem dX10_added_20 : decode cX10_added 20 = .ok (.ifCond .eq 46, 3) := by decide +kernel
theorem dX10_added_23 : decode cX10_added 23 = .ok (.aload_n 0, 1) := by decide +kernel
theorem dX10_added_24 : decode cX10_added 24 = .ok (.getfield 265, 3) := by decide +kernel
theorem dX10_added_27 : decode cX10_added 27 = .ok (.ldc2_w 350, 3) := by decide +kernel
theorem dX10_added_30 : decode cX10_added 30 = .ok (.lcmp, 1) := by decide +kernel
theorem dX10_added_31 : decode cX10_added 31 = .ok (.ifCond .ne 7, 3) := by decide +kernel
theorem dX10_added_34 : decode cX10_added 34 = .ok (.iconst 1, 1) := by decide +kernel
theorem dX10_added_35 : decode cX10_added 35 = .ok (.goto 4, 3) := by decide +kernel
theorem dX10_added_38 : decode cX10_added 38 = .ok (.iconst 0, 1) := by decide +kernel
theorem dX10_added_39 : decode cX10_added 39 = .ok (.istore_n 2, 1) := by decide +kernel
theorem dX10_added_40 : decode cX10_added 40 = .ok (.aload_n 0, 1) := by decide +kernel
theorem dX10_added_41 : decode cX10_added 41 = .ok (.invokevirtual 294, 3) := by decide +kernel
theorem dX10_added_44 : decode cX10_added 44 = .ok (.aload_n 0, 1) := by decide +kernel
theorem dX10_added_45 : decode cX10_added 45 = .ok (.invokevirtual 347, 3) := by decide +kernel
theorem dX10_added_48 : decode cX10_added 48 = .ok (.istore_n 3, 1) := by decide +kernel
theorem dX10_added_49 : decode cX10_added 49 = .ok (.iload_n 2, 1) := by decide +kernel
theorem dX10_added_50 : decode cX10_added 50 = .ok (.ifCond .eq 9, 3) := by decide +kernel
theorem dX10_added_53 : decode cX10_added 53 = .ok (.iload_n 1, 1) := by decide +kernel
theorem dX10_added_54 : decode cX10_added 54 = .ok (.iload_n 3, 1) := by decide +kernel
theorem dX10_added_55 : decode cX10_added 55 = .ok (.iadd, 1) := by decide +kernel
theorem dX10_added_56 : decode cX10_added 56 = .ok (.goto 6, 3) := by decide +kernel
theorem dX10_added_59 : decode cX10_added 59 = .ok (.iload_n 1, 1) := by decide +kernel
theorem dX10_added_60 : decode cX10_added 60 = .ok (.iload_n 3, 1) := by decide +kernel
theorem dX10_added_61 : decode cX10_added 61 = .ok (.isub, 1) := by decide +kernel
theorem dX10_added_62 : decode cX10_added 62 = .ok (.istore_n 1, 1) := by decide +kernel
theorem dX10_added_63 : decode cX10_added 63 = .ok (.goto (-58), 3) := by decide +kernel
theorem dX10_added_66 : decode cX10_added 66 = .ok (.iload_n 1, 1) := by decide +kernel
theorem dX10_added_67 : decode cX10_added 67 = .ok (.ireturn, 1) := by decide +kernel
theorem dX10_not_0 : decode cX10_not 0 = .ok (.aload_n 0, 1) := by decide +kernel
theorem dX10_not_1 : decode cX10_not 1 = .ok (.ldc2_w 352, 3) := by decide +kernel
theorem dX10_not_4 : decode cX10_not 4 = .ok (.invokevirtual 299, 3) := by decide +kernel
theorem dX10_not_7 : decode cX10_not 7 = .ok (.ifCond .eq 37, 3) := by decide +kernel
theorem dX10_not_10 : decode cX10_not 10 = .ok (.aload_n 0, 1) := by decide +kernel
theorem dX10_not_11 : decode cX10_not 11 = .ok (.invokevirtual 334, 3) := by decide +kernel
theorem dX10_not_14 : decode cX10_not 14 = .ok (.ifCond .ne 5, 3) := by decide +kernel
theorem dX10_not_17 : decode cX10_not 17 = .ok (.iconst 0, 1) := by decide +kernel
theorem dX10_not_18 : decode cX10_not 18 = .ok (.ireturn, 1) := by decide +kernel
theorem dX10_not_19 : decode cX10_not 19 = .ok (.aload_n 0, 1) := by decide +kernel
theorem dX10_not_20 : decode cX10_not 20 = .ok (.invokevirtual 354, 3) := by decide +kernel
theorem dX10_not_23 : decode cX10_not 23 = .ok (.istore_n 1, 1) := by decide +kernel
theorem dX10_not_24 : decode cX10_not 24 = .ok (.aload_n 0, 1) := by decide +kernel
theorem dX10_not_25 : decode cX10_not 25 = .ok (.dup, 1) := by decide +kernel
theorem dX10_not_26 : decode cX10_not 26 = .ok (.getfield 288, 3) := by decide +kernel
theorem dX10_not_29 : decode cX10_not 29 = .ok (.iconst 1, 1) := by decide +kernel
theorem dX10_not_30 : decode cX10_not 30 = .ok (.isub, 1) := by decide +kernel
theorem dX10_not_31 : decode cX10_not 31 = .ok (.putfield 288, 3) := by decide +kernel
theorem dX10_not_34 : decode cX10_not 34 = .ok (.iload_n 1, 1) := by decide +kernel
theorem dX10_not_35 : decode cX10_not 35 = .ok (.ifCond .ne 7, 3) := by decide +kernel
theorem dX10_not_38 : decode cX10_not 38 = .ok (.iconst 1, 1) := by decide +kernel
theorem dX10_not_39 : decode cX10_not 39 = .ok (.goto 4, 3) := by decide +kernel
theorem dX10_not_42 : decode cX10_not 42 = .ok (.iconst 0, 1) := by decide +kernel
theorem dX10_not_43 : decode cX10_not 43 = .ok (.ireturn, 1) := by decide +kernel
theorem dX10_not_44 : decode cX10_not 44 = .ok (.aload_n 0, 1) := by decide +kernel
theorem dX10_not_45 : decode cX10_not 45 = .ok (.invokevirtual 357, 3) := by decide +kernel
theorem dX10_not_48 : decode cX10_not 48 = .ok (.istore_n 1, 1) := by decide +kernel
theorem dX10_not_49 : decode cX10_not 49 = .ok (.aload_n 0, 1) := by decide +kernel
theorem dX10_not_50 : decode cX10_not 50 = .ok (.bipush 60, 2) := by decide +kernel
theorem dX10_not_52 : decode cX10_not 52 = .ok (.invokevirtual 331, 3) := by decide +kernel
theorem dX10_not_55 : decode cX10_not 55 = .ok (.ifCond .ne 14, 3) := by decide +kernel
theorem dX10_not_58 : decode cX10_not 58 = .ok (.aload_n 0, 1) := by decide +kernel
theorem dX10_not_59 : decode cX10_not 59 = .ok (.bipush 61, 2) := by decide +kernel
theorem dX10_not_61 : decode cX10_not 61 = .ok (.invokevirtual 331, 3) := by decide +kernel
theorem dX10_not_64 : decode cX10_not 64 = .ok (.ifCond .ne 5, 3) := by decide +kernel
theorem dX10_not_67 : decode cX10_not 67 = .ok (.iload_n 1, 1) := by decide +kernel
theorem dX10_not_68 : decode cX10_not 68 = .ok (.ireturn, 1) := by decide +kernel
theorem dX10_not_69 : decode cX10_not 69 = .ok (.aload_n 0, 1) := by decide +kernel
theorem dX10_not_70 : decode cX10_not 70 = .ok (.getfield 265, 3) := by decide +kernel
theorem dX10_not_73 : decode cX10_not 73 = .ok (.ldc2_w 360, 3) := by decide +kernel
theorem dX10_not_76 : decode cX10_not 76 = .ok (.lcmp, 1) := by decide +kernel
theorem dX10_not_77 : decode cX10_not 77 = .ok (.ifCond .ne 7, 3) := by decide +kernel
theorem dX10_not_80 : decode cX10_not 80 = .ok (.iconst 1, 1) := by decide +kernel
theorem dX10_not_81 : decode cX10_not 81 = .ok (.goto 4, 3) := by decide +kernel
theorem dX10_not_84 : decode cX10_not 84 = .ok (.iconst 0, 1) := by decide +kernel
theorem dX10_not_85 : decode cX10_not 85 = .ok (.istore_n 2, 1) := by decide +kernel
theorem dX10_not_86 : decode cX10_not 86 = .ok (.aload_n 0, 1) := by decide +kernel
theorem dX10_not_87 : decode cX10_not 87 = .ok (.invokevirtual 294, 3) := by decide +kernel
theorem dX10_not_90 : decode cX10_not 90 = .ok (.aload_n 0, 1) := by decide +kernel
theorem dX10_not_91 : decode cX10_not 91 = .ok (.invokevirtual 357, 3) := by decide +kernel
theorem dX10_not_94 : decode cX10_not 94 = .ok (.istore_n 3, 1) := by decide +kernel
theorem dX10_not_95 : decode cX10_not 95 = .ok (.iload_n 2, 1) := by decide +kernel
theorem dX10_not_96 : decode cX10_not 96 = .ok (.ifCond .eq 11, 3) := by decide +kernel
theorem dX10_not_99 : decode cX10_not 99 = .ok (.iload_n 1, 1) := by decide +kernel
theorem dX10_not_100 : decode cX10_not 100 = .ok (.iload_n 3, 1) := by decide +kernel
theorem dX10_not_101 : decode cX10_not 101 = .ok (.if_icmp .ge 15, 3) := by decide +kernel
theorem dX10_not_104 : decode cX10_not 104 = .ok (.goto 8, 3) := by decide +kernel
theorem dX10_not_107 : decode cX10_not 107 = .ok (.iload_n 1, 1) := by decide +kernel
theorem dX10_not_108 : decode cX10_not 108 = .ok (.iload_n 3, 1) := by decide +kernel
theorem dX10_not_109 : decode cX10_not 109 = .ok (.if_icmp .ne 7, 3) := by decide +kernel
theorem dX10_not_112 : decode cX10_not 112 = .ok (.iconst 1, 1) := by decide +kernel
theorem dX10_not_113 : decode cX10_not 113 = .ok (.goto 4, 3) := by decide +kernel
theorem dX10_not_116 : decode cX10_not 116 = .ok (.iconst 0, 1) := by decide +kernel
theorem dX10_not_117 : decode cX10_not 117 = .ok (.ireturn, 1) := by decide +kernel
theorem dX10_both_0 : decode cX10_both 0 = .ok (.aload_n 0, 1) := by decide +kernel
theorem dX10_both_1 : decode cX10_both 1 = .ok (.invokevirtual 354, 3) := by decide +kernel
theorem dX10_both_4 : decode cX10_both 4 = .ok (.istore_n 1, 1) := by decide +kernel
theorem dX10_both_5 : decode cX10_both 5 = .ok (.aload_n 0, 1) := by decide +kernel
theorem dX10_both_6 : decode cX10_both 6 = .ok (.ldc2_w 362, 3) := by decide +kernel
theorem dX10_both_9 : decode cX10_both 9 = .ok (.invokevirtual 299, 3) := by decide +kernel
theorem dX10_both_12 : decode cX10_both 12 = .ok (.ifCond .eq 29, 3) := by decide +kernel
theorem dX10_both_15 : decode cX10_both 15 = .ok (.aload_n 0, 1) := by decide +kernel
theorem dX10_both_16 : decode cX10_both 16 = .ok (.invokevirtual 294, 3) := by decide +kernel
theorem dX10_both_19 : decode cX10_both 19 = .ok (.aload_n 0, 1) := by decide +kernel
theorem dX10_both_20 : decode cX10_both 20 = .ok (.invokevirtual 354, 3) := by decide +kernel
theorem dX10_both_23 : decode cX10_both 23 = .ok (.istore_n 2, 1) := by decide +kernel
theorem dX10_both_24 : decode cX10_both 24 = .ok (.iload_n 1, 1) := by decide +kernel
theorem dX10_both_25 : decode cX10_both 25 = .ok (.ifCond .eq 11, 3) := by decide +kernel
theorem dX10_both_28 : decode cX10_both 28 = .ok (.iload_n 2, 1) := by decide +kernel
theorem dX10_both_29 : decode cX10_both 29 = .ok (.ifCond .eq 7, 3) := by decide +kernel
theorem dX10_both_32 : decode cX10_both 32 = .ok (.iconst 1, 1) := by decide +kernel
theorem dX10_both_33 : decode cX10_both 33 = .ok (.goto 4, 3) := by decide +kernel
theorem dX10_both_36 : decode cX10_both 36 = .ok (.iconst 0, 1) := by decide +kernel
theorem dX10_both_37 : decode cX10_both 37 = .ok (.istore_n 1, 1) := by decide +kernel
theorem dX10_both_38 : decode cX10_both 38 = .ok (.goto (-33), 3) := by decide +kernel
theorem dX10_both_41 : decode cX10_both 41 = .ok (.iload_n 1, 1) := by decide +kernel
theorem dX10_both_42 : decode cX10_both 42 = .ok (.ireturn, 1) := by decide +kernel
theorem dX10_either_0 : decode cX10_either 0 = .ok (.aload_n 0, 1) := by decide +kernel
theorem dX10_either_1 : decode cX10_either 1 = .ok (.invokevirtual 364, 3) := by decide +kernel
theorem dX10_either_4 : decode cX10_either 4 = .ok (.istore_n 1, 1) := by decide +kernel
theorem dX10_either_5 : decode cX10_either 5 = .ok (.aload_n 0, 1) := by decide +kernel
theorem dX10_either_6 : decode cX10_either 6 = .ok (.ldc2_w 367, 3) := by decide +kernel
theorem dX10_either_9 : decode cX10_either 9 = .ok (.invokevirtual 299, 3) := by decide +kernel
theorem dX10_either_12 : decode cX10_either 12 = .ok (.ifCond .eq 29, 3) := by decide +kernel
theorem dX10_either_15 : decode cX10_either 15 = .ok (.aload_n 0, 1) := by decide +kernel
theorem dX10_either_16 : decode cX10_either 16 = .ok (.invokevirtual 294, 3) := by decide +kernel
theorem dX10_either_19 : decode cX10_either 19 = .ok (.aload_n 0, 1) := by decide +kernel
theorem dX10_either_20 : decode cX10_either 20 = .ok (.invokevirtual 364, 3) := by decide +kernel
theorem dX10_either_23 : decode cX10_either 23 = .ok (.istore_n 2, 1) := by decide +kernel
theorem dX10_either_24 : decode cX10_either 24 = .ok (.iload_n 1, 1) := by decide +kernel
theorem dX10_either_25 : decode cX10_either 25 = .ok (.ifCond .ne 7, 3) := by decide +kernel
theorem dX10_either_28 : decode cX10_either 28 = .ok (.iload_n 2, 1) := by decide +kernel
theorem dX10_either_29 : decode cX10_either 29 = .ok (.ifCond .eq 7, 3) := by decide +kernel
theorem dX10_either_32 : decode cX10_either 32 = .ok (.iconst 1, 1) := by decide +kernel
theorem dX10_either_33 : decode cX10_either 33 = .ok (.goto 4, 3) := by decide +kernel
theorem dX10_either_36 : decode cX10_either 36 = .ok (.iconst 0, 1) := by decide +kernel
theorem dX10_either_37 : decode cX10_either 37 = .ok (.istore_n 1, 1) := by decide +kernel
theorem dX10_either_38 : decode cX10_either 38 = .ok (.goto (-33), 3) := by decide +kernel
theorem dX10_either_41 : decode cX10_either 41 = .ok (.iload_n 1, 1) := by decide +kernel
theorem dX10_either_42 : decode cX10_either 42 = .ok (.ireturn, 1) := by decide +kernel
theorem dX10_part_0 : decode cX10_part 0 = .ok (.aload_n 0, 1) := by decide +kernel
theorem dX10_part_1 : decode cX10_part 1 = .ok (.lload_n 1, 1) := by decide +kernel
theorem dX10_part_2 : decode cX10_part 2 = .ok (.invokevirtual 299, 3) := by decide +kernel
theorem dX10_part_5 : decode cX10_part 5 = .ok (.ifCond .ne 7, 3) := by decide +kernel
theorem dX10_part_8 : decode cX10_part 8 = .ok (.aload_n 0, 1) := by decide +kernel
theorem dX10_part_9 : decode cX10_part 9 = .ok (.invokevirtual 291, 3) := by decide +kernel
theorem dX10_part_12 : decode cX10_part 12 = .ok (.aload_n 0, 1) := by decide +kernel
theorem dX10_part_13 : decode cX10_part 13 = .ok (.getfield 281, 3) := by decide +kernel
theorem dX10_part_16 : decode cX10_part 16 = .ok (.ifCond .ne 7, 3) := by decide +kernel
theorem dX10_part_19 : decode cX10_part 19 = .ok (.aload_n 0, 1) := by decide +kernel
theorem dX10_part_20 : decode cX10_part 20 = .ok (.invokevirtual 294, 3) := by decide +kernel
theorem dX10_part_23 : decode cX10_part 23 = .ok (.aload_n 0, 1) := by decide +kernel
theorem dX10_part_24 : decode cX10_part 24 = .ok (.getfield 281, 3) := by decide +kernel
theorem dX10_part_27 : decode cX10_part 27 = .ok (.ifCond .eq 7, 3) := by decide +kernel
theorem dX10_part_30 : decode cX10_part 30 = .ok (.iconst 0, 1) := by decide +kernel
theorem dX10_part_31 : decode cX10_part 31 = .ok (.goto 7, 3) := by decide +kernel
theorem dX10_part_34 : decode cX10_part 34 = .ok (.aload_n 0, 1) := by decide +kernel
theorem dX10_part_35 : decode cX10_part 35 = .ok (.invokevirtual 341, 3) := by decide +kernel
theorem dX10_part_38 : decode cX10_part 38 = .ok (.istore_n 3, 1) := by decide +kernel
theorem dX10_part_39 : decode cX10_part 39 = .ok (.aload_n 0, 1) := by decide +kernel
theorem dX10_part_40 : decode cX10_part 40 = .ok (.bipush 59, 2) := by decide +kernel
theorem dX10_part_42 : decode cX10_part 42 = .ok (.invokevirtual 331, 3) := by decide +kernel
theorem dX10_part_45 : decode cX10_part 45 = .ok (.ifCond .ne 7, 3) := by decide +kernel
theorem dX10_part_48 : decode cX10_part 48 = .ok (.aload_n 0, 1) := by decide +kernel
theorem dX10_part_49 : decode cX10_part 49 = .ok (.invokevirtual 291, 3) := by decide +kernel
theorem dX10_part_52 : decode cX10_part 52 = .ok (.aload_n 0, 1) := by decide +kernel
theorem dX10_part_53 : decode cX10_part 53 = .ok (.getfield 281, 3) := by decide +kernel
theorem dX10_part_56 : decode cX10_part 56 = .ok (.ifCond .ne 7, 3) := by decide +kernel
theorem dX10_part_59 : decode cX10_part 59 = .ok (.aload_n 0, 1) := by decide +kernel
theorem dX10_part_60 : decode cX10_part 60 = .ok (.invokevirtual 294, 3) := by decide +kernel
theorem dX10_part_63 : decode cX10_part 63 = .ok (.iload_n 3, 1) := by decide +kernel
theorem dX10_part_64 : decode cX10_part 64 = .ok (.ireturn, 1) := by decide +kernel
theorem dX10_read_0 : decode cX10_read 0 = .ok (.aload_n 0, 1) := by decide +kernel
theorem dX10_read_1 : decode cX10_read 1 = .ok (.sipush 160, 3) := by decide +kernel
theorem dX10_read_4 : decode cX10_read 4 = .ok (.iload_n 1, 1) := by decide +kernel
theorem dX10_read_5 : decode cX10_read 5 = .ok (.imul, 1) := by decide +kernel
theorem dX10_read_6 : decode cX10_read 6 = .ok (.putfield 246, 3) := by decide +kernel
theorem dX10_read_9 : decode cX10_read 9 = .ok (.aload_n 0, 1) := by decide +kernel
theorem dX10_read_10 : decode cX10_read 10 = .ok (.aload_n 0, 1) := by decide +kernel
theorem dX10_read_11 : decode cX10_read 11 = .ok (.getfield 17, 3) := by decide +kernel
theorem dX10_read_14 : decode cX10_read 14 = .ok (.iload_n 1, 1) := by decide +kernel
theorem dX10_read_15 : decode cX10_read 15 = .ok (.iaload, 1) := by decide +kernel
theorem dX10_read_16 : decode cX10_read 16 = .ok (.putfield 243, 3) := by decide +kernel
theorem dX10_read_19 : decode cX10_read 19 = .ok (.aload_n 0, 1) := by decide +kernel
theorem dX10_read_20 : decode cX10_read 20 = .ok (.iconst 0, 1) := by decide +kernel
theorem dX10_read_21 : decode cX10_read 21 = .ok (.putfield 249, 3) := by decide +kernel
theorem dX10_read_24 : decode cX10_read 24 = .ok (.aload_n 0, 1) := by decide +kernel
theorem dX10_read_25 : decode cX10_read 25 = .ok (.iconst 0, 1) := by decide +kernel
theorem dX10_read_26 : decode cX10_read 26 = .ok (.putfield 288, 3) := by decide +kernel
theorem dX10_read_29 : decode cX10_read 29 = .ok (.aload_n 0, 1) := by decide +kernel
theorem dX10_read_30 : decode cX10_read 30 = .ok (.iconst 0, 1) := by decide +kernel
theorem dX10_read_31 : decode cX10_read 31 = .ok (.putfield 281, 3) := by decide +kernel
theorem dX10_read_34 : decode cX10_read 34 = .ok (.aload_n 0, 1) := by decide +kernel
theorem dX10_read_35 : decode cX10_read 35 = .ok (.invokevirtual 294, 3) := by decide +kernel
theorem dX10_read_38 : decode cX10_read 38 = .ok (.aload_n 0, 1) := by decide +kernel
theorem dX10_read_39 : decode cX10_read 39 = .ok (.ldc2_w 369, 3) := by decide +kernel
theorem dX10_read_42 : decode cX10_read 42 = .ok (.invokevirtual 371, 3) := by decide +kernel
theorem dX10_read_45 : decode cX10_read 45 = .ok (.istore_n 3, 1) := by decide +kernel
theorem dX10_read_46 : decode cX10_read 46 = .ok (.aload_n 0, 1) := by decide +kernel
theorem dX10_read_47 : decode cX10_read 47 = .ok (.getfield 281, 3) := by decide +kernel
theorem dX10_read_50 : decode cX10_read 50 = .ok (.ifCond .eq 7, 3) := by decide +kernel
theorem dX10_read_53 : decode cX10_read 53 = .ok (.iconst 0, 1) := by decide +kernel
theorem dX10_read_54 : decode cX10_read 54 = .ok (.goto 10, 3) := by decide +kernel
theorem dX10_read_57 : decode cX10_read 57 = .ok (.aload_n 0, 1) := by decide +kernel
theorem dX10_read_58 : decode cX10_read 58 = .ok (.ldc2_w 375, 3) := by decide +kernel
theorem dX10_read_61 : decode cX10_read 61 = .ok (.invokevirtual 371, 3) := by decide +kernel
theorem dX10_read_64 : decode cX10_read 64 = .ok (.istore 4, 2) := by decide +kernel
theorem dX10_read_66 : decode cX10_read 66 = .ok (.aload_n 0, 1) := by decide +kernel
theorem dX10_read_67 : decode cX10_read 67 = .ok (.getfield 281, 3) := by decide +kernel
theorem dX10_read_70 : decode cX10_read 70 = .ok (.ifCond .eq 7, 3) := by decide +kernel
theorem dX10_read_73 : decode cX10_read 73 = .ok (.iconst 0, 1) := by decide +kernel
theorem dX10_read_74 : decode cX10_read 74 = .ok (.goto 10, 3) := by decide +kernel
theorem dX10_read_77 : decode cX10_read 77 = .ok (.aload_n 0, 1) := by decide +kernel
theorem dX10_read_78 : decode cX10_read 78 = .ok (.ldc2_w 377, 3) := by decide +kernel
theorem dX10_read_81 : decode cX10_read 81 = .ok (.invokevirtual 371, 3) := by decide +kernel
theorem dX10_read_84 : decode cX10_read 84 = .ok (.istore 5, 2) := by decide +kernel
theorem dX10_read_86 : decode cX10_read 86 = .ok (.aload_n 0, 1) := by decide +kernel
theorem dX10_read_87 : decode cX10_read 87 = .ok (.getfield 281, 3) := by decide +kernel
theorem dX10_read_90 : decode cX10_read 90 = .ok (.ifCond .ne 14, 3) := by decide +kernel
theorem dX10_read_93 : decode cX10_read 93 = .ok (.aload_n 0, 1) := by decide +kernel
theorem dX10_read_94 : decode cX10_read 94 = .ok (.getfield 258, 3) := by decide +kernel
theorem dX10_read_97 : decode cX10_read 97 = .ok (.ifCond .eq 7, 3) := by decide +kernel
theorem dX10_read_100 : decode cX10_read 100 = .ok (.aload_n 0, 1) := by decide +kernel
theorem dX10_read_101 : decode cX10_read 101 = .ok (.invokevirtual 291, 3) := by decide +kernel
theorem dX10_read_104 : decode cX10_read 104 = .ok (.iload_n 2, 1) := by decide +kernel
theorem dX10_read_105 : decode cX10_read 105 = .ok (.ifCond .ne 7, 3) := by decide +kernel
theorem dX10_read_108 : decode cX10_read 108 = .ok (.iload_n 3, 1) := by decide +kernel
theorem dX10_read_109 : decode cX10_read 109 = .ok (.goto 15, 3) := by decide +kernel
theorem dX10_read_112 : decode cX10_read 112 = .ok (.iload_n 2, 1) := by decide +kernel
theorem dX10_read_113 : decode cX10_read 113 = .ok (.iconst 1, 1) := by decide +kernel
theorem dX10_read_114 : decode cX10_read 114 = .ok (.if_icmp .ne 8, 3) := by decide +kernel
theorem dX10_read_117 : decode cX10_read 117 = .ok (.iload 4, 2) := by decide +kernel
theorem dX10_read_119 : decode cX10_read 119 = .ok (.goto 5, 3) := by decide +kernel
theorem dX10_read_122 : decode cX10_read 122 = .ok (.iload 5, 2) := by decide +kernel
theorem dX10_read_124 : decode cX10_read 124 = .ok (.ireturn, 1) := by decide +kernel
theorem dX10_text_0 : decode cX10_text 0 = .ok (.aload_n 0, 1) := by decide +kernel
theorem dX10_text_1 : decode cX10_text 1 = .ok (.getfield 141, 3) := by decide +kernel
theorem dX10_text_4 : decode cX10_text 4 = .ok (.bipush 6, 2) := by decide +kernel
theorem dX10_text_6 : decode cX10_text 6 = .ok (.if_icmp .ne 6, 3) := by decide +kernel
theorem dX10_text_9 : decode cX10_text 9 = .ok (.bipush (-4), 2) := by decide +kernel
theorem dX10_text_11 : decode cX10_text 11 = .ok (.ireturn, 1) := by decide +kernel
theorem dX10_text_12 : decode cX10_text 12 = .ok (.iconst 0, 1) := by decide +kernel
theorem dX10_text_13 : decode cX10_text 13 = .ok (.istore_n 1, 1) := by decide +kernel
theorem dX10_text_14 : decode cX10_text 14 = .ok (.iload_n 1, 1) := by decide +kernel
theorem dX10_text_15 : decode cX10_text 15 = .ok (.aload_n 0, 1) := by decide +kernel
theorem dX10_text_16 : decode cX10_text 16 = .ok (.getfield 240, 3) := by decide +kernel
theorem dX10_text_19 : decode cX10_text 19 = .ok (.if_icmp .ge 30, 3) := by decide +kernel
theorem dX10_text_22 : decode cX10_text 22 = .ok (.aload_n 0, 1) := by decide +kernel
theorem dX10_text_23 : decode cX10_text 23 = .ok (.getfield 13, 3) := by decide +kernel
theorem dX10_text_26 : decode cX10_text 26 = .ok (.sipush 160, 3) := by decide +kernel
theorem dX10_text_29 : decode cX10_text 29 = .ok (.aload_n 0, 1) := by decide +kernel
theorem dX10_text_30 : decode cX10_text 30 = .ok (.getfield 141, 3) := by decide +kernel
theorem dX10_text_33 : decode cX10_text 33 = .ok (.imul, 1) := by decide +kernel
theorem dX10_text_34 : decode cX10_text 34 = .ok (.iload_n 1, 1) := by decide +kernel
theorem dX10_text_35 : decode cX10_text 35 = .ok (.iadd, 1) := by decide +kernel
theorem dX10_text_36 : decode cX10_text 36 = .ok (.aload_n 0, 1) := by decide +kernel
theorem dX10_text_37 : decode cX10_text 37 = .ok (.getfield 20, 3) := by decide +kernel
theorem dX10_text_40 : decode cX10_text 40 = .ok (.iload_n 1, 1) := by decide +kernel
theorem dX10_text_41 : decode cX10_text 41 = .ok (.iaload, 1) := by decide +kernel
theorem dX10_text_42 : decode cX10_text 42 = .ok (.iastore, 1) := by decide +kernel
theorem dX10_text_43 : decode cX10_text 43 = .ok (.iinc 1 1, 3) := by decide +kernel
theorem dX10_text_46 : decode cX10_text 46 = .ok (.goto (-32), 3) := by decide +kernel
theorem dX10_text_49 : decode cX10_text 49 = .ok (.aload_n 0, 1) := by decide +kernel
theorem dX10_text_50 : decode cX10_text 50 = .ok (.getfield 17, 3) := by decide +kernel
theorem dX10_text_53 : decode cX10_text 53 = .ok (.aload_n 0, 1) := by decide +kernel
theorem dX10_text_54 : decode cX10_text 54 = .ok (.getfield 141, 3) := by decide +kernel
theorem dX10_text_57 : decode cX10_text 57 = .ok (.aload_n 0, 1) := by decide +kernel
theorem dX10_text_58 : decode cX10_text 58 = .ok (.getfield 240, 3) := by decide +kernel
theorem dX10_text_61 : decode cX10_text 61 = .ok (.iastore, 1) := by decide +kernel
theorem dX10_text_62 : decode cX10_text 62 = .ok (.aload_n 0, 1) := by decide +kernel
theorem dX10_text_63 : decode cX10_text 63 = .ok (.iconst 0, 1) := by decide +kernel
theorem dX10_text_64 : decode cX10_text 64 = .ok (.putfield 240, 3) := by decide +kernel
theorem dX10_text_67 : decode cX10_text 67 = .ok (.aload_n 0, 1) := by decide +kernel
theorem dX10_text_68 : decode cX10_text 68 = .ok (.aload_n 0, 1) := by decide +kernel
theorem dX10_text_69 : decode cX10_text 69 = .ok (.getfield 141, 3) := by decide +kernel
theorem dX10_text_72 : decode cX10_text 72 = .ok (.iconst 0, 1) := by decide +kernel
theorem dX10_text_73 : decode cX10_text 73 = .ok (.invokevirtual 379, 3) := by decide +kernel
theorem dX10_text_76 : decode cX10_text 76 = .ok (.istore_n 1, 1) := by decide +kernel
theorem dX10_text_77 : decode cX10_text 77 = .ok (.aload_n 0, 1) := by decide +kernel
theorem dX10_text_78 : decode cX10_text 78 = .ok (.getfield 281, 3) := by decide +kernel
theorem dX10_text_81 : decode cX10_text 81 = .ok (.ifCond .eq 11, 3) := by decide +kernel
theorem dX10_text_84 : decode cX10_text 84 = .ok (.bipush (-100), 2) := by decide +kernel
theorem dX10_text_86 : decode cX10_text 86 = .ok (.aload_n 0, 1) := by decide +kernel
theorem dX10_text_87 : decode cX10_text 87 = .ok (.getfield 285, 3) := by decide +kernel
theorem dX10_text_90 : decode cX10_text 90 = .ok (.isub, 1) := by decide +kernel
theorem dX10_text_91 : decode cX10_text 91 = .ok (.ireturn, 1) := by decide +kernel
theorem dX10_text_92 : decode cX10_text 92 = .ok (.aload_n 0, 1) := by decide +kernel
theorem dX10_text_93 : decode cX10_text 93 = .ok (.dup, 1) := by decide +kernel
theorem dX10_text_94 : decode cX10_text 94 = .ok (.getfield 141, 3) := by decide +kernel
theorem dX10_text_97 : decode cX10_text 97 = .ok (.iconst 1, 1) := by decide +kernel
theorem dX10_text_98 : decode cX10_text 98 = .ok (.iadd, 1) := by decide +kernel
theorem dX10_text_99 : decode cX10_text 99 = .ok (.putfield 141, 3) := by decide +kernel
theorem dX10_text_102 : decode cX10_text 102 = .ok (.aload_n 0, 1) := by decide +kernel
theorem dX10_text_103 : decode cX10_text 103 = .ok (.getfield 141, 3) := by decide +kernel
theorem dX10_text_106 : decode cX10_text 106 = .ok (.iconst 1, 1) := by decide +kernel
theorem dX10_text_107 : decode cX10_text 107 = .ok (.isub, 1) := by decide +kernel
theorem dX10_text_108 : decode cX10_text 108 = .ok (.ireturn, 1) := by decide +kernel
theorem dX10_force_0 : decode cX10_force 0 = .ok (.iload_n 1, 1) := by decide +kernel
theorem dX10_force_1 : decode cX10_force 1 = .ok (.i2l, 1) := by decide +kernel
theorem dX10_force_2 : decode cX10_force 2 = .ok (.lconst 0, 1) := by decide +kernel
theorem dX10_force_3 : decode cX10_force 3 = .ok (.aload_n 0, 1) := by decide +kernel
theorem dX10_force_4 : decode cX10_force 4 = .ok (.getfield 141, 3) := by decide +kernel
theorem dX10_force_7 : decode cX10_force 7 = .ok (.iconst 1, 1) := by decide +kernel
theorem dX10_force_8 : decode cX10_force 8 = .ok (.isub, 1) := by decide +kernel
theorem dX10_force_9 : decode cX10_force 9 = .ok (.i2l, 1) := by decide +kernel
theorem dX10_force_10 : decode cX10_force 10 = .ok (.invokestatic 149, 3) := by decide +kernel
theorem dX10_force_13 : decode cX10_force 13 = .ok (.ifCond .ne 6, 3) := by decide +kernel
theorem dX10_force_16 : decode cX10_force 16 = .ok (.bipush (-2), 2) := by decide +kernel
theorem dX10_force_18 : decode cX10_force 18 = .ok (.ireturn, 1) := by decide +kernel
theorem dX10_force_19 : decode cX10_force 19 = .ok (.aload_n 0, 1) := by decide +kernel
theorem dX10_force_20 : decode cX10_force 20 = .ok (.getfield 382, 3) := by decide +kernel
theorem dX10_force_23 : decode cX10_force 23 = .ok (.istore_n 2, 1) := by decide +kernel
theorem dX10_force_24 : decode cX10_force 24 = .ok (.aload_n 0, 1) := by decide +kernel
theorem dX10_force_25 : decode cX10_force 25 = .ok (.iload_n 1, 1) := by decide +kernel
theorem dX10_force_26 : decode cX10_force 26 = .ok (.putfield 382, 3) := by decide +kernel
theorem dX10_force_29 : decode cX10_force 29 = .ok (.iload_n 2, 1) := by decide +kernel
theorem dX10_force_30 : decode cX10_force 30 = .ok (.ireturn, 1) := by decide +kernel
theorem dX10_within_0 : decode cX10_within 0 = .ok (.iload_n 0, 1) := by decide +kernel
theorem dX10_within_1 : decode cX10_within 1 = .ok (.iload_n 1, 1) := by decide +kernel
theorem dX10_within_2 : decode cX10_within 2 = .ok (.if_icmp .ge 7, 3) := by decide +kernel
theorem dX10_within_5 : decode cX10_within 5 = .ok (.iload_n 1, 1) := by decide +kernel
theorem dX10_within_6 : decode cX10_within 6 = .ok (.goto 13, 3) := by decide +kernel
theorem dX10_within_9 : decode cX10_within 9 = .ok (.iload_n 0, 1) := by decide +kernel
theorem dX10_within_10 : decode cX10_within 10 = .ok (.iload_n 2, 1) := by decide +kernel
theorem dX10_within_11 : decode cX10_within 11 = .ok (.if_icmp .le 7, 3) := by decide +kernel
theorem dX10_within_14 : decode cX10_within 14 = .ok (.iload_n 2, 1) := by decide +kernel
theorem dX10_within_15 : decode cX10_within 15 = .ok (.goto 4, 3) := by decide +kernel
theorem dX10_within_18 : decode cX10_within 18 = .ok (.iload_n 0, 1) := by decide +kernel
theorem dX10_within_19 : decode cX10_within 19 = .ok (.ireturn, 1) := by decide +kernel
theorem dX10_saysOf_0 : decode cX10_saysOf 0 = .ok (.aload_n 0, 1) := by decide +kernel
theorem dX10_saysOf_1 : decode cX10_saysOf 1 = .ok (.aload_n 0, 1) := by decide +kernel
theorem dX10_saysOf_2 : decode cX10_saysOf 2 = .ok (.iload_n 1, 1) := by decide +kernel
theorem dX10_saysOf_3 : decode cX10_saysOf 3 = .ok (.invokevirtual 202, 3) := by decide +kernel
theorem dX10_saysOf_6 : decode cX10_saysOf 6 = .ok (.invokestatic 385, 3) := by decide +kernel
theorem dX10_saysOf_9 : decode cX10_saysOf 9 = .ok (.putfield 303, 3) := by decide +kernel
theorem dX10_saysOf_12 : decode cX10_saysOf 12 = .ok (.aload_n 0, 1) := by decide +kernel
theorem dX10_saysOf_13 : decode cX10_saysOf 13 = .ok (.aload_n 0, 1) := by decide +kernel
theorem dX10_saysOf_14 : decode cX10_saysOf 14 = .ok (.iload_n 1, 1) := by decide +kernel
theorem dX10_saysOf_15 : decode cX10_saysOf 15 = .ok (.invokevirtual 206, 3) := by decide +kernel
theorem dX10_saysOf_18 : decode cX10_saysOf 18 = .ok (.invokestatic 385, 3) := by decide +kernel
theorem dX10_saysOf_21 : decode cX10_saysOf 21 = .ok (.putfield 308, 3) := by decide +kernel
theorem dX10_saysOf_24 : decode cX10_saysOf 24 = .ok (.aload_n 0, 1) := by decide +kernel
theorem dX10_saysOf_25 : decode cX10_saysOf 25 = .ok (.aload_n 0, 1) := by decide +kernel
theorem dX10_saysOf_26 : decode cX10_saysOf 26 = .ok (.iload_n 1, 1) := by decide +kernel
theorem dX10_saysOf_27 : decode cX10_saysOf 27 = .ok (.invokevirtual 212, 3) := by decide +kernel
theorem dX10_saysOf_30 : decode cX10_saysOf 30 = .ok (.putfield 313, 3) := by decide +kernel
theorem dX10_saysOf_33 : decode cX10_saysOf 33 = .ok (.aload_n 0, 1) := by decide +kernel
theorem dX10_saysOf_34 : decode cX10_saysOf 34 = .ok (.aload_n 0, 1) := by decide +kernel
theorem dX10_saysOf_35 : decode cX10_saysOf 35 = .ok (.getfield 23, 3) := by decide +kernel
theorem dX10_saysOf_38 : decode cX10_saysOf 38 = .ok (.aload_n 0, 1) := by decide +kernel
theorem dX10_saysOf_39 : decode cX10_saysOf 39 = .ok (.getfield 50, 3) := by decide +kernel
theorem dX10_saysOf_42 : decode cX10_saysOf 42 = .ok (.iload_n 1, 1) := by decide +kernel
theorem dX10_saysOf_43 : decode cX10_saysOf 43 = .ok (.iaload, 1) := by decide +kernel
theorem dX10_saysOf_44 : decode cX10_saysOf 44 = .ok (.iaload, 1) := by decide +kernel
theorem dX10_saysOf_45 : decode cX10_saysOf 45 = .ok (.putfield 318, 3) := by decide +kernel
theorem dX10_saysOf_48 : decode cX10_saysOf 48 = .ok (.aload_n 0, 1) := by decide +kernel
theorem dX10_saysOf_49 : decode cX10_saysOf 49 = .ok (.aload_n 0, 1) := by decide +kernel
theorem dX10_saysOf_50 : decode cX10_saysOf 50 = .ok (.getfield 26, 3) := by decide +kernel
theorem dX10_saysOf_53 : decode cX10_saysOf 53 = .ok (.aload_n 0, 1) := by decide +kernel
theorem dX10_saysOf_54 : decode cX10_saysOf 54 = .ok (.getfield 50, 3) := by decide +kernel
theorem dX10_saysOf_57 : decode cX10_saysOf 57 = .ok (.iload_n 1, 1) := by decide +kernel
theorem dX10_saysOf_58 : decode cX10_saysOf 58 = .ok (.iaload, 1) := by decide +kernel
theorem dX10_saysOf_59 : decode cX10_saysOf 59 = .ok (.iaload, 1) := by decide +kernel
theorem dX10_saysOf_60 : decode cX10_saysOf 60 = .ok (.putfield 323, 3) := by decide +kernel
theorem dX10_saysOf_63 : decode cX10_saysOf 63 = .ok (.aload_n 0, 1) := by decide +kernel
theorem dX10_saysOf_64 : decode cX10_saysOf 64 = .ok (.aload_n 0, 1) := by decide +kernel
theorem dX10_saysOf_65 : decode cX10_saysOf 65 = .ok (.aload_n 0, 1) := by decide +kernel
theorem dX10_saysOf_66 : decode cX10_saysOf 66 = .ok (.getfield 50, 3) := by decide +kernel
theorem dX10_saysOf_69 : decode cX10_saysOf 69 = .ok (.iload_n 1, 1) := by decide +kernel
theorem dX10_saysOf_70 : decode cX10_saysOf 70 = .ok (.iaload, 1) := by decide +kernel
theorem dX10_saysOf_71 : decode cX10_saysOf 71 = .ok (.invokevirtual 388, 3) := by decide +kernel
theorem dX10_saysOf_74 : decode cX10_saysOf 74 = .ok (.putfield 328, 3) := by decide +kernel
theorem dX10_saysOf_77 : decode cX10_saysOf 77 = .ok (.aload_n 0, 1) := by decide +kernel
theorem dX10_saysOf_78 : decode cX10_saysOf 78 = .ok (.aload_n 0, 1) := by decide +kernel
theorem dX10_saysOf_79 : decode cX10_saysOf 79 = .ok (.getfield 382, 3) := by decide +kernel
theorem dX10_saysOf_82 : decode cX10_saysOf 82 = .ok (.iload_n 2, 1) := by decide +kernel
theorem dX10_saysOf_83 : decode cX10_saysOf 83 = .ok (.invokevirtual 379, 3) := by decide +kernel
theorem dX10_saysOf_86 : decode cX10_saysOf 86 = .ok (.ireturn, 1) := by decide +kernel
theorem dX10_doubtOf_0 : decode cX10_doubtOf 0 = .ok (.aload_n 0, 1) := by decide +kernel
theorem dX10_doubtOf_1 : decode cX10_doubtOf 1 = .ok (.iload_n 1, 1) := by decide +kernel
theorem dX10_doubtOf_2 : decode cX10_doubtOf 2 = .ok (.iconst 0, 1) := by decide +kernel
theorem dX10_doubtOf_3 : decode cX10_doubtOf 3 = .ok (.invokevirtual 391, 3) := by decide +kernel
theorem dX10_doubtOf_6 : decode cX10_doubtOf 6 = .ok (.iconst 0, 1) := by decide +kernel
theorem dX10_doubtOf_7 : decode cX10_doubtOf 7 = .ok (.bipush 99, 2) := by decide +kernel
theorem dX10_doubtOf_9 : decode cX10_doubtOf 9 = .ok (.invokestatic 394, 3) := by decide +kernel
theorem dX10_doubtOf_12 : decode cX10_doubtOf 12 = .ok (.ireturn, 1) := by decide +kernel
theorem dX10_priceOf_0 : decode cX10_priceOf 0 = .ok (.aload_n 0, 1) := by decide +kernel
theorem dX10_priceOf_1 : decode cX10_priceOf 1 = .ok (.iload_n 1, 1) := by decide +kernel
theorem dX10_priceOf_2 : decode cX10_priceOf 2 = .ok (.iconst 1, 1) := by decide +kernel
theorem dX10_priceOf_3 : decode cX10_priceOf 3 = .ok (.invokevirtual 391, 3) := by decide +kernel
theorem dX10_priceOf_6 : decode cX10_priceOf 6 = .ok (.iconst 0, 1) := by decide +kernel
theorem dX10_priceOf_7 : decode cX10_priceOf 7 = .ok (.sipush 9999, 3) := by decide +kernel
theorem dX10_priceOf_10 : decode cX10_priceOf 10 = .ok (.invokestatic 394, 3) := by decide +kernel
theorem dX10_priceOf_13 : decode cX10_priceOf 13 = .ok (.ireturn, 1) := by decide +kernel
theorem dX10_openOf_0 : decode cX10_openOf 0 = .ok (.aload_n 0, 1) := by decide +kernel
theorem dX10_openOf_1 : decode cX10_openOf 1 = .ok (.iload_n 1, 1) := by decide +kernel
theorem dX10_openOf_2 : decode cX10_openOf 2 = .ok (.iconst 2, 1) := by decide +kernel
theorem dX10_openOf_3 : decode cX10_openOf 3 = .ok (.invokevirtual 391, 3) := by decide +kernel
theorem dX10_openOf_6 : decode cX10_openOf 6 = .ok (.iconst 1, 1) := by decide +kernel
theorem dX10_openOf_7 : decode cX10_openOf 7 = .ok (.sipush 999, 3) := by decide +kernel
theorem dX10_openOf_10 : decode cX10_openOf 10 = .ok (.invokestatic 394, 3) := by decide +kernel
theorem dX10_openOf_13 : decode cX10_openOf 13 = .ok (.ireturn, 1) := by decide +kernel
theorem dX10_left_0 : decode cX10_left 0 = .ok (.aload_n 0, 1) := by decide +kernel
theorem dX10_left_1 : decode cX10_left 1 = .ok (.iload_n 1, 1) := by decide +kernel
theorem dX10_left_2 : decode cX10_left 2 = .ok (.invokevirtual 165, 3) := by decide +kernel
theorem dX10_left_5 : decode cX10_left 5 = .ok (.ifCond .eq 15, 3) := by decide +kernel
theorem dX10_left_8 : decode cX10_left 8 = .ok (.iload_n 2, 1) := by decide +kernel
theorem dX10_left_9 : decode cX10_left 9 = .ok (.i2l, 1) := by decide +kernel
theorem dX10_left_10 : decode cX10_left 10 = .ok (.lconst 0, 1) := by decide +kernel
theorem dX10_left_11 : decode cX10_left 11 = .ok (.ldc2_w 168, 3) := by decide +kernel
theorem dX10_left_14 : decode cX10_left 14 = .ok (.invokestatic 149, 3) := by decide +kernel
theorem dX10_left_17 : decode cX10_left 17 = .ok (.ifCond .ne 6, 3) := by decide +kernel
theorem dX10_left_20 : decode cX10_left 20 = .ok (.bipush (-2), 2) := by decide +kernel
theorem dX10_left_22 : decode cX10_left 22 = .ok (.ireturn, 1) := by decide +kernel
theorem dX10_left_23 : decode cX10_left 23 = .ok (.aload_n 0, 1) := by decide +kernel
theorem dX10_left_24 : decode cX10_left 24 = .ok (.getfield 26, 3) := by decide +kernel
theorem dX10_left_27 : decode cX10_left 27 = .ok (.iload_n 1, 1) := by decide +kernel
theorem dX10_left_28 : decode cX10_left 28 = .ok (.iaload, 1) := by decide +kernel
theorem dX10_left_29 : decode cX10_left 29 = .ok (.aload_n 0, 1) := by decide +kernel
theorem dX10_left_30 : decode cX10_left 30 = .ok (.getfield 29, 3) := by decide +kernel
theorem dX10_left_33 : decode cX10_left 33 = .ok (.iload_n 1, 1) := by decide +kernel
theorem dX10_left_34 : decode cX10_left 34 = .ok (.iaload, 1) := by decide +kernel
theorem dX10_left_35 : decode cX10_left 35 = .ok (.if_icmp .le 19, 3) := by decide +kernel
theorem dX10_left_38 : decode cX10_left 38 = .ok (.aload_n 0, 1) := by decide +kernel
theorem dX10_left_39 : decode cX10_left 39 = .ok (.getfield 26, 3) := by decide +kernel
theorem dX10_left_42 : decode cX10_left 42 = .ok (.iload_n 1, 1) := by decide +kernel
theorem dX10_left_43 : decode cX10_left 43 = .ok (.iaload, 1) := by decide +kernel
theorem dX10_left_44 : decode cX10_left 44 = .ok (.aload_n 0, 1) := by decide +kernel
theorem dX10_left_45 : decode cX10_left 45 = .ok (.getfield 29, 3) := by decide +kernel
theorem dX10_left_48 : decode cX10_left 48 = .ok (.iload_n 1, 1) := by decide +kernel
theorem dX10_left_49 : decode cX10_left 49 = .ok (.iaload, 1) := by decide +kernel
theorem dX10_left_50 : decode cX10_left 50 = .ok (.isub, 1) := by decide +kernel
theorem dX10_left_51 : decode cX10_left 51 = .ok (.goto 4, 3) := by decide +kernel
theorem dX10_left_54 : decode cX10_left 54 = .ok (.iconst 0, 1) := by decide +kernel
theorem dX10_left_55 : decode cX10_left 55 = .ok (.istore_n 3, 1) := by decide +kernel
theorem dX10_left_56 : decode cX10_left 56 = .ok (.aload_n 0, 1) := by decide +kernel
theorem dX10_left_57 : decode cX10_left 57 = .ok (.iload_n 1, 1) := by decide +kernel
theorem dX10_left_58 : decode cX10_left 58 = .ok (.invokevirtual 388, 3) := by decide +kernel
theorem dX10_left_61 : decode cX10_left 61 = .ok (.istore 4, 2) := by decide +kernel
theorem dX10_left_63 : decode cX10_left 63 = .ok (.iload_n 2, 1) := by decide +kernel
theorem dX10_left_64 : decode cX10_left 64 = .ok (.ifCond .ne 7, 3) := by decide +kernel
theorem dX10_left_67 : decode cX10_left 67 = .ok (.iload_n 3, 1) := by decide +kernel
theorem dX10_left_68 : decode cX10_left 68 = .ok (.goto 27, 3) := by decide +kernel
theorem dX10_left_71 : decode cX10_left 71 = .ok (.iload_n 2, 1) := by decide +kernel
theorem dX10_left_72 : decode cX10_left 72 = .ok (.iconst 2, 1) := by decide +kernel
theorem dX10_left_73 : decode cX10_left 73 = .ok (.if_icmp .ne 8, 3) := by decide +kernel
theorem dX10_left_76 : decode cX10_left 76 = .ok (.iload 4, 2) := by decide +kernel
theorem dX10_left_78 : decode cX10_left 78 = .ok (.goto 17, 3) := by decide +kernel
theorem dX10_left_81 : decode cX10_left 81 = .ok (.iload 4, 2) := by decide +kernel
theorem dX10_left_83 : decode cX10_left 83 = .ok (.iload_n 3, 1) := by decide +kernel
theorem dX10_left_84 : decode cX10_left 84 = .ok (.if_icmp .le 10, 3) := by decide +kernel
theorem dX10_left_87 : decode cX10_left 87 = .ok (.iload 4, 2) := by decide +kernel
theorem dX10_left_89 : decode cX10_left 89 = .ok (.iload_n 3, 1) := by decide +kernel
theorem dX10_left_90 : decode cX10_left 90 = .ok (.isub, 1) := by decide +kernel
theorem dX10_left_91 : decode cX10_left 91 = .ok (.goto 4, 3) := by decide +kernel
theorem dX10_left_94 : decode cX10_left 94 = .ok (.iconst 0, 1) := by decide +kernel
theorem dX10_left_95 : decode cX10_left 95 = .ok (.ireturn, 1) := by decide +kernel
theorem dX10_common_0 : decode cX10_common 0 = .ok (.lload_n 0, 1) := by decide +kernel
theorem dX10_common_1 : decode cX10_common 1 = .ok (.lconst 0, 1) := by decide +kernel
theorem dX10_common_2 : decode cX10_common 2 = .ok (.lcmp, 1) := by decide +kernel
theorem dX10_common_3 : decode cX10_common 3 = .ok (.ifCond .ge 8, 3) := by decide +kernel
theorem dX10_common_6 : decode cX10_common 6 = .ok (.lload_n 0, 1) := by decide +kernel
theorem dX10_common_7 : decode cX10_common 7 = .ok (.lneg, 1) := by decide +kernel
theorem dX10_common_8 : decode cX10_common 8 = .ok (.goto 4, 3) := by decide +kernel
theorem dX10_common_11 : decode cX10_common 11 = .ok (.lload_n 0, 1) := by decide +kernel
theorem dX10_common_12 : decode cX10_common 12 = .ok (.lstore 4, 2) := by decide +kernel
theorem dX10_common_14 : decode cX10_common 14 = .ok (.lload_n 2, 1) := by decide +kernel
theorem dX10_common_15 : decode cX10_common 15 = .ok (.lstore 6, 2) := by decide +kernel
theorem dX10_common_17 : decode cX10_common 17 = .ok (.lload 6, 2) := by decide +kernel
theorem dX10_common_19 : decode cX10_common 19 = .ok (.lconst 0, 1) := by decide +kernel
theorem dX10_common_20 : decode cX10_common 20 = .ok (.lcmp, 1) := by decide +kernel
theorem dX10_common_21 : decode cX10_common 21 = .ok (.ifCond .eq 21, 3) := by decide +kernel
theorem dX10_common_24 : decode cX10_common 24 = .ok (.lload 4, 2) := by decide +kernel
theorem dX10_common_26 : decode cX10_common 26 = .ok (.lload 6, 2) := by decide +kernel
theorem dX10_common_28 : decode cX10_common 28 = .ok (.lrem, 1) := by decide +kernel
theorem dX10_common_29 : decode cX10_common 29 = .ok (.lstore 8, 2) := by decide +kernel
theorem dX10_common_31 : decode cX10_common 31 = .ok (.lload 6, 2) := by decide +kernel
theorem dX10_common_33 : decode cX10_common 33 = .ok (.lstore 4, 2) := by decide +kernel
theorem dX10_common_35 : decode cX10_common 35 = .ok (.lload 8, 2) := by decide +kernel
theorem dX10_common_37 : decode cX10_common 37 = .ok (.lstore 6, 2) := by decide +kernel
theorem dX10_common_39 : decode cX10_common 39 = .ok (.goto (-22), 3) := by decide +kernel
theorem dX10_common_42 : decode cX10_common 42 = .ok (.lload 4, 2) := by decide +kernel
theorem dX10_common_44 : decode cX10_common 44 = .ok (.lreturn, 1) := by decide +kernel
theorem dX10_odds_0 : decode cX10_odds 0 = .ok (.aload_n 0, 1) := by decide +kernel
theorem dX10_odds_1 : decode cX10_odds 1 = .ok (.iload_n 1, 1) := by decide +kernel
theorem dX10_odds_2 : decode cX10_odds 2 = .ok (.invokevirtual 186, 3) := by decide +kernel
theorem dX10_odds_5 : decode cX10_odds 5 = .ok (.ifCond .eq 13, 3) := by decide +kernel
theorem dX10_odds_8 : decode cX10_odds 8 = .ok (.iload_n 2, 1) := by decide +kernel
theorem dX10_odds_9 : decode cX10_odds 9 = .ok (.i2l, 1) := by decide +kernel
theorem dX10_odds_10 : decode cX10_odds 10 = .ok (.lconst 0, 1) := by decide +kernel
theorem dX10_odds_11 : decode cX10_odds 11 = .ok (.lconst 1, 1) := by decide +kernel
theorem dX10_odds_12 : decode cX10_odds 12 = .ok (.invokestatic 149, 3) := by decide +kernel
theorem dX10_odds_15 : decode cX10_odds 15 = .ok (.ifCond .ne 7, 3) := by decide +kernel
theorem dX10_odds_18 : decode cX10_odds 18 = .ok (.ldc2_w 398, 3) := by decide +kernel
theorem dX10_odds_21 : decode cX10_odds 21 = .ok (.lreturn, 1) := by decide +kernel
theorem dX10_odds_22 : decode cX10_odds 22 = .ok (.aload_n 0, 1) := by decide +kernel
theorem dX10_odds_23 : decode cX10_odds 23 = .ok (.iload_n 1, 1) := by decide +kernel
theorem dX10_odds_24 : decode cX10_odds 24 = .ok (.invokevirtual 209, 3) := by decide +kernel
